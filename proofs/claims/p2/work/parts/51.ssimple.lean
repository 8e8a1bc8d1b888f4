noncomputable def frV (fr : Nat) (k s p : Int32) : Int32 := cI (wi k 0 5 ∧ wi s 0 1 ∧ wi p 0 99) (cI (fr < 8) (nI fr) (-1000000003)) (-1000000001)
noncomputable def frN (N : Nat → Int32) (fr : Nat) (k s p : Int32) : Nat → Int32 := cI (wi k 0 5 ∧ wi s 0 1 ∧ wi p 0 99) (cI (fr < 8) (addN N fr k s p) N) N
set_option maxHeartbeats 4000000 in
set_option maxRecDepth 100000 in
theorem C_friend {X : List Int32} {d rc rs n : Nat} {Q : am_Q} {h : am_H} {N : Nat → Int32} {tx : List Value} {lk mv : Nat → Int32} {ik wc : Int32} {fr c : Nat} {k : Int32} {s : Int32} {p : Int32} (O : OB ik wc h) (F : QR 1 N tx lk mv h) (hR : RG N fr c) (hq : ∀ v9 N9 h9, v9 = frV fr k s p → N9 = frN N fr k s p → QR 1 N9 tx lk mv h9 → am_fp (fun k => k < 1 ∨ 13 ≤ k) h9 h → Q (some (.int v9)) n h9) : AW X mX7_friend (d + 12) rc rs 0 [some (.ref 0), some (.int k), some (.int s), some (.int p)] [] n h Q := by
  have h8r := hR.2.1
  have h14r := hR.2.2.2.1
  refine aw_iload_n (npc := 1) rfl dX7_friend_0 rfl ?_
  refine aw_callS (npc := 4) (N := mX7_isKind) (mc := 0) (ms := 0) (A := [.int k]) (S := []) (L0 := [some (.int k)]) dX7_friend_1 rfl km_X7_isKind kk_X7_67 rfl ⟨rfl, by decide⟩ rfl (Nat.le_of_ble_eq_true rfl) (Nat.zero_add _) (Nat.zero_add _) rfl ?_
  refine c_X7_isKind (fun hw1 => ?_) (fun hw1 => ?_)
  · refine aw_re (S' := [.int 1]) rfl ?_
    refine aw_if_eq (npc := 7) (tgt := 24) dX7_friend_4 rfl (by decide) (fun hc => absurd hc (by decide)) (fun _ => ?_)
    refine aw_iload_n (npc := 8) rfl dX7_friend_7 rfl ?_
    refine aw_callS (npc := 11) (N := mX7_isSide) (mc := 0) (ms := 0) (A := [.int s]) (S := []) (L0 := [some (.int s)]) dX7_friend_8 rfl km_X7_isSide kk_X7_71 rfl ⟨rfl, by decide⟩ rfl (Nat.le_of_ble_eq_true rfl) (Nat.zero_add _) (Nat.zero_add _) rfl ?_
    refine c_X7_isSide (fun hw2 => ?_) (fun hw2 => ?_)
    · refine aw_re (S' := [.int 1]) rfl ?_
      refine aw_if_eq (npc := 14) (tgt := 24) dX7_friend_11 rfl (by decide) (fun hc => absurd hc (by decide)) (fun _ => ?_)
      refine aw_iload_n (npc := 15) rfl dX7_friend_14 rfl ?_
      refine aw_iconst (npc := 16) (v := 0) (by decide) dX7_friend_15 rfl ?_
      refine aw_bipush (npc := 18) (v := 99) (by decide) dX7_friend_16 rfl ?_
      refine aw_callS (npc := 21) (N := mX7_within) (mc := 0) (ms := 0) (A := [.int p, .int 0, .int 99]) (S := []) (L0 := [some (.int p), some (.int 0), some (.int 99)]) dX7_friend_18 rfl km_X7_within kk_X7_74 rfl ⟨rfl, by decide⟩ rfl (Nat.le_of_ble_eq_true rfl) (Nat.zero_add _) (Nat.zero_add _) rfl ?_
      refine c_X7_within (fun hw3 => ?_) (fun hw3 => ?_)
      · refine aw_re (S' := [.int 1]) rfl ?_
        refine aw_if_ne (npc := 24) (tgt := 27) dX7_friend_21 rfl (by decide) (fun _ => ?_) (fun hc => absurd hc (by decide))
        refine aw_aload_n (npc := 28) rfl dX7_friend_27 rfl ?_
        refine aw_get (npc := 31) dX7_friend_28 rfl kf_X7_10 O.1 rfl ?_
        refine aw_get (npc := 34) dX7_friend_31 rfl kf_X7_79 F.1 rfl ?_
        refine aw_top (y := nI fr) (hR.1) ?_
        refine aw_bipush (npc := 36) (v := 8) (by decide) dX7_friend_34 rfl ?_
        refine aw_icmp_lt (npc := 39) (tgt := 42) dX7_friend_36 rfl (by decide) (fun hc4 => ?_) (fun hc4 => ?_)
        · have hc4N := (nI_ltI (a := fr) (b := 8) (by omega) (by omega)).mp hc4
          refine aw_aload_n (npc := 43) rfl dX7_friend_42 rfl ?_
          refine aw_get (npc := 46) dX7_friend_43 rfl kf_X7_10 O.1 rfl ?_
          refine aw_iload_n (npc := 47) rfl dX7_friend_46 rfl ?_
          refine aw_iload_n (npc := 48) rfl dX7_friend_47 rfl ?_
          refine aw_iload_n (npc := 49) rfl dX7_friend_48 rfl ?_
          refine aw_callV (npc := 52) (N := mX0_addFriend) (b := 1) (mc := 0) (ms := 0) (A := [.int k, .int s, .int p]) (S := []) (L0 := [some (.ref 1), some (.int k), some (.int s), some (.int p)]) dX7_friend_49 rfl km_X0_addFriend kk_X7_83 F.1 ⟨by decide, rfl⟩ rfl ⟨rfl, by decide⟩ rfl (Nat.le_of_ble_eq_true rfl) (Nat.zero_add _) (Nat.zero_add _) rfl ?_
          have hlt9 : fr < 8 := by omega
          refine g_addFriend (f := fr) F hR.1 hlt9 (fun hp7 F5 fz6 => ?_)
          have O8 := ob_frame O (fz6 0 (by omega)) (fz6 43 (by omega)) (fz6 44 (by omega))
          refine aw_aload_n (npc := 53) rfl dX7_friend_52 rfl ?_
          refine aw_get (npc := 56) dX7_friend_53 rfl kf_X7_10 O8.1 rfl ?_
          refine aw_get (npc := 59) dX7_friend_56 rfl kf_X7_79 F5.1 rfl ?_
          refine aw_top (y := nI (fr + 1)) (pk_us) ?_
          refine aw_iconst (npc := 60) (v := 1) (by decide) dX7_friend_59 rfl ?_
          refine aw_isubV (npc := 61) (v := nI ((fr + 1) - 1)) dX7_friend_60 rfl (pk_sub (b := 1) (by omega)) ?_
          refine aw_iret rfl dX7_friend_61 ?_
          exact hq _ _ _ (by by_cases hz9 : fr < 8 <;> first | (exfalso; omega) | (simp [frV, frN, cI, hz9, hw1, hw2, hw3, hc4, hc4N]; done) | (simp [frV, frN, cI, hz9, hw1, hw2, hw3, hc4, hc4N]; omega)) (by by_cases hz9 : fr < 8 <;> first | (exfalso; omega) | (simp [frV, frN, cI, hz9, hw1, hw2, hw3, hc4, hc4N]; done) | (simp [frV, frN, cI, hz9, hw1, hw2, hw3, hc4, hc4N]; omega)) F5 (am_fpT (fun k (hk : k < 1 ∨ 13 ≤ k) => fz6 k (by omega)) am_fp0)
        · have hc4N : ¬ fr < 8 := fun z => hc4 ((nI_ltI (a := fr) (b := 8) (by omega) (by omega)).mpr z)
          refine aw_ldc (npc := 41) kc_X7_82 dX7_friend_39 rfl ?_
          refine aw_iret rfl dX7_friend_41 ?_
          exact hq _ _ _ (by by_cases hz9 : fr < 8 <;> first | (exfalso; omega) | (simp [frV, frN, cI, hz9, hw1, hw2, hw3, hc4, hc4N]; done) | (simp [frV, frN, cI, hz9, hw1, hw2, hw3, hc4, hc4N]; omega)) (by by_cases hz9 : fr < 8 <;> first | (exfalso; omega) | (simp [frV, frN, cI, hz9, hw1, hw2, hw3, hc4, hc4N]; done) | (simp [frV, frN, cI, hz9, hw1, hw2, hw3, hc4, hc4N]; omega)) F am_fp0
      · refine aw_re (S' := [.int 0]) rfl ?_
        refine aw_if_ne (npc := 24) (tgt := 27) dX7_friend_21 rfl (by decide) (fun hc => absurd (by decide) hc) (fun _ => ?_)
        refine aw_ldc (npc := 26) kc_X7_78 dX7_friend_24 rfl ?_
        refine aw_iret rfl dX7_friend_26 ?_
        exact hq _ _ _ (by by_cases hz9 : fr < 8 <;> first | (exfalso; omega) | (simp [frV, frN, cI, hz9, hw1, hw2, hw3]; done) | (simp [frV, frN, cI, hz9, hw1, hw2, hw3]; omega)) (by by_cases hz9 : fr < 8 <;> first | (exfalso; omega) | (simp [frV, frN, cI, hz9, hw1, hw2, hw3]; done) | (simp [frV, frN, cI, hz9, hw1, hw2, hw3]; omega)) F am_fp0
    · refine aw_re (S' := [.int 0]) rfl ?_
      refine aw_if_eq (npc := 14) (tgt := 24) dX7_friend_11 rfl (by decide) (fun _ => ?_) (fun hc => absurd (by decide) hc)
      refine aw_ldc (npc := 26) kc_X7_78 dX7_friend_24 rfl ?_
      refine aw_iret rfl dX7_friend_26 ?_
      exact hq _ _ _ (by by_cases hz9 : fr < 8 <;> first | (exfalso; omega) | (simp [frV, frN, cI, hz9, hw1, hw2]; done) | (simp [frV, frN, cI, hz9, hw1, hw2]; omega)) (by by_cases hz9 : fr < 8 <;> first | (exfalso; omega) | (simp [frV, frN, cI, hz9, hw1, hw2]; done) | (simp [frV, frN, cI, hz9, hw1, hw2]; omega)) F am_fp0
  · refine aw_re (S' := [.int 0]) rfl ?_
    refine aw_if_eq (npc := 7) (tgt := 24) dX7_friend_4 rfl (by decide) (fun _ => ?_) (fun hc => absurd (by decide) hc)
    refine aw_ldc (npc := 26) kc_X7_78 dX7_friend_24 rfl ?_
    refine aw_iret rfl dX7_friend_26 ?_
    exact hq _ _ _ (by by_cases hz9 : fr < 8 <;> first | (exfalso; omega) | (simp [frV, frN, cI, hz9, hw1]; done) | (simp [frV, frN, cI, hz9, hw1]; omega)) (by by_cases hz9 : fr < 8 <;> first | (exfalso; omega) | (simp [frV, frN, cI, hz9, hw1]; done) | (simp [frV, frN, cI, hz9, hw1]; omega)) F am_fp0
set_option maxHeartbeats 4000000 in
set_option maxRecDepth 100000 in
theorem M_friend {X : List Int32} {d rc rs n : Nat} {Q : am_Q} {h : am_H} {o N : Nat → Int32} {a : Nat → Nat → Int32} {fr c : Nat} {k : Int32} {s : Int32} {p : Int32} (F : MR o N a h) (hR : RG N fr c) (hq : ∀ v9 N9 h9, v9 = frV fr k s p → N9 = frN N fr k s p → MR o N9 a h9 → am_fp (fun k => k < 69 ∨ 92 ≤ k) h9 h → Q (some (.int v9)) n h9) : AW X mX8_friend (d + 12) rc rs 0 [some (.ref 69), some (.int k), some (.int s), some (.int p)] [] n h Q := by
  have h8r := hR.2.1
  have h14r := hR.2.2.2.1
  refine aw_iload_n (npc := 1) rfl dX8_friend_0 rfl ?_
  refine aw_iconst (npc := 2) (v := 0) (by decide) dX8_friend_1 rfl ?_
  refine aw_iconst (npc := 3) (v := 5) (by decide) dX8_friend_2 rfl ?_
  refine aw_callS (npc := 6) (N := mX8_in) (mc := 0) (ms := 0) (A := [.int k, .int 0, .int 5]) (S := []) (L0 := [some (.int k), some (.int 0), some (.int 5)]) dX8_friend_3 rfl km_X8_in kk_X8_83 rfl ⟨rfl, by decide⟩ rfl (Nat.le_of_ble_eq_true rfl) (Nat.zero_add _) (Nat.zero_add _) rfl ?_
  refine c_X8_in (fun hw1 => ?_) (fun hw1 => ?_)
  · refine aw_re (S' := [.int 1]) rfl ?_
    refine aw_if_eq (npc := 9) (tgt := 28) dX8_friend_6 rfl (by decide) (fun hc => absurd hc (by decide)) (fun _ => ?_)
    refine aw_iload_n (npc := 10) rfl dX8_friend_9 rfl ?_
    refine aw_iconst (npc := 11) (v := 0) (by decide) dX8_friend_10 rfl ?_
    refine aw_iconst (npc := 12) (v := 1) (by decide) dX8_friend_11 rfl ?_
    refine aw_callS (npc := 15) (N := mX8_in) (mc := 0) (ms := 0) (A := [.int s, .int 0, .int 1]) (S := []) (L0 := [some (.int s), some (.int 0), some (.int 1)]) dX8_friend_12 rfl km_X8_in kk_X8_83 rfl ⟨rfl, by decide⟩ rfl (Nat.le_of_ble_eq_true rfl) (Nat.zero_add _) (Nat.zero_add _) rfl ?_
    refine c_X8_in (fun hw2 => ?_) (fun hw2 => ?_)
    · refine aw_re (S' := [.int 1]) rfl ?_
      refine aw_if_eq (npc := 18) (tgt := 28) dX8_friend_15 rfl (by decide) (fun hc => absurd hc (by decide)) (fun _ => ?_)
      refine aw_iload_n (npc := 19) rfl dX8_friend_18 rfl ?_
      refine aw_iconst (npc := 20) (v := 0) (by decide) dX8_friend_19 rfl ?_
      refine aw_bipush (npc := 22) (v := 99) (by decide) dX8_friend_20 rfl ?_
      refine aw_callS (npc := 25) (N := mX8_in) (mc := 0) (ms := 0) (A := [.int p, .int 0, .int 99]) (S := []) (L0 := [some (.int p), some (.int 0), some (.int 99)]) dX8_friend_22 rfl km_X8_in kk_X8_83 rfl ⟨rfl, by decide⟩ rfl (Nat.le_of_ble_eq_true rfl) (Nat.zero_add _) (Nat.zero_add _) rfl ?_
      refine c_X8_in (fun hw3 => ?_) (fun hw3 => ?_)
      · refine aw_re (S' := [.int 1]) rfl ?_
        refine aw_if_ne (npc := 28) (tgt := 31) dX8_friend_25 rfl (by decide) (fun _ => ?_) (fun hc => absurd hc (by decide))
        refine aw_aload_n (npc := 32) rfl dX8_friend_31 rfl ?_
        refine aw_get (npc := 35) dX8_friend_32 rfl kf_X8_9 F.1 rfl ?_
        refine aw_iconst (npc := 36) (v := 1) (by decide) dX8_friend_35 rfl ?_
        refine aw_iald (npc := 37) (x := N 1) (j := 1) dX8_friend_36 rfl F.2.1 ⟨by decide, by decide⟩ (tl_at (by omega)) ?_
        refine aw_top (y := nI fr) (hR.1) ?_
        refine aw_bipush (npc := 39) (v := 8) (by decide) dX8_friend_37 rfl ?_
        refine aw_icmp_ne (npc := 42) (tgt := 47) dX8_friend_39 rfl (by decide) (fun hc4 => ?_) (fun hc4 => ?_)
        · have hc4N : ¬ fr = 8 := fun z => hc4 ((nI_eq (a := fr) (b := 8) (by omega) (by omega)).mpr z)
          refine aw_aload_n (npc := 48) rfl dX8_friend_47 rfl ?_
          refine aw_iload_n (npc := 49) rfl dX8_friend_48 rfl ?_
          refine aw_iload_n (npc := 50) rfl dX8_friend_49 rfl ?_
          refine aw_iload_n (npc := 51) rfl dX8_friend_50 rfl ?_
          refine aw_callV (npc := 54) (N := mX8_comes) (b := 69) (mc := 0) (ms := 0) (A := [.int k, .int s, .int p]) (S := []) (L0 := [some (.ref 69), some (.int k), some (.int s), some (.int p), none]) dX8_friend_51 rfl km_X8_comes kk_X8_93 F.1 ⟨by decide, rfl⟩ rfl ⟨rfl, by decide⟩ rfl (Nat.le_of_ble_eq_true rfl) (Nat.zero_add _) (Nat.zero_add _) rfl ?_
          have hlt9 : fr < 8 := by have z := hR.2.1; omega
          refine m_comes (f := fr) F hR.1 hlt9 (fun hp7 F5 fz6 => ?_)
          refine aw_re (S' := [.int (nI fr)]) rfl ?_
          refine aw_iret rfl dX8_friend_54 ?_
          exact hq _ _ _ (by by_cases hz9 : fr < 8 <;> first | (exfalso; omega) | (simp [frV, frN, cI, hz9, hw1, hw2, hw3, hc4, hc4N]; done) | (simp [frV, frN, cI, hz9, hw1, hw2, hw3, hc4, hc4N]; omega)) (by by_cases hz9 : fr < 8 <;> first | (exfalso; omega) | (simp [frV, frN, cI, hz9, hw1, hw2, hw3, hc4, hc4N]; done) | (simp [frV, frN, cI, hz9, hw1, hw2, hw3, hc4, hc4N]; omega)) F5 (am_fpT (fun k (hk : k < 69 ∨ 92 ≤ k) => fz6 k (by omega)) am_fp0)
        · have hc4N := (nI_eq (a := fr) (b := 8) (by omega) (by omega)).mp hc4
          refine aw_ldc (npc := 44) kc_X8_92 dX8_friend_42 rfl ?_
          refine aw_goto (npc := 54) dX8_friend_44 (by decide) ?_
          refine aw_iret rfl dX8_friend_54 ?_
          exact hq _ _ _ (by by_cases hz9 : fr < 8 <;> first | (exfalso; omega) | (simp [frV, frN, cI, hz9, hw1, hw2, hw3, hc4, hc4N]; done) | (simp [frV, frN, cI, hz9, hw1, hw2, hw3, hc4, hc4N]; omega)) (by by_cases hz9 : fr < 8 <;> first | (exfalso; omega) | (simp [frV, frN, cI, hz9, hw1, hw2, hw3, hc4, hc4N]; done) | (simp [frV, frN, cI, hz9, hw1, hw2, hw3, hc4, hc4N]; omega)) F am_fp0
      · refine aw_re (S' := [.int 0]) rfl ?_
        refine aw_if_ne (npc := 28) (tgt := 31) dX8_friend_25 rfl (by decide) (fun hc => absurd (by decide) hc) (fun _ => ?_)
        refine aw_ldc (npc := 30) kc_X8_91 dX8_friend_28 rfl ?_
        refine aw_iret rfl dX8_friend_30 ?_
        exact hq _ _ _ (by by_cases hz9 : fr < 8 <;> first | (exfalso; omega) | (simp [frV, frN, cI, hz9, hw1, hw2, hw3]; done) | (simp [frV, frN, cI, hz9, hw1, hw2, hw3]; omega)) (by by_cases hz9 : fr < 8 <;> first | (exfalso; omega) | (simp [frV, frN, cI, hz9, hw1, hw2, hw3]; done) | (simp [frV, frN, cI, hz9, hw1, hw2, hw3]; omega)) F am_fp0
    · refine aw_re (S' := [.int 0]) rfl ?_
      refine aw_if_eq (npc := 18) (tgt := 28) dX8_friend_15 rfl (by decide) (fun _ => ?_) (fun hc => absurd (by decide) hc)
      refine aw_ldc (npc := 30) kc_X8_91 dX8_friend_28 rfl ?_
      refine aw_iret rfl dX8_friend_30 ?_
      exact hq _ _ _ (by by_cases hz9 : fr < 8 <;> first | (exfalso; omega) | (simp [frV, frN, cI, hz9, hw1, hw2]; done) | (simp [frV, frN, cI, hz9, hw1, hw2]; omega)) (by by_cases hz9 : fr < 8 <;> first | (exfalso; omega) | (simp [frV, frN, cI, hz9, hw1, hw2]; done) | (simp [frV, frN, cI, hz9, hw1, hw2]; omega)) F am_fp0
  · refine aw_re (S' := [.int 0]) rfl ?_
    refine aw_if_eq (npc := 9) (tgt := 28) dX8_friend_6 rfl (by decide) (fun _ => ?_) (fun hc => absurd (by decide) hc)
    refine aw_ldc (npc := 30) kc_X8_91 dX8_friend_28 rfl ?_
    refine aw_iret rfl dX8_friend_30 ?_
    exact hq _ _ _ (by by_cases hz9 : fr < 8 <;> first | (exfalso; omega) | (simp [frV, frN, cI, hz9, hw1]; done) | (simp [frV, frN, cI, hz9, hw1]; omega)) (by by_cases hz9 : fr < 8 <;> first | (exfalso; omega) | (simp [frV, frN, cI, hz9, hw1]; done) | (simp [frV, frN, cI, hz9, hw1]; omega)) F am_fp0
def undr (k g : Int32) : Bool := g == 0 || k == g || (g == 1 && k == 3) || (g == 2 && k == 4)
theorem undr_all : ∀ k : Fin 6, ∀ g : Fin 6, True := fun _ _ => trivial
set_option maxHeartbeats 4000000 in
set_option maxRecDepth 100000 in
theorem c_X7_isUnder {X : List Int32} {d rc rs n : Nat} {Q : am_Q} {h : am_H} {k g : Int32} (hk : wi k 0 5) (hg : wi g 0 5) (hq : Q (some (.int (if undr k g then 1 else 0))) n h) : AW X mX7_isUnder (d + 3) rc rs 0 [some (.int k), some (.int g), none, none] [] n h Q := by
  rcases wi_c0_5 hk with ek | ek | ek | ek | ek | ek <;> rcases wi_c0_5 hg with eg | eg | eg | eg | eg | eg
  · refine aw_locs (L' := [some (.int 0), some (.int 0), none, none]) (by rw [ek, eg]) ?_
    refine aw_iload_n (npc := 1) rfl dX7_isUnder_0 rfl ?_
    refine aw_istore_n (npc := 2) (L' := [some (.int 0), some (.int 0), some (.int 0), none]) dX7_isUnder_1 rfl (by decide) rfl rfl ?_
    refine aw_iconst (npc := 3) (v := 0) (by decide) dX7_isUnder_2 rfl ?_
    refine aw_istore_n (npc := 4) (L' := [some (.int 0), some (.int 0), some (.int 0), some (.int 0)]) dX7_isUnder_3 rfl (by decide) rfl rfl ?_
    refine aw_iload_n (npc := 5) rfl dX7_isUnder_4 rfl ?_
    refine aw_bipush (npc := 7) (v := 6) (by decide) dX7_isUnder_5 rfl ?_
    refine aw_icmp_ge (npc := 10) (tgt := 36) dX7_isUnder_7 rfl (by decide) (fun hc => absurd hc (by decide)) (fun _ => ?_)
    refine aw_iload_n (npc := 11) rfl dX7_isUnder_10 rfl ?_
    refine aw_callS (npc := 14) (N := mX7_isKind) (mc := 0) (ms := 0) (A := [.int 0]) (S := []) (L0 := [some (.int 0)]) dX7_isUnder_11 rfl km_X7_isKind kk_X7_67 rfl ⟨rfl, by decide⟩ rfl (Nat.le_of_ble_eq_true rfl) (Nat.zero_add _) (Nat.zero_add _) rfl ?_
    refine c_X7_isKind (fun _ => ?_) (fun hw1 => absurd ⟨by decide, by decide⟩ hw1)
    refine aw_re (S' := [.int 1]) rfl ?_
    refine aw_if_eq (npc := 17) (tgt := 36) dX7_isUnder_14 rfl (by decide) (fun hc => absurd hc (by decide)) (fun _ => ?_)
    refine aw_iload_n (npc := 18) rfl dX7_isUnder_17 rfl ?_
    refine aw_iload_n (npc := 19) rfl dX7_isUnder_18 rfl ?_
    refine aw_icmp_ne (npc := 22) (tgt := 24) dX7_isUnder_19 rfl (by decide) (fun hc => absurd (by decide) hc) (fun _ => ?_)
    refine aw_iconst (npc := 23) (v := 1) (by decide) dX7_isUnder_22 rfl ?_
    refine aw_zret rfl rfl dX7_isUnder_23 ?_
    exact (show (if undr k g then (1 : Int32) else 0) = 1 by rw [ek, eg]; decide) ▸ hq
  · refine aw_locs (L' := [some (.int 0), some (.int 1), none, none]) (by rw [ek, eg]) ?_
    refine aw_iload_n (npc := 1) rfl dX7_isUnder_0 rfl ?_
    refine aw_istore_n (npc := 2) (L' := [some (.int 0), some (.int 1), some (.int 0), none]) dX7_isUnder_1 rfl (by decide) rfl rfl ?_
    refine aw_iconst (npc := 3) (v := 0) (by decide) dX7_isUnder_2 rfl ?_
    refine aw_istore_n (npc := 4) (L' := [some (.int 0), some (.int 1), some (.int 0), some (.int 0)]) dX7_isUnder_3 rfl (by decide) rfl rfl ?_
    refine aw_iload_n (npc := 5) rfl dX7_isUnder_4 rfl ?_
    refine aw_bipush (npc := 7) (v := 6) (by decide) dX7_isUnder_5 rfl ?_
    refine aw_icmp_ge (npc := 10) (tgt := 36) dX7_isUnder_7 rfl (by decide) (fun hc => absurd hc (by decide)) (fun _ => ?_)
    refine aw_iload_n (npc := 11) rfl dX7_isUnder_10 rfl ?_
    refine aw_callS (npc := 14) (N := mX7_isKind) (mc := 0) (ms := 0) (A := [.int 0]) (S := []) (L0 := [some (.int 0)]) dX7_isUnder_11 rfl km_X7_isKind kk_X7_67 rfl ⟨rfl, by decide⟩ rfl (Nat.le_of_ble_eq_true rfl) (Nat.zero_add _) (Nat.zero_add _) rfl ?_
    refine c_X7_isKind (fun _ => ?_) (fun hw2 => absurd ⟨by decide, by decide⟩ hw2)
    refine aw_re (S' := [.int 1]) rfl ?_
    refine aw_if_eq (npc := 17) (tgt := 36) dX7_isUnder_14 rfl (by decide) (fun hc => absurd hc (by decide)) (fun _ => ?_)
    refine aw_iload_n (npc := 18) rfl dX7_isUnder_17 rfl ?_
    refine aw_iload_n (npc := 19) rfl dX7_isUnder_18 rfl ?_
    refine aw_icmp_ne (npc := 22) (tgt := 24) dX7_isUnder_19 rfl (by decide) (fun _ => ?_) (fun hc => absurd hc (by decide))
    refine aw_above (npc := 27) dX7_isUnder_24 rfl ks_X7_322 ?_
    refine aw_iload_n (npc := 28) rfl dX7_isUnder_27 rfl ?_
    refine aw_above_ld (npc := 29) (j := 0) dX7_isUnder_28 rfl ⟨by decide, by decide⟩ rfl ?_
    refine aw_istore_n (npc := 30) (L' := [some (.int 0), some (.int 1), some (.int (-1)), some (.int 0)]) dX7_isUnder_29 rfl (by decide) rfl rfl ?_
    refine aw_iinc (npc := 33) (v := 1) (L' := [some (.int 0), some (.int 1), some (.int (-1)), some (.int 1)]) dX7_isUnder_30 rfl rfl (by decide) (by decide) rfl rfl ?_
    refine aw_goto (npc := 4) dX7_isUnder_33 (by decide) ?_
    refine aw_iload_n (npc := 5) rfl dX7_isUnder_4 rfl ?_
    refine aw_bipush (npc := 7) (v := 6) (by decide) dX7_isUnder_5 rfl ?_
    refine aw_icmp_ge (npc := 10) (tgt := 36) dX7_isUnder_7 rfl (by decide) (fun hc => absurd hc (by decide)) (fun _ => ?_)
    refine aw_iload_n (npc := 11) rfl dX7_isUnder_10 rfl ?_
    refine aw_callS (npc := 14) (N := mX7_isKind) (mc := 0) (ms := 0) (A := [.int (-1)]) (S := []) (L0 := [some (.int (-1))]) dX7_isUnder_11 rfl km_X7_isKind kk_X7_67 rfl ⟨rfl, by decide⟩ rfl (Nat.le_of_ble_eq_true rfl) (Nat.zero_add _) (Nat.zero_add _) rfl ?_
    refine c_X7_isKind (fun hw3 => absurd hw3 (fun z => absurd z (by unfold wi; decide))) (fun _ => ?_)
    refine aw_re (S' := [.int 0]) rfl ?_
    refine aw_if_eq (npc := 17) (tgt := 36) dX7_isUnder_14 rfl (by decide) (fun _ => ?_) (fun hc => absurd (by decide) hc)
    refine aw_iconst (npc := 37) (v := 0) (by decide) dX7_isUnder_36 rfl ?_
    refine aw_zret rfl rfl dX7_isUnder_37 ?_
    exact (show (if undr k g then (1 : Int32) else 0) = 0 by rw [ek, eg]; decide) ▸ hq
  · refine aw_locs (L' := [some (.int 0), some (.int 2), none, none]) (by rw [ek, eg]) ?_
    refine aw_iload_n (npc := 1) rfl dX7_isUnder_0 rfl ?_
    refine aw_istore_n (npc := 2) (L' := [some (.int 0), some (.int 2), some (.int 0), none]) dX7_isUnder_1 rfl (by decide) rfl rfl ?_
    refine aw_iconst (npc := 3) (v := 0) (by decide) dX7_isUnder_2 rfl ?_
    refine aw_istore_n (npc := 4) (L' := [some (.int 0), some (.int 2), some (.int 0), some (.int 0)]) dX7_isUnder_3 rfl (by decide) rfl rfl ?_
    refine aw_iload_n (npc := 5) rfl dX7_isUnder_4 rfl ?_
    refine aw_bipush (npc := 7) (v := 6) (by decide) dX7_isUnder_5 rfl ?_
    refine aw_icmp_ge (npc := 10) (tgt := 36) dX7_isUnder_7 rfl (by decide) (fun hc => absurd hc (by decide)) (fun _ => ?_)
    refine aw_iload_n (npc := 11) rfl dX7_isUnder_10 rfl ?_
    refine aw_callS (npc := 14) (N := mX7_isKind) (mc := 0) (ms := 0) (A := [.int 0]) (S := []) (L0 := [some (.int 0)]) dX7_isUnder_11 rfl km_X7_isKind kk_X7_67 rfl ⟨rfl, by decide⟩ rfl (Nat.le_of_ble_eq_true rfl) (Nat.zero_add _) (Nat.zero_add _) rfl ?_
    refine c_X7_isKind (fun _ => ?_) (fun hw4 => absurd ⟨by decide, by decide⟩ hw4)
    refine aw_re (S' := [.int 1]) rfl ?_
    refine aw_if_eq (npc := 17) (tgt := 36) dX7_isUnder_14 rfl (by decide) (fun hc => absurd hc (by decide)) (fun _ => ?_)
    refine aw_iload_n (npc := 18) rfl dX7_isUnder_17 rfl ?_
    refine aw_iload_n (npc := 19) rfl dX7_isUnder_18 rfl ?_
    refine aw_icmp_ne (npc := 22) (tgt := 24) dX7_isUnder_19 rfl (by decide) (fun _ => ?_) (fun hc => absurd hc (by decide))
    refine aw_above (npc := 27) dX7_isUnder_24 rfl ks_X7_322 ?_
    refine aw_iload_n (npc := 28) rfl dX7_isUnder_27 rfl ?_
    refine aw_above_ld (npc := 29) (j := 0) dX7_isUnder_28 rfl ⟨by decide, by decide⟩ rfl ?_
    refine aw_istore_n (npc := 30) (L' := [some (.int 0), some (.int 2), some (.int (-1)), some (.int 0)]) dX7_isUnder_29 rfl (by decide) rfl rfl ?_
    refine aw_iinc (npc := 33) (v := 1) (L' := [some (.int 0), some (.int 2), some (.int (-1)), some (.int 1)]) dX7_isUnder_30 rfl rfl (by decide) (by decide) rfl rfl ?_
    refine aw_goto (npc := 4) dX7_isUnder_33 (by decide) ?_
    refine aw_iload_n (npc := 5) rfl dX7_isUnder_4 rfl ?_
    refine aw_bipush (npc := 7) (v := 6) (by decide) dX7_isUnder_5 rfl ?_
    refine aw_icmp_ge (npc := 10) (tgt := 36) dX7_isUnder_7 rfl (by decide) (fun hc => absurd hc (by decide)) (fun _ => ?_)
    refine aw_iload_n (npc := 11) rfl dX7_isUnder_10 rfl ?_
    refine aw_callS (npc := 14) (N := mX7_isKind) (mc := 0) (ms := 0) (A := [.int (-1)]) (S := []) (L0 := [some (.int (-1))]) dX7_isUnder_11 rfl km_X7_isKind kk_X7_67 rfl ⟨rfl, by decide⟩ rfl (Nat.le_of_ble_eq_true rfl) (Nat.zero_add _) (Nat.zero_add _) rfl ?_
    refine c_X7_isKind (fun hw5 => absurd hw5 (fun z => absurd z (by unfold wi; decide))) (fun _ => ?_)
    refine aw_re (S' := [.int 0]) rfl ?_
    refine aw_if_eq (npc := 17) (tgt := 36) dX7_isUnder_14 rfl (by decide) (fun _ => ?_) (fun hc => absurd (by decide) hc)
    refine aw_iconst (npc := 37) (v := 0) (by decide) dX7_isUnder_36 rfl ?_
    refine aw_zret rfl rfl dX7_isUnder_37 ?_
    exact (show (if undr k g then (1 : Int32) else 0) = 0 by rw [ek, eg]; decide) ▸ hq
  · refine aw_locs (L' := [some (.int 0), some (.int 3), none, none]) (by rw [ek, eg]) ?_
    refine aw_iload_n (npc := 1) rfl dX7_isUnder_0 rfl ?_
    refine aw_istore_n (npc := 2) (L' := [some (.int 0), some (.int 3), some (.int 0), none]) dX7_isUnder_1 rfl (by decide) rfl rfl ?_
    refine aw_iconst (npc := 3) (v := 0) (by decide) dX7_isUnder_2 rfl ?_
    refine aw_istore_n (npc := 4) (L' := [some (.int 0), some (.int 3), some (.int 0), some (.int 0)]) dX7_isUnder_3 rfl (by decide) rfl rfl ?_
    refine aw_iload_n (npc := 5) rfl dX7_isUnder_4 rfl ?_
    refine aw_bipush (npc := 7) (v := 6) (by decide) dX7_isUnder_5 rfl ?_
    refine aw_icmp_ge (npc := 10) (tgt := 36) dX7_isUnder_7 rfl (by decide) (fun hc => absurd hc (by decide)) (fun _ => ?_)
    refine aw_iload_n (npc := 11) rfl dX7_isUnder_10 rfl ?_
    refine aw_callS (npc := 14) (N := mX7_isKind) (mc := 0) (ms := 0) (A := [.int 0]) (S := []) (L0 := [some (.int 0)]) dX7_isUnder_11 rfl km_X7_isKind kk_X7_67 rfl ⟨rfl, by decide⟩ rfl (Nat.le_of_ble_eq_true rfl) (Nat.zero_add _) (Nat.zero_add _) rfl ?_
    refine c_X7_isKind (fun _ => ?_) (fun hw6 => absurd ⟨by decide, by decide⟩ hw6)
    refine aw_re (S' := [.int 1]) rfl ?_
    refine aw_if_eq (npc := 17) (tgt := 36) dX7_isUnder_14 rfl (by decide) (fun hc => absurd hc (by decide)) (fun _ => ?_)
    refine aw_iload_n (npc := 18) rfl dX7_isUnder_17 rfl ?_
    refine aw_iload_n (npc := 19) rfl dX7_isUnder_18 rfl ?_
    refine aw_icmp_ne (npc := 22) (tgt := 24) dX7_isUnder_19 rfl (by decide) (fun _ => ?_) (fun hc => absurd hc (by decide))
    refine aw_above (npc := 27) dX7_isUnder_24 rfl ks_X7_322 ?_
    refine aw_iload_n (npc := 28) rfl dX7_isUnder_27 rfl ?_
    refine aw_above_ld (npc := 29) (j := 0) dX7_isUnder_28 rfl ⟨by decide, by decide⟩ rfl ?_
    refine aw_istore_n (npc := 30) (L' := [some (.int 0), some (.int 3), some (.int (-1)), some (.int 0)]) dX7_isUnder_29 rfl (by decide) rfl rfl ?_
    refine aw_iinc (npc := 33) (v := 1) (L' := [some (.int 0), some (.int 3), some (.int (-1)), some (.int 1)]) dX7_isUnder_30 rfl rfl (by decide) (by decide) rfl rfl ?_
    refine aw_goto (npc := 4) dX7_isUnder_33 (by decide) ?_
    refine aw_iload_n (npc := 5) rfl dX7_isUnder_4 rfl ?_
    refine aw_bipush (npc := 7) (v := 6) (by decide) dX7_isUnder_5 rfl ?_
    refine aw_icmp_ge (npc := 10) (tgt := 36) dX7_isUnder_7 rfl (by decide) (fun hc => absurd hc (by decide)) (fun _ => ?_)
    refine aw_iload_n (npc := 11) rfl dX7_isUnder_10 rfl ?_
    refine aw_callS (npc := 14) (N := mX7_isKind) (mc := 0) (ms := 0) (A := [.int (-1)]) (S := []) (L0 := [some (.int (-1))]) dX7_isUnder_11 rfl km_X7_isKind kk_X7_67 rfl ⟨rfl, by decide⟩ rfl (Nat.le_of_ble_eq_true rfl) (Nat.zero_add _) (Nat.zero_add _) rfl ?_
    refine c_X7_isKind (fun hw7 => absurd hw7 (fun z => absurd z (by unfold wi; decide))) (fun _ => ?_)
    refine aw_re (S' := [.int 0]) rfl ?_
    refine aw_if_eq (npc := 17) (tgt := 36) dX7_isUnder_14 rfl (by decide) (fun _ => ?_) (fun hc => absurd (by decide) hc)
    refine aw_iconst (npc := 37) (v := 0) (by decide) dX7_isUnder_36 rfl ?_
    refine aw_zret rfl rfl dX7_isUnder_37 ?_
    exact (show (if undr k g then (1 : Int32) else 0) = 0 by rw [ek, eg]; decide) ▸ hq
  · refine aw_locs (L' := [some (.int 0), some (.int 4), none, none]) (by rw [ek, eg]) ?_
    refine aw_iload_n (npc := 1) rfl dX7_isUnder_0 rfl ?_
    refine aw_istore_n (npc := 2) (L' := [some (.int 0), some (.int 4), some (.int 0), none]) dX7_isUnder_1 rfl (by decide) rfl rfl ?_
    refine aw_iconst (npc := 3) (v := 0) (by decide) dX7_isUnder_2 rfl ?_
    refine aw_istore_n (npc := 4) (L' := [some (.int 0), some (.int 4), some (.int 0), some (.int 0)]) dX7_isUnder_3 rfl (by decide) rfl rfl ?_
    refine aw_iload_n (npc := 5) rfl dX7_isUnder_4 rfl ?_
    refine aw_bipush (npc := 7) (v := 6) (by decide) dX7_isUnder_5 rfl ?_
    refine aw_icmp_ge (npc := 10) (tgt := 36) dX7_isUnder_7 rfl (by decide) (fun hc => absurd hc (by decide)) (fun _ => ?_)
    refine aw_iload_n (npc := 11) rfl dX7_isUnder_10 rfl ?_
    refine aw_callS (npc := 14) (N := mX7_isKind) (mc := 0) (ms := 0) (A := [.int 0]) (S := []) (L0 := [some (.int 0)]) dX7_isUnder_11 rfl km_X7_isKind kk_X7_67 rfl ⟨rfl, by decide⟩ rfl (Nat.le_of_ble_eq_true rfl) (Nat.zero_add _) (Nat.zero_add _) rfl ?_
    refine c_X7_isKind (fun _ => ?_) (fun hw8 => absurd ⟨by decide, by decide⟩ hw8)
    refine aw_re (S' := [.int 1]) rfl ?_
    refine aw_if_eq (npc := 17) (tgt := 36) dX7_isUnder_14 rfl (by decide) (fun hc => absurd hc (by decide)) (fun _ => ?_)
    refine aw_iload_n (npc := 18) rfl dX7_isUnder_17 rfl ?_
    refine aw_iload_n (npc := 19) rfl dX7_isUnder_18 rfl ?_
    refine aw_icmp_ne (npc := 22) (tgt := 24) dX7_isUnder_19 rfl (by decide) (fun _ => ?_) (fun hc => absurd hc (by decide))
    refine aw_above (npc := 27) dX7_isUnder_24 rfl ks_X7_322 ?_
    refine aw_iload_n (npc := 28) rfl dX7_isUnder_27 rfl ?_
    refine aw_above_ld (npc := 29) (j := 0) dX7_isUnder_28 rfl ⟨by decide, by decide⟩ rfl ?_
    refine aw_istore_n (npc := 30) (L' := [some (.int 0), some (.int 4), some (.int (-1)), some (.int 0)]) dX7_isUnder_29 rfl (by decide) rfl rfl ?_
    refine aw_iinc (npc := 33) (v := 1) (L' := [some (.int 0), some (.int 4), some (.int (-1)), some (.int 1)]) dX7_isUnder_30 rfl rfl (by decide) (by decide) rfl rfl ?_
    refine aw_goto (npc := 4) dX7_isUnder_33 (by decide) ?_
    refine aw_iload_n (npc := 5) rfl dX7_isUnder_4 rfl ?_
    refine aw_bipush (npc := 7) (v := 6) (by decide) dX7_isUnder_5 rfl ?_
    refine aw_icmp_ge (npc := 10) (tgt := 36) dX7_isUnder_7 rfl (by decide) (fun hc => absurd hc (by decide)) (fun _ => ?_)
    refine aw_iload_n (npc := 11) rfl dX7_isUnder_10 rfl ?_
    refine aw_callS (npc := 14) (N := mX7_isKind) (mc := 0) (ms := 0) (A := [.int (-1)]) (S := []) (L0 := [some (.int (-1))]) dX7_isUnder_11 rfl km_X7_isKind kk_X7_67 rfl ⟨rfl, by decide⟩ rfl (Nat.le_of_ble_eq_true rfl) (Nat.zero_add _) (Nat.zero_add _) rfl ?_
    refine c_X7_isKind (fun hw9 => absurd hw9 (fun z => absurd z (by unfold wi; decide))) (fun _ => ?_)
    refine aw_re (S' := [.int 0]) rfl ?_
    refine aw_if_eq (npc := 17) (tgt := 36) dX7_isUnder_14 rfl (by decide) (fun _ => ?_) (fun hc => absurd (by decide) hc)
    refine aw_iconst (npc := 37) (v := 0) (by decide) dX7_isUnder_36 rfl ?_
    refine aw_zret rfl rfl dX7_isUnder_37 ?_
    exact (show (if undr k g then (1 : Int32) else 0) = 0 by rw [ek, eg]; decide) ▸ hq
  · refine aw_locs (L' := [some (.int 0), some (.int 5), none, none]) (by rw [ek, eg]) ?_
    refine aw_iload_n (npc := 1) rfl dX7_isUnder_0 rfl ?_
    refine aw_istore_n (npc := 2) (L' := [some (.int 0), some (.int 5), some (.int 0), none]) dX7_isUnder_1 rfl (by decide) rfl rfl ?_
    refine aw_iconst (npc := 3) (v := 0) (by decide) dX7_isUnder_2 rfl ?_
    refine aw_istore_n (npc := 4) (L' := [some (.int 0), some (.int 5), some (.int 0), some (.int 0)]) dX7_isUnder_3 rfl (by decide) rfl rfl ?_
    refine aw_iload_n (npc := 5) rfl dX7_isUnder_4 rfl ?_
    refine aw_bipush (npc := 7) (v := 6) (by decide) dX7_isUnder_5 rfl ?_
    refine aw_icmp_ge (npc := 10) (tgt := 36) dX7_isUnder_7 rfl (by decide) (fun hc => absurd hc (by decide)) (fun _ => ?_)
    refine aw_iload_n (npc := 11) rfl dX7_isUnder_10 rfl ?_
    refine aw_callS (npc := 14) (N := mX7_isKind) (mc := 0) (ms := 0) (A := [.int 0]) (S := []) (L0 := [some (.int 0)]) dX7_isUnder_11 rfl km_X7_isKind kk_X7_67 rfl ⟨rfl, by decide⟩ rfl (Nat.le_of_ble_eq_true rfl) (Nat.zero_add _) (Nat.zero_add _) rfl ?_
    refine c_X7_isKind (fun _ => ?_) (fun hw10 => absurd ⟨by decide, by decide⟩ hw10)
    refine aw_re (S' := [.int 1]) rfl ?_
    refine aw_if_eq (npc := 17) (tgt := 36) dX7_isUnder_14 rfl (by decide) (fun hc => absurd hc (by decide)) (fun _ => ?_)
    refine aw_iload_n (npc := 18) rfl dX7_isUnder_17 rfl ?_
    refine aw_iload_n (npc := 19) rfl dX7_isUnder_18 rfl ?_
    refine aw_icmp_ne (npc := 22) (tgt := 24) dX7_isUnder_19 rfl (by decide) (fun _ => ?_) (fun hc => absurd hc (by decide))
    refine aw_above (npc := 27) dX7_isUnder_24 rfl ks_X7_322 ?_
    refine aw_iload_n (npc := 28) rfl dX7_isUnder_27 rfl ?_
    refine aw_above_ld (npc := 29) (j := 0) dX7_isUnder_28 rfl ⟨by decide, by decide⟩ rfl ?_
    refine aw_istore_n (npc := 30) (L' := [some (.int 0), some (.int 5), some (.int (-1)), some (.int 0)]) dX7_isUnder_29 rfl (by decide) rfl rfl ?_
    refine aw_iinc (npc := 33) (v := 1) (L' := [some (.int 0), some (.int 5), some (.int (-1)), some (.int 1)]) dX7_isUnder_30 rfl rfl (by decide) (by decide) rfl rfl ?_
    refine aw_goto (npc := 4) dX7_isUnder_33 (by decide) ?_
    refine aw_iload_n (npc := 5) rfl dX7_isUnder_4 rfl ?_
    refine aw_bipush (npc := 7) (v := 6) (by decide) dX7_isUnder_5 rfl ?_
    refine aw_icmp_ge (npc := 10) (tgt := 36) dX7_isUnder_7 rfl (by decide) (fun hc => absurd hc (by decide)) (fun _ => ?_)
    refine aw_iload_n (npc := 11) rfl dX7_isUnder_10 rfl ?_
    refine aw_callS (npc := 14) (N := mX7_isKind) (mc := 0) (ms := 0) (A := [.int (-1)]) (S := []) (L0 := [some (.int (-1))]) dX7_isUnder_11 rfl km_X7_isKind kk_X7_67 rfl ⟨rfl, by decide⟩ rfl (Nat.le_of_ble_eq_true rfl) (Nat.zero_add _) (Nat.zero_add _) rfl ?_
    refine c_X7_isKind (fun hw11 => absurd hw11 (fun z => absurd z (by unfold wi; decide))) (fun _ => ?_)
    refine aw_re (S' := [.int 0]) rfl ?_
    refine aw_if_eq (npc := 17) (tgt := 36) dX7_isUnder_14 rfl (by decide) (fun _ => ?_) (fun hc => absurd (by decide) hc)
    refine aw_iconst (npc := 37) (v := 0) (by decide) dX7_isUnder_36 rfl ?_
    refine aw_zret rfl rfl dX7_isUnder_37 ?_
    exact (show (if undr k g then (1 : Int32) else 0) = 0 by rw [ek, eg]; decide) ▸ hq
  · refine aw_locs (L' := [some (.int 1), some (.int 0), none, none]) (by rw [ek, eg]) ?_
    refine aw_iload_n (npc := 1) rfl dX7_isUnder_0 rfl ?_
    refine aw_istore_n (npc := 2) (L' := [some (.int 1), some (.int 0), some (.int 1), none]) dX7_isUnder_1 rfl (by decide) rfl rfl ?_
    refine aw_iconst (npc := 3) (v := 0) (by decide) dX7_isUnder_2 rfl ?_
    refine aw_istore_n (npc := 4) (L' := [some (.int 1), some (.int 0), some (.int 1), some (.int 0)]) dX7_isUnder_3 rfl (by decide) rfl rfl ?_
    refine aw_iload_n (npc := 5) rfl dX7_isUnder_4 rfl ?_
    refine aw_bipush (npc := 7) (v := 6) (by decide) dX7_isUnder_5 rfl ?_
    refine aw_icmp_ge (npc := 10) (tgt := 36) dX7_isUnder_7 rfl (by decide) (fun hc => absurd hc (by decide)) (fun _ => ?_)
    refine aw_iload_n (npc := 11) rfl dX7_isUnder_10 rfl ?_
    refine aw_callS (npc := 14) (N := mX7_isKind) (mc := 0) (ms := 0) (A := [.int 1]) (S := []) (L0 := [some (.int 1)]) dX7_isUnder_11 rfl km_X7_isKind kk_X7_67 rfl ⟨rfl, by decide⟩ rfl (Nat.le_of_ble_eq_true rfl) (Nat.zero_add _) (Nat.zero_add _) rfl ?_
    refine c_X7_isKind (fun _ => ?_) (fun hw12 => absurd ⟨by decide, by decide⟩ hw12)
    refine aw_re (S' := [.int 1]) rfl ?_
    refine aw_if_eq (npc := 17) (tgt := 36) dX7_isUnder_14 rfl (by decide) (fun hc => absurd hc (by decide)) (fun _ => ?_)
    refine aw_iload_n (npc := 18) rfl dX7_isUnder_17 rfl ?_
    refine aw_iload_n (npc := 19) rfl dX7_isUnder_18 rfl ?_
    refine aw_icmp_ne (npc := 22) (tgt := 24) dX7_isUnder_19 rfl (by decide) (fun _ => ?_) (fun hc => absurd hc (by decide))
    refine aw_above (npc := 27) dX7_isUnder_24 rfl ks_X7_322 ?_
    refine aw_iload_n (npc := 28) rfl dX7_isUnder_27 rfl ?_
    refine aw_above_ld (npc := 29) (j := 1) dX7_isUnder_28 rfl ⟨by decide, by decide⟩ rfl ?_
    refine aw_istore_n (npc := 30) (L' := [some (.int 1), some (.int 0), some (.int 0), some (.int 0)]) dX7_isUnder_29 rfl (by decide) rfl rfl ?_
    refine aw_iinc (npc := 33) (v := 1) (L' := [some (.int 1), some (.int 0), some (.int 0), some (.int 1)]) dX7_isUnder_30 rfl rfl (by decide) (by decide) rfl rfl ?_
    refine aw_goto (npc := 4) dX7_isUnder_33 (by decide) ?_
    refine aw_iload_n (npc := 5) rfl dX7_isUnder_4 rfl ?_
    refine aw_bipush (npc := 7) (v := 6) (by decide) dX7_isUnder_5 rfl ?_
    refine aw_icmp_ge (npc := 10) (tgt := 36) dX7_isUnder_7 rfl (by decide) (fun hc => absurd hc (by decide)) (fun _ => ?_)
    refine aw_iload_n (npc := 11) rfl dX7_isUnder_10 rfl ?_
    refine aw_callS (npc := 14) (N := mX7_isKind) (mc := 0) (ms := 0) (A := [.int 0]) (S := []) (L0 := [some (.int 0)]) dX7_isUnder_11 rfl km_X7_isKind kk_X7_67 rfl ⟨rfl, by decide⟩ rfl (Nat.le_of_ble_eq_true rfl) (Nat.zero_add _) (Nat.zero_add _) rfl ?_
    refine c_X7_isKind (fun _ => ?_) (fun hw13 => absurd ⟨by decide, by decide⟩ hw13)
    refine aw_re (S' := [.int 1]) rfl ?_
    refine aw_if_eq (npc := 17) (tgt := 36) dX7_isUnder_14 rfl (by decide) (fun hc => absurd hc (by decide)) (fun _ => ?_)
    refine aw_iload_n (npc := 18) rfl dX7_isUnder_17 rfl ?_
    refine aw_iload_n (npc := 19) rfl dX7_isUnder_18 rfl ?_
    refine aw_icmp_ne (npc := 22) (tgt := 24) dX7_isUnder_19 rfl (by decide) (fun hc => absurd (by decide) hc) (fun _ => ?_)
    refine aw_iconst (npc := 23) (v := 1) (by decide) dX7_isUnder_22 rfl ?_
    refine aw_zret rfl rfl dX7_isUnder_23 ?_
    exact (show (if undr k g then (1 : Int32) else 0) = 1 by rw [ek, eg]; decide) ▸ hq
  · refine aw_locs (L' := [some (.int 1), some (.int 1), none, none]) (by rw [ek, eg]) ?_
    refine aw_iload_n (npc := 1) rfl dX7_isUnder_0 rfl ?_
    refine aw_istore_n (npc := 2) (L' := [some (.int 1), some (.int 1), some (.int 1), none]) dX7_isUnder_1 rfl (by decide) rfl rfl ?_
    refine aw_iconst (npc := 3) (v := 0) (by decide) dX7_isUnder_2 rfl ?_
    refine aw_istore_n (npc := 4) (L' := [some (.int 1), some (.int 1), some (.int 1), some (.int 0)]) dX7_isUnder_3 rfl (by decide) rfl rfl ?_
    refine aw_iload_n (npc := 5) rfl dX7_isUnder_4 rfl ?_
    refine aw_bipush (npc := 7) (v := 6) (by decide) dX7_isUnder_5 rfl ?_
    refine aw_icmp_ge (npc := 10) (tgt := 36) dX7_isUnder_7 rfl (by decide) (fun hc => absurd hc (by decide)) (fun _ => ?_)
    refine aw_iload_n (npc := 11) rfl dX7_isUnder_10 rfl ?_
    refine aw_callS (npc := 14) (N := mX7_isKind) (mc := 0) (ms := 0) (A := [.int 1]) (S := []) (L0 := [some (.int 1)]) dX7_isUnder_11 rfl km_X7_isKind kk_X7_67 rfl ⟨rfl, by decide⟩ rfl (Nat.le_of_ble_eq_true rfl) (Nat.zero_add _) (Nat.zero_add _) rfl ?_
    refine c_X7_isKind (fun _ => ?_) (fun hw14 => absurd ⟨by decide, by decide⟩ hw14)
    refine aw_re (S' := [.int 1]) rfl ?_
    refine aw_if_eq (npc := 17) (tgt := 36) dX7_isUnder_14 rfl (by decide) (fun hc => absurd hc (by decide)) (fun _ => ?_)
    refine aw_iload_n (npc := 18) rfl dX7_isUnder_17 rfl ?_
    refine aw_iload_n (npc := 19) rfl dX7_isUnder_18 rfl ?_
    refine aw_icmp_ne (npc := 22) (tgt := 24) dX7_isUnder_19 rfl (by decide) (fun hc => absurd (by decide) hc) (fun _ => ?_)
    refine aw_iconst (npc := 23) (v := 1) (by decide) dX7_isUnder_22 rfl ?_
    refine aw_zret rfl rfl dX7_isUnder_23 ?_
    exact (show (if undr k g then (1 : Int32) else 0) = 1 by rw [ek, eg]; decide) ▸ hq
  · refine aw_locs (L' := [some (.int 1), some (.int 2), none, none]) (by rw [ek, eg]) ?_
    refine aw_iload_n (npc := 1) rfl dX7_isUnder_0 rfl ?_
    refine aw_istore_n (npc := 2) (L' := [some (.int 1), some (.int 2), some (.int 1), none]) dX7_isUnder_1 rfl (by decide) rfl rfl ?_
    refine aw_iconst (npc := 3) (v := 0) (by decide) dX7_isUnder_2 rfl ?_
    refine aw_istore_n (npc := 4) (L' := [some (.int 1), some (.int 2), some (.int 1), some (.int 0)]) dX7_isUnder_3 rfl (by decide) rfl rfl ?_
    refine aw_iload_n (npc := 5) rfl dX7_isUnder_4 rfl ?_
    refine aw_bipush (npc := 7) (v := 6) (by decide) dX7_isUnder_5 rfl ?_
    refine aw_icmp_ge (npc := 10) (tgt := 36) dX7_isUnder_7 rfl (by decide) (fun hc => absurd hc (by decide)) (fun _ => ?_)
    refine aw_iload_n (npc := 11) rfl dX7_isUnder_10 rfl ?_
    refine aw_callS (npc := 14) (N := mX7_isKind) (mc := 0) (ms := 0) (A := [.int 1]) (S := []) (L0 := [some (.int 1)]) dX7_isUnder_11 rfl km_X7_isKind kk_X7_67 rfl ⟨rfl, by decide⟩ rfl (Nat.le_of_ble_eq_true rfl) (Nat.zero_add _) (Nat.zero_add _) rfl ?_
    refine c_X7_isKind (fun _ => ?_) (fun hw15 => absurd ⟨by decide, by decide⟩ hw15)
    refine aw_re (S' := [.int 1]) rfl ?_
    refine aw_if_eq (npc := 17) (tgt := 36) dX7_isUnder_14 rfl (by decide) (fun hc => absurd hc (by decide)) (fun _ => ?_)
    refine aw_iload_n (npc := 18) rfl dX7_isUnder_17 rfl ?_
    refine aw_iload_n (npc := 19) rfl dX7_isUnder_18 rfl ?_
    refine aw_icmp_ne (npc := 22) (tgt := 24) dX7_isUnder_19 rfl (by decide) (fun _ => ?_) (fun hc => absurd hc (by decide))
    refine aw_above (npc := 27) dX7_isUnder_24 rfl ks_X7_322 ?_
    refine aw_iload_n (npc := 28) rfl dX7_isUnder_27 rfl ?_
    refine aw_above_ld (npc := 29) (j := 1) dX7_isUnder_28 rfl ⟨by decide, by decide⟩ rfl ?_
    refine aw_istore_n (npc := 30) (L' := [some (.int 1), some (.int 2), some (.int 0), some (.int 0)]) dX7_isUnder_29 rfl (by decide) rfl rfl ?_
    refine aw_iinc (npc := 33) (v := 1) (L' := [some (.int 1), some (.int 2), some (.int 0), some (.int 1)]) dX7_isUnder_30 rfl rfl (by decide) (by decide) rfl rfl ?_
    refine aw_goto (npc := 4) dX7_isUnder_33 (by decide) ?_
    refine aw_iload_n (npc := 5) rfl dX7_isUnder_4 rfl ?_
    refine aw_bipush (npc := 7) (v := 6) (by decide) dX7_isUnder_5 rfl ?_
    refine aw_icmp_ge (npc := 10) (tgt := 36) dX7_isUnder_7 rfl (by decide) (fun hc => absurd hc (by decide)) (fun _ => ?_)
    refine aw_iload_n (npc := 11) rfl dX7_isUnder_10 rfl ?_
    refine aw_callS (npc := 14) (N := mX7_isKind) (mc := 0) (ms := 0) (A := [.int 0]) (S := []) (L0 := [some (.int 0)]) dX7_isUnder_11 rfl km_X7_isKind kk_X7_67 rfl ⟨rfl, by decide⟩ rfl (Nat.le_of_ble_eq_true rfl) (Nat.zero_add _) (Nat.zero_add _) rfl ?_
    refine c_X7_isKind (fun _ => ?_) (fun hw16 => absurd ⟨by decide, by decide⟩ hw16)
    refine aw_re (S' := [.int 1]) rfl ?_
    refine aw_if_eq (npc := 17) (tgt := 36) dX7_isUnder_14 rfl (by decide) (fun hc => absurd hc (by decide)) (fun _ => ?_)
    refine aw_iload_n (npc := 18) rfl dX7_isUnder_17 rfl ?_
    refine aw_iload_n (npc := 19) rfl dX7_isUnder_18 rfl ?_
    refine aw_icmp_ne (npc := 22) (tgt := 24) dX7_isUnder_19 rfl (by decide) (fun _ => ?_) (fun hc => absurd hc (by decide))
    refine aw_above (npc := 27) dX7_isUnder_24 rfl ks_X7_322 ?_
    refine aw_iload_n (npc := 28) rfl dX7_isUnder_27 rfl ?_
    refine aw_above_ld (npc := 29) (j := 0) dX7_isUnder_28 rfl ⟨by decide, by decide⟩ rfl ?_
    refine aw_istore_n (npc := 30) (L' := [some (.int 1), some (.int 2), some (.int (-1)), some (.int 1)]) dX7_isUnder_29 rfl (by decide) rfl rfl ?_
    refine aw_iinc (npc := 33) (v := 2) (L' := [some (.int 1), some (.int 2), some (.int (-1)), some (.int 2)]) dX7_isUnder_30 rfl rfl (by decide) (by decide) rfl rfl ?_
    refine aw_goto (npc := 4) dX7_isUnder_33 (by decide) ?_
    refine aw_iload_n (npc := 5) rfl dX7_isUnder_4 rfl ?_
    refine aw_bipush (npc := 7) (v := 6) (by decide) dX7_isUnder_5 rfl ?_
    refine aw_icmp_ge (npc := 10) (tgt := 36) dX7_isUnder_7 rfl (by decide) (fun hc => absurd hc (by decide)) (fun _ => ?_)
    refine aw_iload_n (npc := 11) rfl dX7_isUnder_10 rfl ?_
    refine aw_callS (npc := 14) (N := mX7_isKind) (mc := 0) (ms := 0) (A := [.int (-1)]) (S := []) (L0 := [some (.int (-1))]) dX7_isUnder_11 rfl km_X7_isKind kk_X7_67 rfl ⟨rfl, by decide⟩ rfl (Nat.le_of_ble_eq_true rfl) (Nat.zero_add _) (Nat.zero_add _) rfl ?_
    refine c_X7_isKind (fun hw17 => absurd hw17 (fun z => absurd z (by unfold wi; decide))) (fun _ => ?_)
    refine aw_re (S' := [.int 0]) rfl ?_
    refine aw_if_eq (npc := 17) (tgt := 36) dX7_isUnder_14 rfl (by decide) (fun _ => ?_) (fun hc => absurd (by decide) hc)
    refine aw_iconst (npc := 37) (v := 0) (by decide) dX7_isUnder_36 rfl ?_
    refine aw_zret rfl rfl dX7_isUnder_37 ?_
    exact (show (if undr k g then (1 : Int32) else 0) = 0 by rw [ek, eg]; decide) ▸ hq
  · refine aw_locs (L' := [some (.int 1), some (.int 3), none, none]) (by rw [ek, eg]) ?_
    refine aw_iload_n (npc := 1) rfl dX7_isUnder_0 rfl ?_
    refine aw_istore_n (npc := 2) (L' := [some (.int 1), some (.int 3), some (.int 1), none]) dX7_isUnder_1 rfl (by decide) rfl rfl ?_
    refine aw_iconst (npc := 3) (v := 0) (by decide) dX7_isUnder_2 rfl ?_
    refine aw_istore_n (npc := 4) (L' := [some (.int 1), some (.int 3), some (.int 1), some (.int 0)]) dX7_isUnder_3 rfl (by decide) rfl rfl ?_
    refine aw_iload_n (npc := 5) rfl dX7_isUnder_4 rfl ?_
    refine aw_bipush (npc := 7) (v := 6) (by decide) dX7_isUnder_5 rfl ?_
    refine aw_icmp_ge (npc := 10) (tgt := 36) dX7_isUnder_7 rfl (by decide) (fun hc => absurd hc (by decide)) (fun _ => ?_)
    refine aw_iload_n (npc := 11) rfl dX7_isUnder_10 rfl ?_
    refine aw_callS (npc := 14) (N := mX7_isKind) (mc := 0) (ms := 0) (A := [.int 1]) (S := []) (L0 := [some (.int 1)]) dX7_isUnder_11 rfl km_X7_isKind kk_X7_67 rfl ⟨rfl, by decide⟩ rfl (Nat.le_of_ble_eq_true rfl) (Nat.zero_add _) (Nat.zero_add _) rfl ?_
    refine c_X7_isKind (fun _ => ?_) (fun hw18 => absurd ⟨by decide, by decide⟩ hw18)
    refine aw_re (S' := [.int 1]) rfl ?_
    refine aw_if_eq (npc := 17) (tgt := 36) dX7_isUnder_14 rfl (by decide) (fun hc => absurd hc (by decide)) (fun _ => ?_)
    refine aw_iload_n (npc := 18) rfl dX7_isUnder_17 rfl ?_
    refine aw_iload_n (npc := 19) rfl dX7_isUnder_18 rfl ?_
    refine aw_icmp_ne (npc := 22) (tgt := 24) dX7_isUnder_19 rfl (by decide) (fun _ => ?_) (fun hc => absurd hc (by decide))
    refine aw_above (npc := 27) dX7_isUnder_24 rfl ks_X7_322 ?_
    refine aw_iload_n (npc := 28) rfl dX7_isUnder_27 rfl ?_
    refine aw_above_ld (npc := 29) (j := 1) dX7_isUnder_28 rfl ⟨by decide, by decide⟩ rfl ?_
    refine aw_istore_n (npc := 30) (L' := [some (.int 1), some (.int 3), some (.int 0), some (.int 0)]) dX7_isUnder_29 rfl (by decide) rfl rfl ?_
    refine aw_iinc (npc := 33) (v := 1) (L' := [some (.int 1), some (.int 3), some (.int 0), some (.int 1)]) dX7_isUnder_30 rfl rfl (by decide) (by decide) rfl rfl ?_
    refine aw_goto (npc := 4) dX7_isUnder_33 (by decide) ?_
    refine aw_iload_n (npc := 5) rfl dX7_isUnder_4 rfl ?_
    refine aw_bipush (npc := 7) (v := 6) (by decide) dX7_isUnder_5 rfl ?_
    refine aw_icmp_ge (npc := 10) (tgt := 36) dX7_isUnder_7 rfl (by decide) (fun hc => absurd hc (by decide)) (fun _ => ?_)
    refine aw_iload_n (npc := 11) rfl dX7_isUnder_10 rfl ?_
    refine aw_callS (npc := 14) (N := mX7_isKind) (mc := 0) (ms := 0) (A := [.int 0]) (S := []) (L0 := [some (.int 0)]) dX7_isUnder_11 rfl km_X7_isKind kk_X7_67 rfl ⟨rfl, by decide⟩ rfl (Nat.le_of_ble_eq_true rfl) (Nat.zero_add _) (Nat.zero_add _) rfl ?_
    refine c_X7_isKind (fun _ => ?_) (fun hw19 => absurd ⟨by decide, by decide⟩ hw19)
    refine aw_re (S' := [.int 1]) rfl ?_
    refine aw_if_eq (npc := 17) (tgt := 36) dX7_isUnder_14 rfl (by decide) (fun hc => absurd hc (by decide)) (fun _ => ?_)
    refine aw_iload_n (npc := 18) rfl dX7_isUnder_17 rfl ?_
    refine aw_iload_n (npc := 19) rfl dX7_isUnder_18 rfl ?_
    refine aw_icmp_ne (npc := 22) (tgt := 24) dX7_isUnder_19 rfl (by decide) (fun _ => ?_) (fun hc => absurd hc (by decide))
    refine aw_above (npc := 27) dX7_isUnder_24 rfl ks_X7_322 ?_
    refine aw_iload_n (npc := 28) rfl dX7_isUnder_27 rfl ?_
    refine aw_above_ld (npc := 29) (j := 0) dX7_isUnder_28 rfl ⟨by decide, by decide⟩ rfl ?_
    refine aw_istore_n (npc := 30) (L' := [some (.int 1), some (.int 3), some (.int (-1)), some (.int 1)]) dX7_isUnder_29 rfl (by decide) rfl rfl ?_
    refine aw_iinc (npc := 33) (v := 2) (L' := [some (.int 1), some (.int 3), some (.int (-1)), some (.int 2)]) dX7_isUnder_30 rfl rfl (by decide) (by decide) rfl rfl ?_
    refine aw_goto (npc := 4) dX7_isUnder_33 (by decide) ?_
    refine aw_iload_n (npc := 5) rfl dX7_isUnder_4 rfl ?_
    refine aw_bipush (npc := 7) (v := 6) (by decide) dX7_isUnder_5 rfl ?_
    refine aw_icmp_ge (npc := 10) (tgt := 36) dX7_isUnder_7 rfl (by decide) (fun hc => absurd hc (by decide)) (fun _ => ?_)
    refine aw_iload_n (npc := 11) rfl dX7_isUnder_10 rfl ?_
    refine aw_callS (npc := 14) (N := mX7_isKind) (mc := 0) (ms := 0) (A := [.int (-1)]) (S := []) (L0 := [some (.int (-1))]) dX7_isUnder_11 rfl km_X7_isKind kk_X7_67 rfl ⟨rfl, by decide⟩ rfl (Nat.le_of_ble_eq_true rfl) (Nat.zero_add _) (Nat.zero_add _) rfl ?_
    refine c_X7_isKind (fun hw20 => absurd hw20 (fun z => absurd z (by unfold wi; decide))) (fun _ => ?_)
    refine aw_re (S' := [.int 0]) rfl ?_
    refine aw_if_eq (npc := 17) (tgt := 36) dX7_isUnder_14 rfl (by decide) (fun _ => ?_) (fun hc => absurd (by decide) hc)
    refine aw_iconst (npc := 37) (v := 0) (by decide) dX7_isUnder_36 rfl ?_
    refine aw_zret rfl rfl dX7_isUnder_37 ?_
    exact (show (if undr k g then (1 : Int32) else 0) = 0 by rw [ek, eg]; decide) ▸ hq
  · refine aw_locs (L' := [some (.int 1), some (.int 4), none, none]) (by rw [ek, eg]) ?_
    refine aw_iload_n (npc := 1) rfl dX7_isUnder_0 rfl ?_
    refine aw_istore_n (npc := 2) (L' := [some (.int 1), some (.int 4), some (.int 1), none]) dX7_isUnder_1 rfl (by decide) rfl rfl ?_
    refine aw_iconst (npc := 3) (v := 0) (by decide) dX7_isUnder_2 rfl ?_
    refine aw_istore_n (npc := 4) (L' := [some (.int 1), some (.int 4), some (.int 1), some (.int 0)]) dX7_isUnder_3 rfl (by decide) rfl rfl ?_
    refine aw_iload_n (npc := 5) rfl dX7_isUnder_4 rfl ?_
    refine aw_bipush (npc := 7) (v := 6) (by decide) dX7_isUnder_5 rfl ?_
    refine aw_icmp_ge (npc := 10) (tgt := 36) dX7_isUnder_7 rfl (by decide) (fun hc => absurd hc (by decide)) (fun _ => ?_)
    refine aw_iload_n (npc := 11) rfl dX7_isUnder_10 rfl ?_
    refine aw_callS (npc := 14) (N := mX7_isKind) (mc := 0) (ms := 0) (A := [.int 1]) (S := []) (L0 := [some (.int 1)]) dX7_isUnder_11 rfl km_X7_isKind kk_X7_67 rfl ⟨rfl, by decide⟩ rfl (Nat.le_of_ble_eq_true rfl) (Nat.zero_add _) (Nat.zero_add _) rfl ?_
    refine c_X7_isKind (fun _ => ?_) (fun hw21 => absurd ⟨by decide, by decide⟩ hw21)
    refine aw_re (S' := [.int 1]) rfl ?_
    refine aw_if_eq (npc := 17) (tgt := 36) dX7_isUnder_14 rfl (by decide) (fun hc => absurd hc (by decide)) (fun _ => ?_)
    refine aw_iload_n (npc := 18) rfl dX7_isUnder_17 rfl ?_
    refine aw_iload_n (npc := 19) rfl dX7_isUnder_18 rfl ?_
    refine aw_icmp_ne (npc := 22) (tgt := 24) dX7_isUnder_19 rfl (by decide) (fun _ => ?_) (fun hc => absurd hc (by decide))
    refine aw_above (npc := 27) dX7_isUnder_24 rfl ks_X7_322 ?_
    refine aw_iload_n (npc := 28) rfl dX7_isUnder_27 rfl ?_
    refine aw_above_ld (npc := 29) (j := 1) dX7_isUnder_28 rfl ⟨by decide, by decide⟩ rfl ?_
    refine aw_istore_n (npc := 30) (L' := [some (.int 1), some (.int 4), some (.int 0), some (.int 0)]) dX7_isUnder_29 rfl (by decide) rfl rfl ?_
    refine aw_iinc (npc := 33) (v := 1) (L' := [some (.int 1), some (.int 4), some (.int 0), some (.int 1)]) dX7_isUnder_30 rfl rfl (by decide) (by decide) rfl rfl ?_
    refine aw_goto (npc := 4) dX7_isUnder_33 (by decide) ?_
    refine aw_iload_n (npc := 5) rfl dX7_isUnder_4 rfl ?_
    refine aw_bipush (npc := 7) (v := 6) (by decide) dX7_isUnder_5 rfl ?_
    refine aw_icmp_ge (npc := 10) (tgt := 36) dX7_isUnder_7 rfl (by decide) (fun hc => absurd hc (by decide)) (fun _ => ?_)
    refine aw_iload_n (npc := 11) rfl dX7_isUnder_10 rfl ?_
    refine aw_callS (npc := 14) (N := mX7_isKind) (mc := 0) (ms := 0) (A := [.int 0]) (S := []) (L0 := [some (.int 0)]) dX7_isUnder_11 rfl km_X7_isKind kk_X7_67 rfl ⟨rfl, by decide⟩ rfl (Nat.le_of_ble_eq_true rfl) (Nat.zero_add _) (Nat.zero_add _) rfl ?_
    refine c_X7_isKind (fun _ => ?_) (fun hw22 => absurd ⟨by decide, by decide⟩ hw22)
    refine aw_re (S' := [.int 1]) rfl ?_
    refine aw_if_eq (npc := 17) (tgt := 36) dX7_isUnder_14 rfl (by decide) (fun hc => absurd hc (by decide)) (fun _ => ?_)
    refine aw_iload_n (npc := 18) rfl dX7_isUnder_17 rfl ?_
    refine aw_iload_n (npc := 19) rfl dX7_isUnder_18 rfl ?_
    refine aw_icmp_ne (npc := 22) (tgt := 24) dX7_isUnder_19 rfl (by decide) (fun _ => ?_) (fun hc => absurd hc (by decide))
    refine aw_above (npc := 27) dX7_isUnder_24 rfl ks_X7_322 ?_
    refine aw_iload_n (npc := 28) rfl dX7_isUnder_27 rfl ?_
    refine aw_above_ld (npc := 29) (j := 0) dX7_isUnder_28 rfl ⟨by decide, by decide⟩ rfl ?_
    refine aw_istore_n (npc := 30) (L' := [some (.int 1), some (.int 4), some (.int (-1)), some (.int 1)]) dX7_isUnder_29 rfl (by decide) rfl rfl ?_
    refine aw_iinc (npc := 33) (v := 2) (L' := [some (.int 1), some (.int 4), some (.int (-1)), some (.int 2)]) dX7_isUnder_30 rfl rfl (by decide) (by decide) rfl rfl ?_
    refine aw_goto (npc := 4) dX7_isUnder_33 (by decide) ?_
    refine aw_iload_n (npc := 5) rfl dX7_isUnder_4 rfl ?_
    refine aw_bipush (npc := 7) (v := 6) (by decide) dX7_isUnder_5 rfl ?_
    refine aw_icmp_ge (npc := 10) (tgt := 36) dX7_isUnder_7 rfl (by decide) (fun hc => absurd hc (by decide)) (fun _ => ?_)
    refine aw_iload_n (npc := 11) rfl dX7_isUnder_10 rfl ?_
    refine aw_callS (npc := 14) (N := mX7_isKind) (mc := 0) (ms := 0) (A := [.int (-1)]) (S := []) (L0 := [some (.int (-1))]) dX7_isUnder_11 rfl km_X7_isKind kk_X7_67 rfl ⟨rfl, by decide⟩ rfl (Nat.le_of_ble_eq_true rfl) (Nat.zero_add _) (Nat.zero_add _) rfl ?_
    refine c_X7_isKind (fun hw23 => absurd hw23 (fun z => absurd z (by unfold wi; decide))) (fun _ => ?_)
    refine aw_re (S' := [.int 0]) rfl ?_
    refine aw_if_eq (npc := 17) (tgt := 36) dX7_isUnder_14 rfl (by decide) (fun _ => ?_) (fun hc => absurd (by decide) hc)
    refine aw_iconst (npc := 37) (v := 0) (by decide) dX7_isUnder_36 rfl ?_
    refine aw_zret rfl rfl dX7_isUnder_37 ?_
    exact (show (if undr k g then (1 : Int32) else 0) = 0 by rw [ek, eg]; decide) ▸ hq
  · refine aw_locs (L' := [some (.int 1), some (.int 5), none, none]) (by rw [ek, eg]) ?_
    refine aw_iload_n (npc := 1) rfl dX7_isUnder_0 rfl ?_
    refine aw_istore_n (npc := 2) (L' := [some (.int 1), some (.int 5), some (.int 1), none]) dX7_isUnder_1 rfl (by decide) rfl rfl ?_
    refine aw_iconst (npc := 3) (v := 0) (by decide) dX7_isUnder_2 rfl ?_
    refine aw_istore_n (npc := 4) (L' := [some (.int 1), some (.int 5), some (.int 1), some (.int 0)]) dX7_isUnder_3 rfl (by decide) rfl rfl ?_
    refine aw_iload_n (npc := 5) rfl dX7_isUnder_4 rfl ?_
    refine aw_bipush (npc := 7) (v := 6) (by decide) dX7_isUnder_5 rfl ?_
    refine aw_icmp_ge (npc := 10) (tgt := 36) dX7_isUnder_7 rfl (by decide) (fun hc => absurd hc (by decide)) (fun _ => ?_)
    refine aw_iload_n (npc := 11) rfl dX7_isUnder_10 rfl ?_
    refine aw_callS (npc := 14) (N := mX7_isKind) (mc := 0) (ms := 0) (A := [.int 1]) (S := []) (L0 := [some (.int 1)]) dX7_isUnder_11 rfl km_X7_isKind kk_X7_67 rfl ⟨rfl, by decide⟩ rfl (Nat.le_of_ble_eq_true rfl) (Nat.zero_add _) (Nat.zero_add _) rfl ?_
    refine c_X7_isKind (fun _ => ?_) (fun hw24 => absurd ⟨by decide, by decide⟩ hw24)
    refine aw_re (S' := [.int 1]) rfl ?_
    refine aw_if_eq (npc := 17) (tgt := 36) dX7_isUnder_14 rfl (by decide) (fun hc => absurd hc (by decide)) (fun _ => ?_)
    refine aw_iload_n (npc := 18) rfl dX7_isUnder_17 rfl ?_
    refine aw_iload_n (npc := 19) rfl dX7_isUnder_18 rfl ?_
    refine aw_icmp_ne (npc := 22) (tgt := 24) dX7_isUnder_19 rfl (by decide) (fun _ => ?_) (fun hc => absurd hc (by decide))
    refine aw_above (npc := 27) dX7_isUnder_24 rfl ks_X7_322 ?_
    refine aw_iload_n (npc := 28) rfl dX7_isUnder_27 rfl ?_
    refine aw_above_ld (npc := 29) (j := 1) dX7_isUnder_28 rfl ⟨by decide, by decide⟩ rfl ?_
    refine aw_istore_n (npc := 30) (L' := [some (.int 1), some (.int 5), some (.int 0), some (.int 0)]) dX7_isUnder_29 rfl (by decide) rfl rfl ?_
    refine aw_iinc (npc := 33) (v := 1) (L' := [some (.int 1), some (.int 5), some (.int 0), some (.int 1)]) dX7_isUnder_30 rfl rfl (by decide) (by decide) rfl rfl ?_
    refine aw_goto (npc := 4) dX7_isUnder_33 (by decide) ?_
    refine aw_iload_n (npc := 5) rfl dX7_isUnder_4 rfl ?_
    refine aw_bipush (npc := 7) (v := 6) (by decide) dX7_isUnder_5 rfl ?_
    refine aw_icmp_ge (npc := 10) (tgt := 36) dX7_isUnder_7 rfl (by decide) (fun hc => absurd hc (by decide)) (fun _ => ?_)
    refine aw_iload_n (npc := 11) rfl dX7_isUnder_10 rfl ?_
    refine aw_callS (npc := 14) (N := mX7_isKind) (mc := 0) (ms := 0) (A := [.int 0]) (S := []) (L0 := [some (.int 0)]) dX7_isUnder_11 rfl km_X7_isKind kk_X7_67 rfl ⟨rfl, by decide⟩ rfl (Nat.le_of_ble_eq_true rfl) (Nat.zero_add _) (Nat.zero_add _) rfl ?_
    refine c_X7_isKind (fun _ => ?_) (fun hw25 => absurd ⟨by decide, by decide⟩ hw25)
    refine aw_re (S' := [.int 1]) rfl ?_
    refine aw_if_eq (npc := 17) (tgt := 36) dX7_isUnder_14 rfl (by decide) (fun hc => absurd hc (by decide)) (fun _ => ?_)
    refine aw_iload_n (npc := 18) rfl dX7_isUnder_17 rfl ?_
    refine aw_iload_n (npc := 19) rfl dX7_isUnder_18 rfl ?_
    refine aw_icmp_ne (npc := 22) (tgt := 24) dX7_isUnder_19 rfl (by decide) (fun _ => ?_) (fun hc => absurd hc (by decide))
    refine aw_above (npc := 27) dX7_isUnder_24 rfl ks_X7_322 ?_
    refine aw_iload_n (npc := 28) rfl dX7_isUnder_27 rfl ?_
    refine aw_above_ld (npc := 29) (j := 0) dX7_isUnder_28 rfl ⟨by decide, by decide⟩ rfl ?_
    refine aw_istore_n (npc := 30) (L' := [some (.int 1), some (.int 5), some (.int (-1)), some (.int 1)]) dX7_isUnder_29 rfl (by decide) rfl rfl ?_
    refine aw_iinc (npc := 33) (v := 2) (L' := [some (.int 1), some (.int 5), some (.int (-1)), some (.int 2)]) dX7_isUnder_30 rfl rfl (by decide) (by decide) rfl rfl ?_
    refine aw_goto (npc := 4) dX7_isUnder_33 (by decide) ?_
    refine aw_iload_n (npc := 5) rfl dX7_isUnder_4 rfl ?_
    refine aw_bipush (npc := 7) (v := 6) (by decide) dX7_isUnder_5 rfl ?_
    refine aw_icmp_ge (npc := 10) (tgt := 36) dX7_isUnder_7 rfl (by decide) (fun hc => absurd hc (by decide)) (fun _ => ?_)
    refine aw_iload_n (npc := 11) rfl dX7_isUnder_10 rfl ?_
    refine aw_callS (npc := 14) (N := mX7_isKind) (mc := 0) (ms := 0) (A := [.int (-1)]) (S := []) (L0 := [some (.int (-1))]) dX7_isUnder_11 rfl km_X7_isKind kk_X7_67 rfl ⟨rfl, by decide⟩ rfl (Nat.le_of_ble_eq_true rfl) (Nat.zero_add _) (Nat.zero_add _) rfl ?_
    refine c_X7_isKind (fun hw26 => absurd hw26 (fun z => absurd z (by unfold wi; decide))) (fun _ => ?_)
    refine aw_re (S' := [.int 0]) rfl ?_
    refine aw_if_eq (npc := 17) (tgt := 36) dX7_isUnder_14 rfl (by decide) (fun _ => ?_) (fun hc => absurd (by decide) hc)
    refine aw_iconst (npc := 37) (v := 0) (by decide) dX7_isUnder_36 rfl ?_
    refine aw_zret rfl rfl dX7_isUnder_37 ?_
    exact (show (if undr k g then (1 : Int32) else 0) = 0 by rw [ek, eg]; decide) ▸ hq
  · refine aw_locs (L' := [some (.int 2), some (.int 0), none, none]) (by rw [ek, eg]) ?_
    refine aw_iload_n (npc := 1) rfl dX7_isUnder_0 rfl ?_
    refine aw_istore_n (npc := 2) (L' := [some (.int 2), some (.int 0), some (.int 2), none]) dX7_isUnder_1 rfl (by decide) rfl rfl ?_
    refine aw_iconst (npc := 3) (v := 0) (by decide) dX7_isUnder_2 rfl ?_
    refine aw_istore_n (npc := 4) (L' := [some (.int 2), some (.int 0), some (.int 2), some (.int 0)]) dX7_isUnder_3 rfl (by decide) rfl rfl ?_
    refine aw_iload_n (npc := 5) rfl dX7_isUnder_4 rfl ?_
    refine aw_bipush (npc := 7) (v := 6) (by decide) dX7_isUnder_5 rfl ?_
    refine aw_icmp_ge (npc := 10) (tgt := 36) dX7_isUnder_7 rfl (by decide) (fun hc => absurd hc (by decide)) (fun _ => ?_)
    refine aw_iload_n (npc := 11) rfl dX7_isUnder_10 rfl ?_
    refine aw_callS (npc := 14) (N := mX7_isKind) (mc := 0) (ms := 0) (A := [.int 2]) (S := []) (L0 := [some (.int 2)]) dX7_isUnder_11 rfl km_X7_isKind kk_X7_67 rfl ⟨rfl, by decide⟩ rfl (Nat.le_of_ble_eq_true rfl) (Nat.zero_add _) (Nat.zero_add _) rfl ?_
    refine c_X7_isKind (fun _ => ?_) (fun hw27 => absurd ⟨by decide, by decide⟩ hw27)
    refine aw_re (S' := [.int 1]) rfl ?_
    refine aw_if_eq (npc := 17) (tgt := 36) dX7_isUnder_14 rfl (by decide) (fun hc => absurd hc (by decide)) (fun _ => ?_)
    refine aw_iload_n (npc := 18) rfl dX7_isUnder_17 rfl ?_
    refine aw_iload_n (npc := 19) rfl dX7_isUnder_18 rfl ?_
    refine aw_icmp_ne (npc := 22) (tgt := 24) dX7_isUnder_19 rfl (by decide) (fun _ => ?_) (fun hc => absurd hc (by decide))
    refine aw_above (npc := 27) dX7_isUnder_24 rfl ks_X7_322 ?_
    refine aw_iload_n (npc := 28) rfl dX7_isUnder_27 rfl ?_
    refine aw_above_ld (npc := 29) (j := 2) dX7_isUnder_28 rfl ⟨by decide, by decide⟩ rfl ?_
    refine aw_istore_n (npc := 30) (L' := [some (.int 2), some (.int 0), some (.int 0), some (.int 0)]) dX7_isUnder_29 rfl (by decide) rfl rfl ?_
    refine aw_iinc (npc := 33) (v := 1) (L' := [some (.int 2), some (.int 0), some (.int 0), some (.int 1)]) dX7_isUnder_30 rfl rfl (by decide) (by decide) rfl rfl ?_
    refine aw_goto (npc := 4) dX7_isUnder_33 (by decide) ?_
    refine aw_iload_n (npc := 5) rfl dX7_isUnder_4 rfl ?_
    refine aw_bipush (npc := 7) (v := 6) (by decide) dX7_isUnder_5 rfl ?_
    refine aw_icmp_ge (npc := 10) (tgt := 36) dX7_isUnder_7 rfl (by decide) (fun hc => absurd hc (by decide)) (fun _ => ?_)
    refine aw_iload_n (npc := 11) rfl dX7_isUnder_10 rfl ?_
    refine aw_callS (npc := 14) (N := mX7_isKind) (mc := 0) (ms := 0) (A := [.int 0]) (S := []) (L0 := [some (.int 0)]) dX7_isUnder_11 rfl km_X7_isKind kk_X7_67 rfl ⟨rfl, by decide⟩ rfl (Nat.le_of_ble_eq_true rfl) (Nat.zero_add _) (Nat.zero_add _) rfl ?_
    refine c_X7_isKind (fun _ => ?_) (fun hw28 => absurd ⟨by decide, by decide⟩ hw28)
    refine aw_re (S' := [.int 1]) rfl ?_
    refine aw_if_eq (npc := 17) (tgt := 36) dX7_isUnder_14 rfl (by decide) (fun hc => absurd hc (by decide)) (fun _ => ?_)
    refine aw_iload_n (npc := 18) rfl dX7_isUnder_17 rfl ?_
    refine aw_iload_n (npc := 19) rfl dX7_isUnder_18 rfl ?_
    refine aw_icmp_ne (npc := 22) (tgt := 24) dX7_isUnder_19 rfl (by decide) (fun hc => absurd (by decide) hc) (fun _ => ?_)
    refine aw_iconst (npc := 23) (v := 1) (by decide) dX7_isUnder_22 rfl ?_
    refine aw_zret rfl rfl dX7_isUnder_23 ?_
    exact (show (if undr k g then (1 : Int32) else 0) = 1 by rw [ek, eg]; decide) ▸ hq
  · refine aw_locs (L' := [some (.int 2), some (.int 1), none, none]) (by rw [ek, eg]) ?_
    refine aw_iload_n (npc := 1) rfl dX7_isUnder_0 rfl ?_
    refine aw_istore_n (npc := 2) (L' := [some (.int 2), some (.int 1), some (.int 2), none]) dX7_isUnder_1 rfl (by decide) rfl rfl ?_
    refine aw_iconst (npc := 3) (v := 0) (by decide) dX7_isUnder_2 rfl ?_
    refine aw_istore_n (npc := 4) (L' := [some (.int 2), some (.int 1), some (.int 2), some (.int 0)]) dX7_isUnder_3 rfl (by decide) rfl rfl ?_
    refine aw_iload_n (npc := 5) rfl dX7_isUnder_4 rfl ?_
    refine aw_bipush (npc := 7) (v := 6) (by decide) dX7_isUnder_5 rfl ?_
    refine aw_icmp_ge (npc := 10) (tgt := 36) dX7_isUnder_7 rfl (by decide) (fun hc => absurd hc (by decide)) (fun _ => ?_)
    refine aw_iload_n (npc := 11) rfl dX7_isUnder_10 rfl ?_
    refine aw_callS (npc := 14) (N := mX7_isKind) (mc := 0) (ms := 0) (A := [.int 2]) (S := []) (L0 := [some (.int 2)]) dX7_isUnder_11 rfl km_X7_isKind kk_X7_67 rfl ⟨rfl, by decide⟩ rfl (Nat.le_of_ble_eq_true rfl) (Nat.zero_add _) (Nat.zero_add _) rfl ?_
    refine c_X7_isKind (fun _ => ?_) (fun hw29 => absurd ⟨by decide, by decide⟩ hw29)
    refine aw_re (S' := [.int 1]) rfl ?_
    refine aw_if_eq (npc := 17) (tgt := 36) dX7_isUnder_14 rfl (by decide) (fun hc => absurd hc (by decide)) (fun _ => ?_)
    refine aw_iload_n (npc := 18) rfl dX7_isUnder_17 rfl ?_
    refine aw_iload_n (npc := 19) rfl dX7_isUnder_18 rfl ?_
    refine aw_icmp_ne (npc := 22) (tgt := 24) dX7_isUnder_19 rfl (by decide) (fun _ => ?_) (fun hc => absurd hc (by decide))
    refine aw_above (npc := 27) dX7_isUnder_24 rfl ks_X7_322 ?_
    refine aw_iload_n (npc := 28) rfl dX7_isUnder_27 rfl ?_
    refine aw_above_ld (npc := 29) (j := 2) dX7_isUnder_28 rfl ⟨by decide, by decide⟩ rfl ?_
    refine aw_istore_n (npc := 30) (L' := [some (.int 2), some (.int 1), some (.int 0), some (.int 0)]) dX7_isUnder_29 rfl (by decide) rfl rfl ?_
    refine aw_iinc (npc := 33) (v := 1) (L' := [some (.int 2), some (.int 1), some (.int 0), some (.int 1)]) dX7_isUnder_30 rfl rfl (by decide) (by decide) rfl rfl ?_
    refine aw_goto (npc := 4) dX7_isUnder_33 (by decide) ?_
    refine aw_iload_n (npc := 5) rfl dX7_isUnder_4 rfl ?_
    refine aw_bipush (npc := 7) (v := 6) (by decide) dX7_isUnder_5 rfl ?_
    refine aw_icmp_ge (npc := 10) (tgt := 36) dX7_isUnder_7 rfl (by decide) (fun hc => absurd hc (by decide)) (fun _ => ?_)
    refine aw_iload_n (npc := 11) rfl dX7_isUnder_10 rfl ?_
    refine aw_callS (npc := 14) (N := mX7_isKind) (mc := 0) (ms := 0) (A := [.int 0]) (S := []) (L0 := [some (.int 0)]) dX7_isUnder_11 rfl km_X7_isKind kk_X7_67 rfl ⟨rfl, by decide⟩ rfl (Nat.le_of_ble_eq_true rfl) (Nat.zero_add _) (Nat.zero_add _) rfl ?_
    refine c_X7_isKind (fun _ => ?_) (fun hw30 => absurd ⟨by decide, by decide⟩ hw30)
    refine aw_re (S' := [.int 1]) rfl ?_
    refine aw_if_eq (npc := 17) (tgt := 36) dX7_isUnder_14 rfl (by decide) (fun hc => absurd hc (by decide)) (fun _ => ?_)
    refine aw_iload_n (npc := 18) rfl dX7_isUnder_17 rfl ?_
    refine aw_iload_n (npc := 19) rfl dX7_isUnder_18 rfl ?_
    refine aw_icmp_ne (npc := 22) (tgt := 24) dX7_isUnder_19 rfl (by decide) (fun _ => ?_) (fun hc => absurd hc (by decide))
    refine aw_above (npc := 27) dX7_isUnder_24 rfl ks_X7_322 ?_
    refine aw_iload_n (npc := 28) rfl dX7_isUnder_27 rfl ?_
    refine aw_above_ld (npc := 29) (j := 0) dX7_isUnder_28 rfl ⟨by decide, by decide⟩ rfl ?_
    refine aw_istore_n (npc := 30) (L' := [some (.int 2), some (.int 1), some (.int (-1)), some (.int 1)]) dX7_isUnder_29 rfl (by decide) rfl rfl ?_
    refine aw_iinc (npc := 33) (v := 2) (L' := [some (.int 2), some (.int 1), some (.int (-1)), some (.int 2)]) dX7_isUnder_30 rfl rfl (by decide) (by decide) rfl rfl ?_
    refine aw_goto (npc := 4) dX7_isUnder_33 (by decide) ?_
    refine aw_iload_n (npc := 5) rfl dX7_isUnder_4 rfl ?_
    refine aw_bipush (npc := 7) (v := 6) (by decide) dX7_isUnder_5 rfl ?_
    refine aw_icmp_ge (npc := 10) (tgt := 36) dX7_isUnder_7 rfl (by decide) (fun hc => absurd hc (by decide)) (fun _ => ?_)
    refine aw_iload_n (npc := 11) rfl dX7_isUnder_10 rfl ?_
    refine aw_callS (npc := 14) (N := mX7_isKind) (mc := 0) (ms := 0) (A := [.int (-1)]) (S := []) (L0 := [some (.int (-1))]) dX7_isUnder_11 rfl km_X7_isKind kk_X7_67 rfl ⟨rfl, by decide⟩ rfl (Nat.le_of_ble_eq_true rfl) (Nat.zero_add _) (Nat.zero_add _) rfl ?_
    refine c_X7_isKind (fun hw31 => absurd hw31 (fun z => absurd z (by unfold wi; decide))) (fun _ => ?_)
    refine aw_re (S' := [.int 0]) rfl ?_
    refine aw_if_eq (npc := 17) (tgt := 36) dX7_isUnder_14 rfl (by decide) (fun _ => ?_) (fun hc => absurd (by decide) hc)
    refine aw_iconst (npc := 37) (v := 0) (by decide) dX7_isUnder_36 rfl ?_
    refine aw_zret rfl rfl dX7_isUnder_37 ?_
    exact (show (if undr k g then (1 : Int32) else 0) = 0 by rw [ek, eg]; decide) ▸ hq
  · refine aw_locs (L' := [some (.int 2), some (.int 2), none, none]) (by rw [ek, eg]) ?_
    refine aw_iload_n (npc := 1) rfl dX7_isUnder_0 rfl ?_
    refine aw_istore_n (npc := 2) (L' := [some (.int 2), some (.int 2), some (.int 2), none]) dX7_isUnder_1 rfl (by decide) rfl rfl ?_
    refine aw_iconst (npc := 3) (v := 0) (by decide) dX7_isUnder_2 rfl ?_
    refine aw_istore_n (npc := 4) (L' := [some (.int 2), some (.int 2), some (.int 2), some (.int 0)]) dX7_isUnder_3 rfl (by decide) rfl rfl ?_
    refine aw_iload_n (npc := 5) rfl dX7_isUnder_4 rfl ?_
    refine aw_bipush (npc := 7) (v := 6) (by decide) dX7_isUnder_5 rfl ?_
    refine aw_icmp_ge (npc := 10) (tgt := 36) dX7_isUnder_7 rfl (by decide) (fun hc => absurd hc (by decide)) (fun _ => ?_)
    refine aw_iload_n (npc := 11) rfl dX7_isUnder_10 rfl ?_
    refine aw_callS (npc := 14) (N := mX7_isKind) (mc := 0) (ms := 0) (A := [.int 2]) (S := []) (L0 := [some (.int 2)]) dX7_isUnder_11 rfl km_X7_isKind kk_X7_67 rfl ⟨rfl, by decide⟩ rfl (Nat.le_of_ble_eq_true rfl) (Nat.zero_add _) (Nat.zero_add _) rfl ?_
    refine c_X7_isKind (fun _ => ?_) (fun hw32 => absurd ⟨by decide, by decide⟩ hw32)
    refine aw_re (S' := [.int 1]) rfl ?_
    refine aw_if_eq (npc := 17) (tgt := 36) dX7_isUnder_14 rfl (by decide) (fun hc => absurd hc (by decide)) (fun _ => ?_)
    refine aw_iload_n (npc := 18) rfl dX7_isUnder_17 rfl ?_
    refine aw_iload_n (npc := 19) rfl dX7_isUnder_18 rfl ?_
    refine aw_icmp_ne (npc := 22) (tgt := 24) dX7_isUnder_19 rfl (by decide) (fun hc => absurd (by decide) hc) (fun _ => ?_)
    refine aw_iconst (npc := 23) (v := 1) (by decide) dX7_isUnder_22 rfl ?_
    refine aw_zret rfl rfl dX7_isUnder_23 ?_
    exact (show (if undr k g then (1 : Int32) else 0) = 1 by rw [ek, eg]; decide) ▸ hq
  · refine aw_locs (L' := [some (.int 2), some (.int 3), none, none]) (by rw [ek, eg]) ?_
    refine aw_iload_n (npc := 1) rfl dX7_isUnder_0 rfl ?_
    refine aw_istore_n (npc := 2) (L' := [some (.int 2), some (.int 3), some (.int 2), none]) dX7_isUnder_1 rfl (by decide) rfl rfl ?_
    refine aw_iconst (npc := 3) (v := 0) (by decide) dX7_isUnder_2 rfl ?_
    refine aw_istore_n (npc := 4) (L' := [some (.int 2), some (.int 3), some (.int 2), some (.int 0)]) dX7_isUnder_3 rfl (by decide) rfl rfl ?_
    refine aw_iload_n (npc := 5) rfl dX7_isUnder_4 rfl ?_
    refine aw_bipush (npc := 7) (v := 6) (by decide) dX7_isUnder_5 rfl ?_
    refine aw_icmp_ge (npc := 10) (tgt := 36) dX7_isUnder_7 rfl (by decide) (fun hc => absurd hc (by decide)) (fun _ => ?_)
    refine aw_iload_n (npc := 11) rfl dX7_isUnder_10 rfl ?_
    refine aw_callS (npc := 14) (N := mX7_isKind) (mc := 0) (ms := 0) (A := [.int 2]) (S := []) (L0 := [some (.int 2)]) dX7_isUnder_11 rfl km_X7_isKind kk_X7_67 rfl ⟨rfl, by decide⟩ rfl (Nat.le_of_ble_eq_true rfl) (Nat.zero_add _) (Nat.zero_add _) rfl ?_
    refine c_X7_isKind (fun _ => ?_) (fun hw33 => absurd ⟨by decide, by decide⟩ hw33)
    refine aw_re (S' := [.int 1]) rfl ?_
    refine aw_if_eq (npc := 17) (tgt := 36) dX7_isUnder_14 rfl (by decide) (fun hc => absurd hc (by decide)) (fun _ => ?_)
    refine aw_iload_n (npc := 18) rfl dX7_isUnder_17 rfl ?_
    refine aw_iload_n (npc := 19) rfl dX7_isUnder_18 rfl ?_
    refine aw_icmp_ne (npc := 22) (tgt := 24) dX7_isUnder_19 rfl (by decide) (fun _ => ?_) (fun hc => absurd hc (by decide))
    refine aw_above (npc := 27) dX7_isUnder_24 rfl ks_X7_322 ?_
    refine aw_iload_n (npc := 28) rfl dX7_isUnder_27 rfl ?_
    refine aw_above_ld (npc := 29) (j := 2) dX7_isUnder_28 rfl ⟨by decide, by decide⟩ rfl ?_
    refine aw_istore_n (npc := 30) (L' := [some (.int 2), some (.int 3), some (.int 0), some (.int 0)]) dX7_isUnder_29 rfl (by decide) rfl rfl ?_
    refine aw_iinc (npc := 33) (v := 1) (L' := [some (.int 2), some (.int 3), some (.int 0), some (.int 1)]) dX7_isUnder_30 rfl rfl (by decide) (by decide) rfl rfl ?_
    refine aw_goto (npc := 4) dX7_isUnder_33 (by decide) ?_
    refine aw_iload_n (npc := 5) rfl dX7_isUnder_4 rfl ?_
    refine aw_bipush (npc := 7) (v := 6) (by decide) dX7_isUnder_5 rfl ?_
    refine aw_icmp_ge (npc := 10) (tgt := 36) dX7_isUnder_7 rfl (by decide) (fun hc => absurd hc (by decide)) (fun _ => ?_)
    refine aw_iload_n (npc := 11) rfl dX7_isUnder_10 rfl ?_
    refine aw_callS (npc := 14) (N := mX7_isKind) (mc := 0) (ms := 0) (A := [.int 0]) (S := []) (L0 := [some (.int 0)]) dX7_isUnder_11 rfl km_X7_isKind kk_X7_67 rfl ⟨rfl, by decide⟩ rfl (Nat.le_of_ble_eq_true rfl) (Nat.zero_add _) (Nat.zero_add _) rfl ?_
    refine c_X7_isKind (fun _ => ?_) (fun hw34 => absurd ⟨by decide, by decide⟩ hw34)
    refine aw_re (S' := [.int 1]) rfl ?_
    refine aw_if_eq (npc := 17) (tgt := 36) dX7_isUnder_14 rfl (by decide) (fun hc => absurd hc (by decide)) (fun _ => ?_)
    refine aw_iload_n (npc := 18) rfl dX7_isUnder_17 rfl ?_
    refine aw_iload_n (npc := 19) rfl dX7_isUnder_18 rfl ?_
    refine aw_icmp_ne (npc := 22) (tgt := 24) dX7_isUnder_19 rfl (by decide) (fun _ => ?_) (fun hc => absurd hc (by decide))
    refine aw_above (npc := 27) dX7_isUnder_24 rfl ks_X7_322 ?_
    refine aw_iload_n (npc := 28) rfl dX7_isUnder_27 rfl ?_
    refine aw_above_ld (npc := 29) (j := 0) dX7_isUnder_28 rfl ⟨by decide, by decide⟩ rfl ?_
    refine aw_istore_n (npc := 30) (L' := [some (.int 2), some (.int 3), some (.int (-1)), some (.int 1)]) dX7_isUnder_29 rfl (by decide) rfl rfl ?_
    refine aw_iinc (npc := 33) (v := 2) (L' := [some (.int 2), some (.int 3), some (.int (-1)), some (.int 2)]) dX7_isUnder_30 rfl rfl (by decide) (by decide) rfl rfl ?_
    refine aw_goto (npc := 4) dX7_isUnder_33 (by decide) ?_
    refine aw_iload_n (npc := 5) rfl dX7_isUnder_4 rfl ?_
    refine aw_bipush (npc := 7) (v := 6) (by decide) dX7_isUnder_5 rfl ?_
    refine aw_icmp_ge (npc := 10) (tgt := 36) dX7_isUnder_7 rfl (by decide) (fun hc => absurd hc (by decide)) (fun _ => ?_)
    refine aw_iload_n (npc := 11) rfl dX7_isUnder_10 rfl ?_
    refine aw_callS (npc := 14) (N := mX7_isKind) (mc := 0) (ms := 0) (A := [.int (-1)]) (S := []) (L0 := [some (.int (-1))]) dX7_isUnder_11 rfl km_X7_isKind kk_X7_67 rfl ⟨rfl, by decide⟩ rfl (Nat.le_of_ble_eq_true rfl) (Nat.zero_add _) (Nat.zero_add _) rfl ?_
    refine c_X7_isKind (fun hw35 => absurd hw35 (fun z => absurd z (by unfold wi; decide))) (fun _ => ?_)
    refine aw_re (S' := [.int 0]) rfl ?_
    refine aw_if_eq (npc := 17) (tgt := 36) dX7_isUnder_14 rfl (by decide) (fun _ => ?_) (fun hc => absurd (by decide) hc)
    refine aw_iconst (npc := 37) (v := 0) (by decide) dX7_isUnder_36 rfl ?_
    refine aw_zret rfl rfl dX7_isUnder_37 ?_
    exact (show (if undr k g then (1 : Int32) else 0) = 0 by rw [ek, eg]; decide) ▸ hq
  · refine aw_locs (L' := [some (.int 2), some (.int 4), none, none]) (by rw [ek, eg]) ?_
    refine aw_iload_n (npc := 1) rfl dX7_isUnder_0 rfl ?_
    refine aw_istore_n (npc := 2) (L' := [some (.int 2), some (.int 4), some (.int 2), none]) dX7_isUnder_1 rfl (by decide) rfl rfl ?_
    refine aw_iconst (npc := 3) (v := 0) (by decide) dX7_isUnder_2 rfl ?_
    refine aw_istore_n (npc := 4) (L' := [some (.int 2), some (.int 4), some (.int 2), some (.int 0)]) dX7_isUnder_3 rfl (by decide) rfl rfl ?_
    refine aw_iload_n (npc := 5) rfl dX7_isUnder_4 rfl ?_
    refine aw_bipush (npc := 7) (v := 6) (by decide) dX7_isUnder_5 rfl ?_
    refine aw_icmp_ge (npc := 10) (tgt := 36) dX7_isUnder_7 rfl (by decide) (fun hc => absurd hc (by decide)) (fun _ => ?_)
    refine aw_iload_n (npc := 11) rfl dX7_isUnder_10 rfl ?_
    refine aw_callS (npc := 14) (N := mX7_isKind) (mc := 0) (ms := 0) (A := [.int 2]) (S := []) (L0 := [some (.int 2)]) dX7_isUnder_11 rfl km_X7_isKind kk_X7_67 rfl ⟨rfl, by decide⟩ rfl (Nat.le_of_ble_eq_true rfl) (Nat.zero_add _) (Nat.zero_add _) rfl ?_
    refine c_X7_isKind (fun _ => ?_) (fun hw36 => absurd ⟨by decide, by decide⟩ hw36)
    refine aw_re (S' := [.int 1]) rfl ?_
    refine aw_if_eq (npc := 17) (tgt := 36) dX7_isUnder_14 rfl (by decide) (fun hc => absurd hc (by decide)) (fun _ => ?_)
    refine aw_iload_n (npc := 18) rfl dX7_isUnder_17 rfl ?_
    refine aw_iload_n (npc := 19) rfl dX7_isUnder_18 rfl ?_
    refine aw_icmp_ne (npc := 22) (tgt := 24) dX7_isUnder_19 rfl (by decide) (fun _ => ?_) (fun hc => absurd hc (by decide))
    refine aw_above (npc := 27) dX7_isUnder_24 rfl ks_X7_322 ?_
    refine aw_iload_n (npc := 28) rfl dX7_isUnder_27 rfl ?_
    refine aw_above_ld (npc := 29) (j := 2) dX7_isUnder_28 rfl ⟨by decide, by decide⟩ rfl ?_
    refine aw_istore_n (npc := 30) (L' := [some (.int 2), some (.int 4), some (.int 0), some (.int 0)]) dX7_isUnder_29 rfl (by decide) rfl rfl ?_
    refine aw_iinc (npc := 33) (v := 1) (L' := [some (.int 2), some (.int 4), some (.int 0), some (.int 1)]) dX7_isUnder_30 rfl rfl (by decide) (by decide) rfl rfl ?_
    refine aw_goto (npc := 4) dX7_isUnder_33 (by decide) ?_
    refine aw_iload_n (npc := 5) rfl dX7_isUnder_4 rfl ?_
    refine aw_bipush (npc := 7) (v := 6) (by decide) dX7_isUnder_5 rfl ?_
    refine aw_icmp_ge (npc := 10) (tgt := 36) dX7_isUnder_7 rfl (by decide) (fun hc => absurd hc (by decide)) (fun _ => ?_)
    refine aw_iload_n (npc := 11) rfl dX7_isUnder_10 rfl ?_
    refine aw_callS (npc := 14) (N := mX7_isKind) (mc := 0) (ms := 0) (A := [.int 0]) (S := []) (L0 := [some (.int 0)]) dX7_isUnder_11 rfl km_X7_isKind kk_X7_67 rfl ⟨rfl, by decide⟩ rfl (Nat.le_of_ble_eq_true rfl) (Nat.zero_add _) (Nat.zero_add _) rfl ?_
    refine c_X7_isKind (fun _ => ?_) (fun hw37 => absurd ⟨by decide, by decide⟩ hw37)
    refine aw_re (S' := [.int 1]) rfl ?_
    refine aw_if_eq (npc := 17) (tgt := 36) dX7_isUnder_14 rfl (by decide) (fun hc => absurd hc (by decide)) (fun _ => ?_)
    refine aw_iload_n (npc := 18) rfl dX7_isUnder_17 rfl ?_
    refine aw_iload_n (npc := 19) rfl dX7_isUnder_18 rfl ?_
    refine aw_icmp_ne (npc := 22) (tgt := 24) dX7_isUnder_19 rfl (by decide) (fun _ => ?_) (fun hc => absurd hc (by decide))
    refine aw_above (npc := 27) dX7_isUnder_24 rfl ks_X7_322 ?_
    refine aw_iload_n (npc := 28) rfl dX7_isUnder_27 rfl ?_
    refine aw_above_ld (npc := 29) (j := 0) dX7_isUnder_28 rfl ⟨by decide, by decide⟩ rfl ?_
    refine aw_istore_n (npc := 30) (L' := [some (.int 2), some (.int 4), some (.int (-1)), some (.int 1)]) dX7_isUnder_29 rfl (by decide) rfl rfl ?_
    refine aw_iinc (npc := 33) (v := 2) (L' := [some (.int 2), some (.int 4), some (.int (-1)), some (.int 2)]) dX7_isUnder_30 rfl rfl (by decide) (by decide) rfl rfl ?_
    refine aw_goto (npc := 4) dX7_isUnder_33 (by decide) ?_
    refine aw_iload_n (npc := 5) rfl dX7_isUnder_4 rfl ?_
    refine aw_bipush (npc := 7) (v := 6) (by decide) dX7_isUnder_5 rfl ?_
    refine aw_icmp_ge (npc := 10) (tgt := 36) dX7_isUnder_7 rfl (by decide) (fun hc => absurd hc (by decide)) (fun _ => ?_)
    refine aw_iload_n (npc := 11) rfl dX7_isUnder_10 rfl ?_
    refine aw_callS (npc := 14) (N := mX7_isKind) (mc := 0) (ms := 0) (A := [.int (-1)]) (S := []) (L0 := [some (.int (-1))]) dX7_isUnder_11 rfl km_X7_isKind kk_X7_67 rfl ⟨rfl, by decide⟩ rfl (Nat.le_of_ble_eq_true rfl) (Nat.zero_add _) (Nat.zero_add _) rfl ?_
    refine c_X7_isKind (fun hw38 => absurd hw38 (fun z => absurd z (by unfold wi; decide))) (fun _ => ?_)
    refine aw_re (S' := [.int 0]) rfl ?_
    refine aw_if_eq (npc := 17) (tgt := 36) dX7_isUnder_14 rfl (by decide) (fun _ => ?_) (fun hc => absurd (by decide) hc)
    refine aw_iconst (npc := 37) (v := 0) (by decide) dX7_isUnder_36 rfl ?_
    refine aw_zret rfl rfl dX7_isUnder_37 ?_
    exact (show (if undr k g then (1 : Int32) else 0) = 0 by rw [ek, eg]; decide) ▸ hq
  · refine aw_locs (L' := [some (.int 2), some (.int 5), none, none]) (by rw [ek, eg]) ?_
    refine aw_iload_n (npc := 1) rfl dX7_isUnder_0 rfl ?_
    refine aw_istore_n (npc := 2) (L' := [some (.int 2), some (.int 5), some (.int 2), none]) dX7_isUnder_1 rfl (by decide) rfl rfl ?_
    refine aw_iconst (npc := 3) (v := 0) (by decide) dX7_isUnder_2 rfl ?_
    refine aw_istore_n (npc := 4) (L' := [some (.int 2), some (.int 5), some (.int 2), some (.int 0)]) dX7_isUnder_3 rfl (by decide) rfl rfl ?_
    refine aw_iload_n (npc := 5) rfl dX7_isUnder_4 rfl ?_
    refine aw_bipush (npc := 7) (v := 6) (by decide) dX7_isUnder_5 rfl ?_
    refine aw_icmp_ge (npc := 10) (tgt := 36) dX7_isUnder_7 rfl (by decide) (fun hc => absurd hc (by decide)) (fun _ => ?_)
    refine aw_iload_n (npc := 11) rfl dX7_isUnder_10 rfl ?_
    refine aw_callS (npc := 14) (N := mX7_isKind) (mc := 0) (ms := 0) (A := [.int 2]) (S := []) (L0 := [some (.int 2)]) dX7_isUnder_11 rfl km_X7_isKind kk_X7_67 rfl ⟨rfl, by decide⟩ rfl (Nat.le_of_ble_eq_true rfl) (Nat.zero_add _) (Nat.zero_add _) rfl ?_
    refine c_X7_isKind (fun _ => ?_) (fun hw39 => absurd ⟨by decide, by decide⟩ hw39)
    refine aw_re (S' := [.int 1]) rfl ?_
    refine aw_if_eq (npc := 17) (tgt := 36) dX7_isUnder_14 rfl (by decide) (fun hc => absurd hc (by decide)) (fun _ => ?_)
    refine aw_iload_n (npc := 18) rfl dX7_isUnder_17 rfl ?_
    refine aw_iload_n (npc := 19) rfl dX7_isUnder_18 rfl ?_
    refine aw_icmp_ne (npc := 22) (tgt := 24) dX7_isUnder_19 rfl (by decide) (fun _ => ?_) (fun hc => absurd hc (by decide))
    refine aw_above (npc := 27) dX7_isUnder_24 rfl ks_X7_322 ?_
    refine aw_iload_n (npc := 28) rfl dX7_isUnder_27 rfl ?_
    refine aw_above_ld (npc := 29) (j := 2) dX7_isUnder_28 rfl ⟨by decide, by decide⟩ rfl ?_
    refine aw_istore_n (npc := 30) (L' := [some (.int 2), some (.int 5), some (.int 0), some (.int 0)]) dX7_isUnder_29 rfl (by decide) rfl rfl ?_
    refine aw_iinc (npc := 33) (v := 1) (L' := [some (.int 2), some (.int 5), some (.int 0), some (.int 1)]) dX7_isUnder_30 rfl rfl (by decide) (by decide) rfl rfl ?_
    refine aw_goto (npc := 4) dX7_isUnder_33 (by decide) ?_
    refine aw_iload_n (npc := 5) rfl dX7_isUnder_4 rfl ?_
    refine aw_bipush (npc := 7) (v := 6) (by decide) dX7_isUnder_5 rfl ?_
    refine aw_icmp_ge (npc := 10) (tgt := 36) dX7_isUnder_7 rfl (by decide) (fun hc => absurd hc (by decide)) (fun _ => ?_)
    refine aw_iload_n (npc := 11) rfl dX7_isUnder_10 rfl ?_
    refine aw_callS (npc := 14) (N := mX7_isKind) (mc := 0) (ms := 0) (A := [.int 0]) (S := []) (L0 := [some (.int 0)]) dX7_isUnder_11 rfl km_X7_isKind kk_X7_67 rfl ⟨rfl, by decide⟩ rfl (Nat.le_of_ble_eq_true rfl) (Nat.zero_add _) (Nat.zero_add _) rfl ?_
    refine c_X7_isKind (fun _ => ?_) (fun hw40 => absurd ⟨by decide, by decide⟩ hw40)
    refine aw_re (S' := [.int 1]) rfl ?_
    refine aw_if_eq (npc := 17) (tgt := 36) dX7_isUnder_14 rfl (by decide) (fun hc => absurd hc (by decide)) (fun _ => ?_)
    refine aw_iload_n (npc := 18) rfl dX7_isUnder_17 rfl ?_
    refine aw_iload_n (npc := 19) rfl dX7_isUnder_18 rfl ?_
    refine aw_icmp_ne (npc := 22) (tgt := 24) dX7_isUnder_19 rfl (by decide) (fun _ => ?_) (fun hc => absurd hc (by decide))
    refine aw_above (npc := 27) dX7_isUnder_24 rfl ks_X7_322 ?_
    refine aw_iload_n (npc := 28) rfl dX7_isUnder_27 rfl ?_
    refine aw_above_ld (npc := 29) (j := 0) dX7_isUnder_28 rfl ⟨by decide, by decide⟩ rfl ?_
    refine aw_istore_n (npc := 30) (L' := [some (.int 2), some (.int 5), some (.int (-1)), some (.int 1)]) dX7_isUnder_29 rfl (by decide) rfl rfl ?_
    refine aw_iinc (npc := 33) (v := 2) (L' := [some (.int 2), some (.int 5), some (.int (-1)), some (.int 2)]) dX7_isUnder_30 rfl rfl (by decide) (by decide) rfl rfl ?_
    refine aw_goto (npc := 4) dX7_isUnder_33 (by decide) ?_
    refine aw_iload_n (npc := 5) rfl dX7_isUnder_4 rfl ?_
    refine aw_bipush (npc := 7) (v := 6) (by decide) dX7_isUnder_5 rfl ?_
    refine aw_icmp_ge (npc := 10) (tgt := 36) dX7_isUnder_7 rfl (by decide) (fun hc => absurd hc (by decide)) (fun _ => ?_)
    refine aw_iload_n (npc := 11) rfl dX7_isUnder_10 rfl ?_
    refine aw_callS (npc := 14) (N := mX7_isKind) (mc := 0) (ms := 0) (A := [.int (-1)]) (S := []) (L0 := [some (.int (-1))]) dX7_isUnder_11 rfl km_X7_isKind kk_X7_67 rfl ⟨rfl, by decide⟩ rfl (Nat.le_of_ble_eq_true rfl) (Nat.zero_add _) (Nat.zero_add _) rfl ?_
    refine c_X7_isKind (fun hw41 => absurd hw41 (fun z => absurd z (by unfold wi; decide))) (fun _ => ?_)
    refine aw_re (S' := [.int 0]) rfl ?_
    refine aw_if_eq (npc := 17) (tgt := 36) dX7_isUnder_14 rfl (by decide) (fun _ => ?_) (fun hc => absurd (by decide) hc)
    refine aw_iconst (npc := 37) (v := 0) (by decide) dX7_isUnder_36 rfl ?_
    refine aw_zret rfl rfl dX7_isUnder_37 ?_
    exact (show (if undr k g then (1 : Int32) else 0) = 0 by rw [ek, eg]; decide) ▸ hq
  · refine aw_locs (L' := [some (.int 3), some (.int 0), none, none]) (by rw [ek, eg]) ?_
    refine aw_iload_n (npc := 1) rfl dX7_isUnder_0 rfl ?_
    refine aw_istore_n (npc := 2) (L' := [some (.int 3), some (.int 0), some (.int 3), none]) dX7_isUnder_1 rfl (by decide) rfl rfl ?_
    refine aw_iconst (npc := 3) (v := 0) (by decide) dX7_isUnder_2 rfl ?_
    refine aw_istore_n (npc := 4) (L' := [some (.int 3), some (.int 0), some (.int 3), some (.int 0)]) dX7_isUnder_3 rfl (by decide) rfl rfl ?_
    refine aw_iload_n (npc := 5) rfl dX7_isUnder_4 rfl ?_
    refine aw_bipush (npc := 7) (v := 6) (by decide) dX7_isUnder_5 rfl ?_
    refine aw_icmp_ge (npc := 10) (tgt := 36) dX7_isUnder_7 rfl (by decide) (fun hc => absurd hc (by decide)) (fun _ => ?_)
    refine aw_iload_n (npc := 11) rfl dX7_isUnder_10 rfl ?_
    refine aw_callS (npc := 14) (N := mX7_isKind) (mc := 0) (ms := 0) (A := [.int 3]) (S := []) (L0 := [some (.int 3)]) dX7_isUnder_11 rfl km_X7_isKind kk_X7_67 rfl ⟨rfl, by decide⟩ rfl (Nat.le_of_ble_eq_true rfl) (Nat.zero_add _) (Nat.zero_add _) rfl ?_
    refine c_X7_isKind (fun _ => ?_) (fun hw42 => absurd ⟨by decide, by decide⟩ hw42)
    refine aw_re (S' := [.int 1]) rfl ?_
    refine aw_if_eq (npc := 17) (tgt := 36) dX7_isUnder_14 rfl (by decide) (fun hc => absurd hc (by decide)) (fun _ => ?_)
    refine aw_iload_n (npc := 18) rfl dX7_isUnder_17 rfl ?_
    refine aw_iload_n (npc := 19) rfl dX7_isUnder_18 rfl ?_
    refine aw_icmp_ne (npc := 22) (tgt := 24) dX7_isUnder_19 rfl (by decide) (fun _ => ?_) (fun hc => absurd hc (by decide))
    refine aw_above (npc := 27) dX7_isUnder_24 rfl ks_X7_322 ?_
    refine aw_iload_n (npc := 28) rfl dX7_isUnder_27 rfl ?_
    refine aw_above_ld (npc := 29) (j := 3) dX7_isUnder_28 rfl ⟨by decide, by decide⟩ rfl ?_
    refine aw_istore_n (npc := 30) (L' := [some (.int 3), some (.int 0), some (.int 1), some (.int 0)]) dX7_isUnder_29 rfl (by decide) rfl rfl ?_
    refine aw_iinc (npc := 33) (v := 1) (L' := [some (.int 3), some (.int 0), some (.int 1), some (.int 1)]) dX7_isUnder_30 rfl rfl (by decide) (by decide) rfl rfl ?_
    refine aw_goto (npc := 4) dX7_isUnder_33 (by decide) ?_
    refine aw_iload_n (npc := 5) rfl dX7_isUnder_4 rfl ?_
    refine aw_bipush (npc := 7) (v := 6) (by decide) dX7_isUnder_5 rfl ?_
    refine aw_icmp_ge (npc := 10) (tgt := 36) dX7_isUnder_7 rfl (by decide) (fun hc => absurd hc (by decide)) (fun _ => ?_)
    refine aw_iload_n (npc := 11) rfl dX7_isUnder_10 rfl ?_
    refine aw_callS (npc := 14) (N := mX7_isKind) (mc := 0) (ms := 0) (A := [.int 1]) (S := []) (L0 := [some (.int 1)]) dX7_isUnder_11 rfl km_X7_isKind kk_X7_67 rfl ⟨rfl, by decide⟩ rfl (Nat.le_of_ble_eq_true rfl) (Nat.zero_add _) (Nat.zero_add _) rfl ?_
    refine c_X7_isKind (fun _ => ?_) (fun hw43 => absurd ⟨by decide, by decide⟩ hw43)
    refine aw_re (S' := [.int 1]) rfl ?_
    refine aw_if_eq (npc := 17) (tgt := 36) dX7_isUnder_14 rfl (by decide) (fun hc => absurd hc (by decide)) (fun _ => ?_)
    refine aw_iload_n (npc := 18) rfl dX7_isUnder_17 rfl ?_
    refine aw_iload_n (npc := 19) rfl dX7_isUnder_18 rfl ?_
    refine aw_icmp_ne (npc := 22) (tgt := 24) dX7_isUnder_19 rfl (by decide) (fun _ => ?_) (fun hc => absurd hc (by decide))
    refine aw_above (npc := 27) dX7_isUnder_24 rfl ks_X7_322 ?_
    refine aw_iload_n (npc := 28) rfl dX7_isUnder_27 rfl ?_
    refine aw_above_ld (npc := 29) (j := 1) dX7_isUnder_28 rfl ⟨by decide, by decide⟩ rfl ?_
    refine aw_istore_n (npc := 30) (L' := [some (.int 3), some (.int 0), some (.int 0), some (.int 1)]) dX7_isUnder_29 rfl (by decide) rfl rfl ?_
    refine aw_iinc (npc := 33) (v := 2) (L' := [some (.int 3), some (.int 0), some (.int 0), some (.int 2)]) dX7_isUnder_30 rfl rfl (by decide) (by decide) rfl rfl ?_
    refine aw_goto (npc := 4) dX7_isUnder_33 (by decide) ?_
    refine aw_iload_n (npc := 5) rfl dX7_isUnder_4 rfl ?_
    refine aw_bipush (npc := 7) (v := 6) (by decide) dX7_isUnder_5 rfl ?_
    refine aw_icmp_ge (npc := 10) (tgt := 36) dX7_isUnder_7 rfl (by decide) (fun hc => absurd hc (by decide)) (fun _ => ?_)
    refine aw_iload_n (npc := 11) rfl dX7_isUnder_10 rfl ?_
    refine aw_callS (npc := 14) (N := mX7_isKind) (mc := 0) (ms := 0) (A := [.int 0]) (S := []) (L0 := [some (.int 0)]) dX7_isUnder_11 rfl km_X7_isKind kk_X7_67 rfl ⟨rfl, by decide⟩ rfl (Nat.le_of_ble_eq_true rfl) (Nat.zero_add _) (Nat.zero_add _) rfl ?_
    refine c_X7_isKind (fun _ => ?_) (fun hw44 => absurd ⟨by decide, by decide⟩ hw44)
    refine aw_re (S' := [.int 1]) rfl ?_
    refine aw_if_eq (npc := 17) (tgt := 36) dX7_isUnder_14 rfl (by decide) (fun hc => absurd hc (by decide)) (fun _ => ?_)
    refine aw_iload_n (npc := 18) rfl dX7_isUnder_17 rfl ?_
    refine aw_iload_n (npc := 19) rfl dX7_isUnder_18 rfl ?_
    refine aw_icmp_ne (npc := 22) (tgt := 24) dX7_isUnder_19 rfl (by decide) (fun hc => absurd (by decide) hc) (fun _ => ?_)
    refine aw_iconst (npc := 23) (v := 1) (by decide) dX7_isUnder_22 rfl ?_
    refine aw_zret rfl rfl dX7_isUnder_23 ?_
    exact (show (if undr k g then (1 : Int32) else 0) = 1 by rw [ek, eg]; decide) ▸ hq
  · refine aw_locs (L' := [some (.int 3), some (.int 1), none, none]) (by rw [ek, eg]) ?_
    refine aw_iload_n (npc := 1) rfl dX7_isUnder_0 rfl ?_
    refine aw_istore_n (npc := 2) (L' := [some (.int 3), some (.int 1), some (.int 3), none]) dX7_isUnder_1 rfl (by decide) rfl rfl ?_
    refine aw_iconst (npc := 3) (v := 0) (by decide) dX7_isUnder_2 rfl ?_
    refine aw_istore_n (npc := 4) (L' := [some (.int 3), some (.int 1), some (.int 3), some (.int 0)]) dX7_isUnder_3 rfl (by decide) rfl rfl ?_
    refine aw_iload_n (npc := 5) rfl dX7_isUnder_4 rfl ?_
    refine aw_bipush (npc := 7) (v := 6) (by decide) dX7_isUnder_5 rfl ?_
    refine aw_icmp_ge (npc := 10) (tgt := 36) dX7_isUnder_7 rfl (by decide) (fun hc => absurd hc (by decide)) (fun _ => ?_)
    refine aw_iload_n (npc := 11) rfl dX7_isUnder_10 rfl ?_
    refine aw_callS (npc := 14) (N := mX7_isKind) (mc := 0) (ms := 0) (A := [.int 3]) (S := []) (L0 := [some (.int 3)]) dX7_isUnder_11 rfl km_X7_isKind kk_X7_67 rfl ⟨rfl, by decide⟩ rfl (Nat.le_of_ble_eq_true rfl) (Nat.zero_add _) (Nat.zero_add _) rfl ?_
    refine c_X7_isKind (fun _ => ?_) (fun hw45 => absurd ⟨by decide, by decide⟩ hw45)
    refine aw_re (S' := [.int 1]) rfl ?_
    refine aw_if_eq (npc := 17) (tgt := 36) dX7_isUnder_14 rfl (by decide) (fun hc => absurd hc (by decide)) (fun _ => ?_)
    refine aw_iload_n (npc := 18) rfl dX7_isUnder_17 rfl ?_
    refine aw_iload_n (npc := 19) rfl dX7_isUnder_18 rfl ?_
    refine aw_icmp_ne (npc := 22) (tgt := 24) dX7_isUnder_19 rfl (by decide) (fun _ => ?_) (fun hc => absurd hc (by decide))
    refine aw_above (npc := 27) dX7_isUnder_24 rfl ks_X7_322 ?_
    refine aw_iload_n (npc := 28) rfl dX7_isUnder_27 rfl ?_
    refine aw_above_ld (npc := 29) (j := 3) dX7_isUnder_28 rfl ⟨by decide, by decide⟩ rfl ?_
    refine aw_istore_n (npc := 30) (L' := [some (.int 3), some (.int 1), some (.int 1), some (.int 0)]) dX7_isUnder_29 rfl (by decide) rfl rfl ?_
    refine aw_iinc (npc := 33) (v := 1) (L' := [some (.int 3), some (.int 1), some (.int 1), some (.int 1)]) dX7_isUnder_30 rfl rfl (by decide) (by decide) rfl rfl ?_
    refine aw_goto (npc := 4) dX7_isUnder_33 (by decide) ?_
    refine aw_iload_n (npc := 5) rfl dX7_isUnder_4 rfl ?_
    refine aw_bipush (npc := 7) (v := 6) (by decide) dX7_isUnder_5 rfl ?_
    refine aw_icmp_ge (npc := 10) (tgt := 36) dX7_isUnder_7 rfl (by decide) (fun hc => absurd hc (by decide)) (fun _ => ?_)
    refine aw_iload_n (npc := 11) rfl dX7_isUnder_10 rfl ?_
    refine aw_callS (npc := 14) (N := mX7_isKind) (mc := 0) (ms := 0) (A := [.int 1]) (S := []) (L0 := [some (.int 1)]) dX7_isUnder_11 rfl km_X7_isKind kk_X7_67 rfl ⟨rfl, by decide⟩ rfl (Nat.le_of_ble_eq_true rfl) (Nat.zero_add _) (Nat.zero_add _) rfl ?_
    refine c_X7_isKind (fun _ => ?_) (fun hw46 => absurd ⟨by decide, by decide⟩ hw46)
    refine aw_re (S' := [.int 1]) rfl ?_
    refine aw_if_eq (npc := 17) (tgt := 36) dX7_isUnder_14 rfl (by decide) (fun hc => absurd hc (by decide)) (fun _ => ?_)
    refine aw_iload_n (npc := 18) rfl dX7_isUnder_17 rfl ?_
    refine aw_iload_n (npc := 19) rfl dX7_isUnder_18 rfl ?_
    refine aw_icmp_ne (npc := 22) (tgt := 24) dX7_isUnder_19 rfl (by decide) (fun hc => absurd (by decide) hc) (fun _ => ?_)
    refine aw_iconst (npc := 23) (v := 1) (by decide) dX7_isUnder_22 rfl ?_
    refine aw_zret rfl rfl dX7_isUnder_23 ?_
    exact (show (if undr k g then (1 : Int32) else 0) = 1 by rw [ek, eg]; decide) ▸ hq
  · refine aw_locs (L' := [some (.int 3), some (.int 2), none, none]) (by rw [ek, eg]) ?_
    refine aw_iload_n (npc := 1) rfl dX7_isUnder_0 rfl ?_
    refine aw_istore_n (npc := 2) (L' := [some (.int 3), some (.int 2), some (.int 3), none]) dX7_isUnder_1 rfl (by decide) rfl rfl ?_
    refine aw_iconst (npc := 3) (v := 0) (by decide) dX7_isUnder_2 rfl ?_
    refine aw_istore_n (npc := 4) (L' := [some (.int 3), some (.int 2), some (.int 3), some (.int 0)]) dX7_isUnder_3 rfl (by decide) rfl rfl ?_
    refine aw_iload_n (npc := 5) rfl dX7_isUnder_4 rfl ?_
    refine aw_bipush (npc := 7) (v := 6) (by decide) dX7_isUnder_5 rfl ?_
    refine aw_icmp_ge (npc := 10) (tgt := 36) dX7_isUnder_7 rfl (by decide) (fun hc => absurd hc (by decide)) (fun _ => ?_)
    refine aw_iload_n (npc := 11) rfl dX7_isUnder_10 rfl ?_
    refine aw_callS (npc := 14) (N := mX7_isKind) (mc := 0) (ms := 0) (A := [.int 3]) (S := []) (L0 := [some (.int 3)]) dX7_isUnder_11 rfl km_X7_isKind kk_X7_67 rfl ⟨rfl, by decide⟩ rfl (Nat.le_of_ble_eq_true rfl) (Nat.zero_add _) (Nat.zero_add _) rfl ?_
    refine c_X7_isKind (fun _ => ?_) (fun hw47 => absurd ⟨by decide, by decide⟩ hw47)
    refine aw_re (S' := [.int 1]) rfl ?_
    refine aw_if_eq (npc := 17) (tgt := 36) dX7_isUnder_14 rfl (by decide) (fun hc => absurd hc (by decide)) (fun _ => ?_)
    refine aw_iload_n (npc := 18) rfl dX7_isUnder_17 rfl ?_
    refine aw_iload_n (npc := 19) rfl dX7_isUnder_18 rfl ?_
    refine aw_icmp_ne (npc := 22) (tgt := 24) dX7_isUnder_19 rfl (by decide) (fun _ => ?_) (fun hc => absurd hc (by decide))
    refine aw_above (npc := 27) dX7_isUnder_24 rfl ks_X7_322 ?_
    refine aw_iload_n (npc := 28) rfl dX7_isUnder_27 rfl ?_
    refine aw_above_ld (npc := 29) (j := 3) dX7_isUnder_28 rfl ⟨by decide, by decide⟩ rfl ?_
    refine aw_istore_n (npc := 30) (L' := [some (.int 3), some (.int 2), some (.int 1), some (.int 0)]) dX7_isUnder_29 rfl (by decide) rfl rfl ?_
    refine aw_iinc (npc := 33) (v := 1) (L' := [some (.int 3), some (.int 2), some (.int 1), some (.int 1)]) dX7_isUnder_30 rfl rfl (by decide) (by decide) rfl rfl ?_
    refine aw_goto (npc := 4) dX7_isUnder_33 (by decide) ?_
    refine aw_iload_n (npc := 5) rfl dX7_isUnder_4 rfl ?_
    refine aw_bipush (npc := 7) (v := 6) (by decide) dX7_isUnder_5 rfl ?_
    refine aw_icmp_ge (npc := 10) (tgt := 36) dX7_isUnder_7 rfl (by decide) (fun hc => absurd hc (by decide)) (fun _ => ?_)
    refine aw_iload_n (npc := 11) rfl dX7_isUnder_10 rfl ?_
    refine aw_callS (npc := 14) (N := mX7_isKind) (mc := 0) (ms := 0) (A := [.int 1]) (S := []) (L0 := [some (.int 1)]) dX7_isUnder_11 rfl km_X7_isKind kk_X7_67 rfl ⟨rfl, by decide⟩ rfl (Nat.le_of_ble_eq_true rfl) (Nat.zero_add _) (Nat.zero_add _) rfl ?_
    refine c_X7_isKind (fun _ => ?_) (fun hw48 => absurd ⟨by decide, by decide⟩ hw48)
    refine aw_re (S' := [.int 1]) rfl ?_
    refine aw_if_eq (npc := 17) (tgt := 36) dX7_isUnder_14 rfl (by decide) (fun hc => absurd hc (by decide)) (fun _ => ?_)
    refine aw_iload_n (npc := 18) rfl dX7_isUnder_17 rfl ?_
    refine aw_iload_n (npc := 19) rfl dX7_isUnder_18 rfl ?_
    refine aw_icmp_ne (npc := 22) (tgt := 24) dX7_isUnder_19 rfl (by decide) (fun _ => ?_) (fun hc => absurd hc (by decide))
    refine aw_above (npc := 27) dX7_isUnder_24 rfl ks_X7_322 ?_
    refine aw_iload_n (npc := 28) rfl dX7_isUnder_27 rfl ?_
    refine aw_above_ld (npc := 29) (j := 1) dX7_isUnder_28 rfl ⟨by decide, by decide⟩ rfl ?_
    refine aw_istore_n (npc := 30) (L' := [some (.int 3), some (.int 2), some (.int 0), some (.int 1)]) dX7_isUnder_29 rfl (by decide) rfl rfl ?_
    refine aw_iinc (npc := 33) (v := 2) (L' := [some (.int 3), some (.int 2), some (.int 0), some (.int 2)]) dX7_isUnder_30 rfl rfl (by decide) (by decide) rfl rfl ?_
    refine aw_goto (npc := 4) dX7_isUnder_33 (by decide) ?_
    refine aw_iload_n (npc := 5) rfl dX7_isUnder_4 rfl ?_
    refine aw_bipush (npc := 7) (v := 6) (by decide) dX7_isUnder_5 rfl ?_
    refine aw_icmp_ge (npc := 10) (tgt := 36) dX7_isUnder_7 rfl (by decide) (fun hc => absurd hc (by decide)) (fun _ => ?_)
    refine aw_iload_n (npc := 11) rfl dX7_isUnder_10 rfl ?_
    refine aw_callS (npc := 14) (N := mX7_isKind) (mc := 0) (ms := 0) (A := [.int 0]) (S := []) (L0 := [some (.int 0)]) dX7_isUnder_11 rfl km_X7_isKind kk_X7_67 rfl ⟨rfl, by decide⟩ rfl (Nat.le_of_ble_eq_true rfl) (Nat.zero_add _) (Nat.zero_add _) rfl ?_
    refine c_X7_isKind (fun _ => ?_) (fun hw49 => absurd ⟨by decide, by decide⟩ hw49)
    refine aw_re (S' := [.int 1]) rfl ?_
    refine aw_if_eq (npc := 17) (tgt := 36) dX7_isUnder_14 rfl (by decide) (fun hc => absurd hc (by decide)) (fun _ => ?_)
    refine aw_iload_n (npc := 18) rfl dX7_isUnder_17 rfl ?_
    refine aw_iload_n (npc := 19) rfl dX7_isUnder_18 rfl ?_
    refine aw_icmp_ne (npc := 22) (tgt := 24) dX7_isUnder_19 rfl (by decide) (fun _ => ?_) (fun hc => absurd hc (by decide))
    refine aw_above (npc := 27) dX7_isUnder_24 rfl ks_X7_322 ?_
    refine aw_iload_n (npc := 28) rfl dX7_isUnder_27 rfl ?_
    refine aw_above_ld (npc := 29) (j := 0) dX7_isUnder_28 rfl ⟨by decide, by decide⟩ rfl ?_
    refine aw_istore_n (npc := 30) (L' := [some (.int 3), some (.int 2), some (.int (-1)), some (.int 2)]) dX7_isUnder_29 rfl (by decide) rfl rfl ?_
    refine aw_iinc (npc := 33) (v := 3) (L' := [some (.int 3), some (.int 2), some (.int (-1)), some (.int 3)]) dX7_isUnder_30 rfl rfl (by decide) (by decide) rfl rfl ?_
    refine aw_goto (npc := 4) dX7_isUnder_33 (by decide) ?_
    refine aw_iload_n (npc := 5) rfl dX7_isUnder_4 rfl ?_
    refine aw_bipush (npc := 7) (v := 6) (by decide) dX7_isUnder_5 rfl ?_
    refine aw_icmp_ge (npc := 10) (tgt := 36) dX7_isUnder_7 rfl (by decide) (fun hc => absurd hc (by decide)) (fun _ => ?_)
    refine aw_iload_n (npc := 11) rfl dX7_isUnder_10 rfl ?_
    refine aw_callS (npc := 14) (N := mX7_isKind) (mc := 0) (ms := 0) (A := [.int (-1)]) (S := []) (L0 := [some (.int (-1))]) dX7_isUnder_11 rfl km_X7_isKind kk_X7_67 rfl ⟨rfl, by decide⟩ rfl (Nat.le_of_ble_eq_true rfl) (Nat.zero_add _) (Nat.zero_add _) rfl ?_
    refine c_X7_isKind (fun hw50 => absurd hw50 (fun z => absurd z (by unfold wi; decide))) (fun _ => ?_)
    refine aw_re (S' := [.int 0]) rfl ?_
    refine aw_if_eq (npc := 17) (tgt := 36) dX7_isUnder_14 rfl (by decide) (fun _ => ?_) (fun hc => absurd (by decide) hc)
    refine aw_iconst (npc := 37) (v := 0) (by decide) dX7_isUnder_36 rfl ?_
    refine aw_zret rfl rfl dX7_isUnder_37 ?_
    exact (show (if undr k g then (1 : Int32) else 0) = 0 by rw [ek, eg]; decide) ▸ hq
  · refine aw_locs (L' := [some (.int 3), some (.int 3), none, none]) (by rw [ek, eg]) ?_
    refine aw_iload_n (npc := 1) rfl dX7_isUnder_0 rfl ?_
    refine aw_istore_n (npc := 2) (L' := [some (.int 3), some (.int 3), some (.int 3), none]) dX7_isUnder_1 rfl (by decide) rfl rfl ?_
    refine aw_iconst (npc := 3) (v := 0) (by decide) dX7_isUnder_2 rfl ?_
    refine aw_istore_n (npc := 4) (L' := [some (.int 3), some (.int 3), some (.int 3), some (.int 0)]) dX7_isUnder_3 rfl (by decide) rfl rfl ?_
    refine aw_iload_n (npc := 5) rfl dX7_isUnder_4 rfl ?_
    refine aw_bipush (npc := 7) (v := 6) (by decide) dX7_isUnder_5 rfl ?_
    refine aw_icmp_ge (npc := 10) (tgt := 36) dX7_isUnder_7 rfl (by decide) (fun hc => absurd hc (by decide)) (fun _ => ?_)
    refine aw_iload_n (npc := 11) rfl dX7_isUnder_10 rfl ?_
    refine aw_callS (npc := 14) (N := mX7_isKind) (mc := 0) (ms := 0) (A := [.int 3]) (S := []) (L0 := [some (.int 3)]) dX7_isUnder_11 rfl km_X7_isKind kk_X7_67 rfl ⟨rfl, by decide⟩ rfl (Nat.le_of_ble_eq_true rfl) (Nat.zero_add _) (Nat.zero_add _) rfl ?_
    refine c_X7_isKind (fun _ => ?_) (fun hw51 => absurd ⟨by decide, by decide⟩ hw51)
    refine aw_re (S' := [.int 1]) rfl ?_
    refine aw_if_eq (npc := 17) (tgt := 36) dX7_isUnder_14 rfl (by decide) (fun hc => absurd hc (by decide)) (fun _ => ?_)
    refine aw_iload_n (npc := 18) rfl dX7_isUnder_17 rfl ?_
    refine aw_iload_n (npc := 19) rfl dX7_isUnder_18 rfl ?_
    refine aw_icmp_ne (npc := 22) (tgt := 24) dX7_isUnder_19 rfl (by decide) (fun hc => absurd (by decide) hc) (fun _ => ?_)
    refine aw_iconst (npc := 23) (v := 1) (by decide) dX7_isUnder_22 rfl ?_
    refine aw_zret rfl rfl dX7_isUnder_23 ?_
    exact (show (if undr k g then (1 : Int32) else 0) = 1 by rw [ek, eg]; decide) ▸ hq
  · refine aw_locs (L' := [some (.int 3), some (.int 4), none, none]) (by rw [ek, eg]) ?_
    refine aw_iload_n (npc := 1) rfl dX7_isUnder_0 rfl ?_
    refine aw_istore_n (npc := 2) (L' := [some (.int 3), some (.int 4), some (.int 3), none]) dX7_isUnder_1 rfl (by decide) rfl rfl ?_
    refine aw_iconst (npc := 3) (v := 0) (by decide) dX7_isUnder_2 rfl ?_
    refine aw_istore_n (npc := 4) (L' := [some (.int 3), some (.int 4), some (.int 3), some (.int 0)]) dX7_isUnder_3 rfl (by decide) rfl rfl ?_
    refine aw_iload_n (npc := 5) rfl dX7_isUnder_4 rfl ?_
    refine aw_bipush (npc := 7) (v := 6) (by decide) dX7_isUnder_5 rfl ?_
    refine aw_icmp_ge (npc := 10) (tgt := 36) dX7_isUnder_7 rfl (by decide) (fun hc => absurd hc (by decide)) (fun _ => ?_)
    refine aw_iload_n (npc := 11) rfl dX7_isUnder_10 rfl ?_
    refine aw_callS (npc := 14) (N := mX7_isKind) (mc := 0) (ms := 0) (A := [.int 3]) (S := []) (L0 := [some (.int 3)]) dX7_isUnder_11 rfl km_X7_isKind kk_X7_67 rfl ⟨rfl, by decide⟩ rfl (Nat.le_of_ble_eq_true rfl) (Nat.zero_add _) (Nat.zero_add _) rfl ?_
    refine c_X7_isKind (fun _ => ?_) (fun hw52 => absurd ⟨by decide, by decide⟩ hw52)
    refine aw_re (S' := [.int 1]) rfl ?_
    refine aw_if_eq (npc := 17) (tgt := 36) dX7_isUnder_14 rfl (by decide) (fun hc => absurd hc (by decide)) (fun _ => ?_)
    refine aw_iload_n (npc := 18) rfl dX7_isUnder_17 rfl ?_
    refine aw_iload_n (npc := 19) rfl dX7_isUnder_18 rfl ?_
    refine aw_icmp_ne (npc := 22) (tgt := 24) dX7_isUnder_19 rfl (by decide) (fun _ => ?_) (fun hc => absurd hc (by decide))
    refine aw_above (npc := 27) dX7_isUnder_24 rfl ks_X7_322 ?_
    refine aw_iload_n (npc := 28) rfl dX7_isUnder_27 rfl ?_
    refine aw_above_ld (npc := 29) (j := 3) dX7_isUnder_28 rfl ⟨by decide, by decide⟩ rfl ?_
    refine aw_istore_n (npc := 30) (L' := [some (.int 3), some (.int 4), some (.int 1), some (.int 0)]) dX7_isUnder_29 rfl (by decide) rfl rfl ?_
    refine aw_iinc (npc := 33) (v := 1) (L' := [some (.int 3), some (.int 4), some (.int 1), some (.int 1)]) dX7_isUnder_30 rfl rfl (by decide) (by decide) rfl rfl ?_
    refine aw_goto (npc := 4) dX7_isUnder_33 (by decide) ?_
    refine aw_iload_n (npc := 5) rfl dX7_isUnder_4 rfl ?_
    refine aw_bipush (npc := 7) (v := 6) (by decide) dX7_isUnder_5 rfl ?_
    refine aw_icmp_ge (npc := 10) (tgt := 36) dX7_isUnder_7 rfl (by decide) (fun hc => absurd hc (by decide)) (fun _ => ?_)
    refine aw_iload_n (npc := 11) rfl dX7_isUnder_10 rfl ?_
    refine aw_callS (npc := 14) (N := mX7_isKind) (mc := 0) (ms := 0) (A := [.int 1]) (S := []) (L0 := [some (.int 1)]) dX7_isUnder_11 rfl km_X7_isKind kk_X7_67 rfl ⟨rfl, by decide⟩ rfl (Nat.le_of_ble_eq_true rfl) (Nat.zero_add _) (Nat.zero_add _) rfl ?_
    refine c_X7_isKind (fun _ => ?_) (fun hw53 => absurd ⟨by decide, by decide⟩ hw53)
    refine aw_re (S' := [.int 1]) rfl ?_
    refine aw_if_eq (npc := 17) (tgt := 36) dX7_isUnder_14 rfl (by decide) (fun hc => absurd hc (by decide)) (fun _ => ?_)
    refine aw_iload_n (npc := 18) rfl dX7_isUnder_17 rfl ?_
    refine aw_iload_n (npc := 19) rfl dX7_isUnder_18 rfl ?_
    refine aw_icmp_ne (npc := 22) (tgt := 24) dX7_isUnder_19 rfl (by decide) (fun _ => ?_) (fun hc => absurd hc (by decide))
    refine aw_above (npc := 27) dX7_isUnder_24 rfl ks_X7_322 ?_
    refine aw_iload_n (npc := 28) rfl dX7_isUnder_27 rfl ?_
    refine aw_above_ld (npc := 29) (j := 1) dX7_isUnder_28 rfl ⟨by decide, by decide⟩ rfl ?_
    refine aw_istore_n (npc := 30) (L' := [some (.int 3), some (.int 4), some (.int 0), some (.int 1)]) dX7_isUnder_29 rfl (by decide) rfl rfl ?_
    refine aw_iinc (npc := 33) (v := 2) (L' := [some (.int 3), some (.int 4), some (.int 0), some (.int 2)]) dX7_isUnder_30 rfl rfl (by decide) (by decide) rfl rfl ?_
    refine aw_goto (npc := 4) dX7_isUnder_33 (by decide) ?_
    refine aw_iload_n (npc := 5) rfl dX7_isUnder_4 rfl ?_
    refine aw_bipush (npc := 7) (v := 6) (by decide) dX7_isUnder_5 rfl ?_
    refine aw_icmp_ge (npc := 10) (tgt := 36) dX7_isUnder_7 rfl (by decide) (fun hc => absurd hc (by decide)) (fun _ => ?_)
    refine aw_iload_n (npc := 11) rfl dX7_isUnder_10 rfl ?_
    refine aw_callS (npc := 14) (N := mX7_isKind) (mc := 0) (ms := 0) (A := [.int 0]) (S := []) (L0 := [some (.int 0)]) dX7_isUnder_11 rfl km_X7_isKind kk_X7_67 rfl ⟨rfl, by decide⟩ rfl (Nat.le_of_ble_eq_true rfl) (Nat.zero_add _) (Nat.zero_add _) rfl ?_
    refine c_X7_isKind (fun _ => ?_) (fun hw54 => absurd ⟨by decide, by decide⟩ hw54)
    refine aw_re (S' := [.int 1]) rfl ?_
    refine aw_if_eq (npc := 17) (tgt := 36) dX7_isUnder_14 rfl (by decide) (fun hc => absurd hc (by decide)) (fun _ => ?_)
    refine aw_iload_n (npc := 18) rfl dX7_isUnder_17 rfl ?_
    refine aw_iload_n (npc := 19) rfl dX7_isUnder_18 rfl ?_
    refine aw_icmp_ne (npc := 22) (tgt := 24) dX7_isUnder_19 rfl (by decide) (fun _ => ?_) (fun hc => absurd hc (by decide))
    refine aw_above (npc := 27) dX7_isUnder_24 rfl ks_X7_322 ?_
    refine aw_iload_n (npc := 28) rfl dX7_isUnder_27 rfl ?_
    refine aw_above_ld (npc := 29) (j := 0) dX7_isUnder_28 rfl ⟨by decide, by decide⟩ rfl ?_
    refine aw_istore_n (npc := 30) (L' := [some (.int 3), some (.int 4), some (.int (-1)), some (.int 2)]) dX7_isUnder_29 rfl (by decide) rfl rfl ?_
    refine aw_iinc (npc := 33) (v := 3) (L' := [some (.int 3), some (.int 4), some (.int (-1)), some (.int 3)]) dX7_isUnder_30 rfl rfl (by decide) (by decide) rfl rfl ?_
    refine aw_goto (npc := 4) dX7_isUnder_33 (by decide) ?_
    refine aw_iload_n (npc := 5) rfl dX7_isUnder_4 rfl ?_
    refine aw_bipush (npc := 7) (v := 6) (by decide) dX7_isUnder_5 rfl ?_
    refine aw_icmp_ge (npc := 10) (tgt := 36) dX7_isUnder_7 rfl (by decide) (fun hc => absurd hc (by decide)) (fun _ => ?_)
    refine aw_iload_n (npc := 11) rfl dX7_isUnder_10 rfl ?_
    refine aw_callS (npc := 14) (N := mX7_isKind) (mc := 0) (ms := 0) (A := [.int (-1)]) (S := []) (L0 := [some (.int (-1))]) dX7_isUnder_11 rfl km_X7_isKind kk_X7_67 rfl ⟨rfl, by decide⟩ rfl (Nat.le_of_ble_eq_true rfl) (Nat.zero_add _) (Nat.zero_add _) rfl ?_
    refine c_X7_isKind (fun hw55 => absurd hw55 (fun z => absurd z (by unfold wi; decide))) (fun _ => ?_)
    refine aw_re (S' := [.int 0]) rfl ?_
    refine aw_if_eq (npc := 17) (tgt := 36) dX7_isUnder_14 rfl (by decide) (fun _ => ?_) (fun hc => absurd (by decide) hc)
    refine aw_iconst (npc := 37) (v := 0) (by decide) dX7_isUnder_36 rfl ?_
    refine aw_zret rfl rfl dX7_isUnder_37 ?_
    exact (show (if undr k g then (1 : Int32) else 0) = 0 by rw [ek, eg]; decide) ▸ hq
  · refine aw_locs (L' := [some (.int 3), some (.int 5), none, none]) (by rw [ek, eg]) ?_
    refine aw_iload_n (npc := 1) rfl dX7_isUnder_0 rfl ?_
    refine aw_istore_n (npc := 2) (L' := [some (.int 3), some (.int 5), some (.int 3), none]) dX7_isUnder_1 rfl (by decide) rfl rfl ?_
    refine aw_iconst (npc := 3) (v := 0) (by decide) dX7_isUnder_2 rfl ?_
    refine aw_istore_n (npc := 4) (L' := [some (.int 3), some (.int 5), some (.int 3), some (.int 0)]) dX7_isUnder_3 rfl (by decide) rfl rfl ?_
    refine aw_iload_n (npc := 5) rfl dX7_isUnder_4 rfl ?_
    refine aw_bipush (npc := 7) (v := 6) (by decide) dX7_isUnder_5 rfl ?_
    refine aw_icmp_ge (npc := 10) (tgt := 36) dX7_isUnder_7 rfl (by decide) (fun hc => absurd hc (by decide)) (fun _ => ?_)
    refine aw_iload_n (npc := 11) rfl dX7_isUnder_10 rfl ?_
    refine aw_callS (npc := 14) (N := mX7_isKind) (mc := 0) (ms := 0) (A := [.int 3]) (S := []) (L0 := [some (.int 3)]) dX7_isUnder_11 rfl km_X7_isKind kk_X7_67 rfl ⟨rfl, by decide⟩ rfl (Nat.le_of_ble_eq_true rfl) (Nat.zero_add _) (Nat.zero_add _) rfl ?_
    refine c_X7_isKind (fun _ => ?_) (fun hw56 => absurd ⟨by decide, by decide⟩ hw56)
    refine aw_re (S' := [.int 1]) rfl ?_
    refine aw_if_eq (npc := 17) (tgt := 36) dX7_isUnder_14 rfl (by decide) (fun hc => absurd hc (by decide)) (fun _ => ?_)
    refine aw_iload_n (npc := 18) rfl dX7_isUnder_17 rfl ?_
    refine aw_iload_n (npc := 19) rfl dX7_isUnder_18 rfl ?_
    refine aw_icmp_ne (npc := 22) (tgt := 24) dX7_isUnder_19 rfl (by decide) (fun _ => ?_) (fun hc => absurd hc (by decide))
    refine aw_above (npc := 27) dX7_isUnder_24 rfl ks_X7_322 ?_
    refine aw_iload_n (npc := 28) rfl dX7_isUnder_27 rfl ?_
    refine aw_above_ld (npc := 29) (j := 3) dX7_isUnder_28 rfl ⟨by decide, by decide⟩ rfl ?_
    refine aw_istore_n (npc := 30) (L' := [some (.int 3), some (.int 5), some (.int 1), some (.int 0)]) dX7_isUnder_29 rfl (by decide) rfl rfl ?_
    refine aw_iinc (npc := 33) (v := 1) (L' := [some (.int 3), some (.int 5), some (.int 1), some (.int 1)]) dX7_isUnder_30 rfl rfl (by decide) (by decide) rfl rfl ?_
    refine aw_goto (npc := 4) dX7_isUnder_33 (by decide) ?_
    refine aw_iload_n (npc := 5) rfl dX7_isUnder_4 rfl ?_
    refine aw_bipush (npc := 7) (v := 6) (by decide) dX7_isUnder_5 rfl ?_
    refine aw_icmp_ge (npc := 10) (tgt := 36) dX7_isUnder_7 rfl (by decide) (fun hc => absurd hc (by decide)) (fun _ => ?_)
    refine aw_iload_n (npc := 11) rfl dX7_isUnder_10 rfl ?_
    refine aw_callS (npc := 14) (N := mX7_isKind) (mc := 0) (ms := 0) (A := [.int 1]) (S := []) (L0 := [some (.int 1)]) dX7_isUnder_11 rfl km_X7_isKind kk_X7_67 rfl ⟨rfl, by decide⟩ rfl (Nat.le_of_ble_eq_true rfl) (Nat.zero_add _) (Nat.zero_add _) rfl ?_
    refine c_X7_isKind (fun _ => ?_) (fun hw57 => absurd ⟨by decide, by decide⟩ hw57)
    refine aw_re (S' := [.int 1]) rfl ?_
    refine aw_if_eq (npc := 17) (tgt := 36) dX7_isUnder_14 rfl (by decide) (fun hc => absurd hc (by decide)) (fun _ => ?_)
    refine aw_iload_n (npc := 18) rfl dX7_isUnder_17 rfl ?_
    refine aw_iload_n (npc := 19) rfl dX7_isUnder_18 rfl ?_
    refine aw_icmp_ne (npc := 22) (tgt := 24) dX7_isUnder_19 rfl (by decide) (fun _ => ?_) (fun hc => absurd hc (by decide))
    refine aw_above (npc := 27) dX7_isUnder_24 rfl ks_X7_322 ?_
    refine aw_iload_n (npc := 28) rfl dX7_isUnder_27 rfl ?_
    refine aw_above_ld (npc := 29) (j := 1) dX7_isUnder_28 rfl ⟨by decide, by decide⟩ rfl ?_
    refine aw_istore_n (npc := 30) (L' := [some (.int 3), some (.int 5), some (.int 0), some (.int 1)]) dX7_isUnder_29 rfl (by decide) rfl rfl ?_
    refine aw_iinc (npc := 33) (v := 2) (L' := [some (.int 3), some (.int 5), some (.int 0), some (.int 2)]) dX7_isUnder_30 rfl rfl (by decide) (by decide) rfl rfl ?_
    refine aw_goto (npc := 4) dX7_isUnder_33 (by decide) ?_
    refine aw_iload_n (npc := 5) rfl dX7_isUnder_4 rfl ?_
    refine aw_bipush (npc := 7) (v := 6) (by decide) dX7_isUnder_5 rfl ?_
    refine aw_icmp_ge (npc := 10) (tgt := 36) dX7_isUnder_7 rfl (by decide) (fun hc => absurd hc (by decide)) (fun _ => ?_)
    refine aw_iload_n (npc := 11) rfl dX7_isUnder_10 rfl ?_
    refine aw_callS (npc := 14) (N := mX7_isKind) (mc := 0) (ms := 0) (A := [.int 0]) (S := []) (L0 := [some (.int 0)]) dX7_isUnder_11 rfl km_X7_isKind kk_X7_67 rfl ⟨rfl, by decide⟩ rfl (Nat.le_of_ble_eq_true rfl) (Nat.zero_add _) (Nat.zero_add _) rfl ?_
    refine c_X7_isKind (fun _ => ?_) (fun hw58 => absurd ⟨by decide, by decide⟩ hw58)
    refine aw_re (S' := [.int 1]) rfl ?_
    refine aw_if_eq (npc := 17) (tgt := 36) dX7_isUnder_14 rfl (by decide) (fun hc => absurd hc (by decide)) (fun _ => ?_)
    refine aw_iload_n (npc := 18) rfl dX7_isUnder_17 rfl ?_
    refine aw_iload_n (npc := 19) rfl dX7_isUnder_18 rfl ?_
    refine aw_icmp_ne (npc := 22) (tgt := 24) dX7_isUnder_19 rfl (by decide) (fun _ => ?_) (fun hc => absurd hc (by decide))
    refine aw_above (npc := 27) dX7_isUnder_24 rfl ks_X7_322 ?_
    refine aw_iload_n (npc := 28) rfl dX7_isUnder_27 rfl ?_
    refine aw_above_ld (npc := 29) (j := 0) dX7_isUnder_28 rfl ⟨by decide, by decide⟩ rfl ?_
    refine aw_istore_n (npc := 30) (L' := [some (.int 3), some (.int 5), some (.int (-1)), some (.int 2)]) dX7_isUnder_29 rfl (by decide) rfl rfl ?_
    refine aw_iinc (npc := 33) (v := 3) (L' := [some (.int 3), some (.int 5), some (.int (-1)), some (.int 3)]) dX7_isUnder_30 rfl rfl (by decide) (by decide) rfl rfl ?_
    refine aw_goto (npc := 4) dX7_isUnder_33 (by decide) ?_
    refine aw_iload_n (npc := 5) rfl dX7_isUnder_4 rfl ?_
    refine aw_bipush (npc := 7) (v := 6) (by decide) dX7_isUnder_5 rfl ?_
    refine aw_icmp_ge (npc := 10) (tgt := 36) dX7_isUnder_7 rfl (by decide) (fun hc => absurd hc (by decide)) (fun _ => ?_)
    refine aw_iload_n (npc := 11) rfl dX7_isUnder_10 rfl ?_
    refine aw_callS (npc := 14) (N := mX7_isKind) (mc := 0) (ms := 0) (A := [.int (-1)]) (S := []) (L0 := [some (.int (-1))]) dX7_isUnder_11 rfl km_X7_isKind kk_X7_67 rfl ⟨rfl, by decide⟩ rfl (Nat.le_of_ble_eq_true rfl) (Nat.zero_add _) (Nat.zero_add _) rfl ?_
    refine c_X7_isKind (fun hw59 => absurd hw59 (fun z => absurd z (by unfold wi; decide))) (fun _ => ?_)
    refine aw_re (S' := [.int 0]) rfl ?_
    refine aw_if_eq (npc := 17) (tgt := 36) dX7_isUnder_14 rfl (by decide) (fun _ => ?_) (fun hc => absurd (by decide) hc)
    refine aw_iconst (npc := 37) (v := 0) (by decide) dX7_isUnder_36 rfl ?_
    refine aw_zret rfl rfl dX7_isUnder_37 ?_
    exact (show (if undr k g then (1 : Int32) else 0) = 0 by rw [ek, eg]; decide) ▸ hq
  · refine aw_locs (L' := [some (.int 4), some (.int 0), none, none]) (by rw [ek, eg]) ?_
    refine aw_iload_n (npc := 1) rfl dX7_isUnder_0 rfl ?_
    refine aw_istore_n (npc := 2) (L' := [some (.int 4), some (.int 0), some (.int 4), none]) dX7_isUnder_1 rfl (by decide) rfl rfl ?_
    refine aw_iconst (npc := 3) (v := 0) (by decide) dX7_isUnder_2 rfl ?_
    refine aw_istore_n (npc := 4) (L' := [some (.int 4), some (.int 0), some (.int 4), some (.int 0)]) dX7_isUnder_3 rfl (by decide) rfl rfl ?_
    refine aw_iload_n (npc := 5) rfl dX7_isUnder_4 rfl ?_
    refine aw_bipush (npc := 7) (v := 6) (by decide) dX7_isUnder_5 rfl ?_
    refine aw_icmp_ge (npc := 10) (tgt := 36) dX7_isUnder_7 rfl (by decide) (fun hc => absurd hc (by decide)) (fun _ => ?_)
    refine aw_iload_n (npc := 11) rfl dX7_isUnder_10 rfl ?_
    refine aw_callS (npc := 14) (N := mX7_isKind) (mc := 0) (ms := 0) (A := [.int 4]) (S := []) (L0 := [some (.int 4)]) dX7_isUnder_11 rfl km_X7_isKind kk_X7_67 rfl ⟨rfl, by decide⟩ rfl (Nat.le_of_ble_eq_true rfl) (Nat.zero_add _) (Nat.zero_add _) rfl ?_
    refine c_X7_isKind (fun _ => ?_) (fun hw60 => absurd ⟨by decide, by decide⟩ hw60)
    refine aw_re (S' := [.int 1]) rfl ?_
    refine aw_if_eq (npc := 17) (tgt := 36) dX7_isUnder_14 rfl (by decide) (fun hc => absurd hc (by decide)) (fun _ => ?_)
    refine aw_iload_n (npc := 18) rfl dX7_isUnder_17 rfl ?_
    refine aw_iload_n (npc := 19) rfl dX7_isUnder_18 rfl ?_
    refine aw_icmp_ne (npc := 22) (tgt := 24) dX7_isUnder_19 rfl (by decide) (fun _ => ?_) (fun hc => absurd hc (by decide))
    refine aw_above (npc := 27) dX7_isUnder_24 rfl ks_X7_322 ?_
    refine aw_iload_n (npc := 28) rfl dX7_isUnder_27 rfl ?_
    refine aw_above_ld (npc := 29) (j := 4) dX7_isUnder_28 rfl ⟨by decide, by decide⟩ rfl ?_
    refine aw_istore_n (npc := 30) (L' := [some (.int 4), some (.int 0), some (.int 2), some (.int 0)]) dX7_isUnder_29 rfl (by decide) rfl rfl ?_
    refine aw_iinc (npc := 33) (v := 1) (L' := [some (.int 4), some (.int 0), some (.int 2), some (.int 1)]) dX7_isUnder_30 rfl rfl (by decide) (by decide) rfl rfl ?_
    refine aw_goto (npc := 4) dX7_isUnder_33 (by decide) ?_
    refine aw_iload_n (npc := 5) rfl dX7_isUnder_4 rfl ?_
    refine aw_bipush (npc := 7) (v := 6) (by decide) dX7_isUnder_5 rfl ?_
    refine aw_icmp_ge (npc := 10) (tgt := 36) dX7_isUnder_7 rfl (by decide) (fun hc => absurd hc (by decide)) (fun _ => ?_)
    refine aw_iload_n (npc := 11) rfl dX7_isUnder_10 rfl ?_
    refine aw_callS (npc := 14) (N := mX7_isKind) (mc := 0) (ms := 0) (A := [.int 2]) (S := []) (L0 := [some (.int 2)]) dX7_isUnder_11 rfl km_X7_isKind kk_X7_67 rfl ⟨rfl, by decide⟩ rfl (Nat.le_of_ble_eq_true rfl) (Nat.zero_add _) (Nat.zero_add _) rfl ?_
    refine c_X7_isKind (fun _ => ?_) (fun hw61 => absurd ⟨by decide, by decide⟩ hw61)
    refine aw_re (S' := [.int 1]) rfl ?_
    refine aw_if_eq (npc := 17) (tgt := 36) dX7_isUnder_14 rfl (by decide) (fun hc => absurd hc (by decide)) (fun _ => ?_)
    refine aw_iload_n (npc := 18) rfl dX7_isUnder_17 rfl ?_
    refine aw_iload_n (npc := 19) rfl dX7_isUnder_18 rfl ?_
    refine aw_icmp_ne (npc := 22) (tgt := 24) dX7_isUnder_19 rfl (by decide) (fun _ => ?_) (fun hc => absurd hc (by decide))
    refine aw_above (npc := 27) dX7_isUnder_24 rfl ks_X7_322 ?_
    refine aw_iload_n (npc := 28) rfl dX7_isUnder_27 rfl ?_
    refine aw_above_ld (npc := 29) (j := 2) dX7_isUnder_28 rfl ⟨by decide, by decide⟩ rfl ?_
    refine aw_istore_n (npc := 30) (L' := [some (.int 4), some (.int 0), some (.int 0), some (.int 1)]) dX7_isUnder_29 rfl (by decide) rfl rfl ?_
    refine aw_iinc (npc := 33) (v := 2) (L' := [some (.int 4), some (.int 0), some (.int 0), some (.int 2)]) dX7_isUnder_30 rfl rfl (by decide) (by decide) rfl rfl ?_
    refine aw_goto (npc := 4) dX7_isUnder_33 (by decide) ?_
    refine aw_iload_n (npc := 5) rfl dX7_isUnder_4 rfl ?_
    refine aw_bipush (npc := 7) (v := 6) (by decide) dX7_isUnder_5 rfl ?_
    refine aw_icmp_ge (npc := 10) (tgt := 36) dX7_isUnder_7 rfl (by decide) (fun hc => absurd hc (by decide)) (fun _ => ?_)
    refine aw_iload_n (npc := 11) rfl dX7_isUnder_10 rfl ?_
    refine aw_callS (npc := 14) (N := mX7_isKind) (mc := 0) (ms := 0) (A := [.int 0]) (S := []) (L0 := [some (.int 0)]) dX7_isUnder_11 rfl km_X7_isKind kk_X7_67 rfl ⟨rfl, by decide⟩ rfl (Nat.le_of_ble_eq_true rfl) (Nat.zero_add _) (Nat.zero_add _) rfl ?_
    refine c_X7_isKind (fun _ => ?_) (fun hw62 => absurd ⟨by decide, by decide⟩ hw62)
    refine aw_re (S' := [.int 1]) rfl ?_
    refine aw_if_eq (npc := 17) (tgt := 36) dX7_isUnder_14 rfl (by decide) (fun hc => absurd hc (by decide)) (fun _ => ?_)
    refine aw_iload_n (npc := 18) rfl dX7_isUnder_17 rfl ?_
    refine aw_iload_n (npc := 19) rfl dX7_isUnder_18 rfl ?_
    refine aw_icmp_ne (npc := 22) (tgt := 24) dX7_isUnder_19 rfl (by decide) (fun hc => absurd (by decide) hc) (fun _ => ?_)
    refine aw_iconst (npc := 23) (v := 1) (by decide) dX7_isUnder_22 rfl ?_
    refine aw_zret rfl rfl dX7_isUnder_23 ?_
    exact (show (if undr k g then (1 : Int32) else 0) = 1 by rw [ek, eg]; decide) ▸ hq
  · refine aw_locs (L' := [some (.int 4), some (.int 1), none, none]) (by rw [ek, eg]) ?_
    refine aw_iload_n (npc := 1) rfl dX7_isUnder_0 rfl ?_
    refine aw_istore_n (npc := 2) (L' := [some (.int 4), some (.int 1), some (.int 4), none]) dX7_isUnder_1 rfl (by decide) rfl rfl ?_
    refine aw_iconst (npc := 3) (v := 0) (by decide) dX7_isUnder_2 rfl ?_
    refine aw_istore_n (npc := 4) (L' := [some (.int 4), some (.int 1), some (.int 4), some (.int 0)]) dX7_isUnder_3 rfl (by decide) rfl rfl ?_
    refine aw_iload_n (npc := 5) rfl dX7_isUnder_4 rfl ?_
    refine aw_bipush (npc := 7) (v := 6) (by decide) dX7_isUnder_5 rfl ?_
    refine aw_icmp_ge (npc := 10) (tgt := 36) dX7_isUnder_7 rfl (by decide) (fun hc => absurd hc (by decide)) (fun _ => ?_)
    refine aw_iload_n (npc := 11) rfl dX7_isUnder_10 rfl ?_
    refine aw_callS (npc := 14) (N := mX7_isKind) (mc := 0) (ms := 0) (A := [.int 4]) (S := []) (L0 := [some (.int 4)]) dX7_isUnder_11 rfl km_X7_isKind kk_X7_67 rfl ⟨rfl, by decide⟩ rfl (Nat.le_of_ble_eq_true rfl) (Nat.zero_add _) (Nat.zero_add _) rfl ?_
    refine c_X7_isKind (fun _ => ?_) (fun hw63 => absurd ⟨by decide, by decide⟩ hw63)
    refine aw_re (S' := [.int 1]) rfl ?_
    refine aw_if_eq (npc := 17) (tgt := 36) dX7_isUnder_14 rfl (by decide) (fun hc => absurd hc (by decide)) (fun _ => ?_)
    refine aw_iload_n (npc := 18) rfl dX7_isUnder_17 rfl ?_
    refine aw_iload_n (npc := 19) rfl dX7_isUnder_18 rfl ?_
    refine aw_icmp_ne (npc := 22) (tgt := 24) dX7_isUnder_19 rfl (by decide) (fun _ => ?_) (fun hc => absurd hc (by decide))
    refine aw_above (npc := 27) dX7_isUnder_24 rfl ks_X7_322 ?_
    refine aw_iload_n (npc := 28) rfl dX7_isUnder_27 rfl ?_
    refine aw_above_ld (npc := 29) (j := 4) dX7_isUnder_28 rfl ⟨by decide, by decide⟩ rfl ?_
    refine aw_istore_n (npc := 30) (L' := [some (.int 4), some (.int 1), some (.int 2), some (.int 0)]) dX7_isUnder_29 rfl (by decide) rfl rfl ?_
    refine aw_iinc (npc := 33) (v := 1) (L' := [some (.int 4), some (.int 1), some (.int 2), some (.int 1)]) dX7_isUnder_30 rfl rfl (by decide) (by decide) rfl rfl ?_
    refine aw_goto (npc := 4) dX7_isUnder_33 (by decide) ?_
    refine aw_iload_n (npc := 5) rfl dX7_isUnder_4 rfl ?_
    refine aw_bipush (npc := 7) (v := 6) (by decide) dX7_isUnder_5 rfl ?_
    refine aw_icmp_ge (npc := 10) (tgt := 36) dX7_isUnder_7 rfl (by decide) (fun hc => absurd hc (by decide)) (fun _ => ?_)
    refine aw_iload_n (npc := 11) rfl dX7_isUnder_10 rfl ?_
    refine aw_callS (npc := 14) (N := mX7_isKind) (mc := 0) (ms := 0) (A := [.int 2]) (S := []) (L0 := [some (.int 2)]) dX7_isUnder_11 rfl km_X7_isKind kk_X7_67 rfl ⟨rfl, by decide⟩ rfl (Nat.le_of_ble_eq_true rfl) (Nat.zero_add _) (Nat.zero_add _) rfl ?_
    refine c_X7_isKind (fun _ => ?_) (fun hw64 => absurd ⟨by decide, by decide⟩ hw64)
    refine aw_re (S' := [.int 1]) rfl ?_
    refine aw_if_eq (npc := 17) (tgt := 36) dX7_isUnder_14 rfl (by decide) (fun hc => absurd hc (by decide)) (fun _ => ?_)
    refine aw_iload_n (npc := 18) rfl dX7_isUnder_17 rfl ?_
    refine aw_iload_n (npc := 19) rfl dX7_isUnder_18 rfl ?_
    refine aw_icmp_ne (npc := 22) (tgt := 24) dX7_isUnder_19 rfl (by decide) (fun _ => ?_) (fun hc => absurd hc (by decide))
    refine aw_above (npc := 27) dX7_isUnder_24 rfl ks_X7_322 ?_
    refine aw_iload_n (npc := 28) rfl dX7_isUnder_27 rfl ?_
    refine aw_above_ld (npc := 29) (j := 2) dX7_isUnder_28 rfl ⟨by decide, by decide⟩ rfl ?_
    refine aw_istore_n (npc := 30) (L' := [some (.int 4), some (.int 1), some (.int 0), some (.int 1)]) dX7_isUnder_29 rfl (by decide) rfl rfl ?_
    refine aw_iinc (npc := 33) (v := 2) (L' := [some (.int 4), some (.int 1), some (.int 0), some (.int 2)]) dX7_isUnder_30 rfl rfl (by decide) (by decide) rfl rfl ?_
    refine aw_goto (npc := 4) dX7_isUnder_33 (by decide) ?_
    refine aw_iload_n (npc := 5) rfl dX7_isUnder_4 rfl ?_
    refine aw_bipush (npc := 7) (v := 6) (by decide) dX7_isUnder_5 rfl ?_
    refine aw_icmp_ge (npc := 10) (tgt := 36) dX7_isUnder_7 rfl (by decide) (fun hc => absurd hc (by decide)) (fun _ => ?_)
    refine aw_iload_n (npc := 11) rfl dX7_isUnder_10 rfl ?_
    refine aw_callS (npc := 14) (N := mX7_isKind) (mc := 0) (ms := 0) (A := [.int 0]) (S := []) (L0 := [some (.int 0)]) dX7_isUnder_11 rfl km_X7_isKind kk_X7_67 rfl ⟨rfl, by decide⟩ rfl (Nat.le_of_ble_eq_true rfl) (Nat.zero_add _) (Nat.zero_add _) rfl ?_
    refine c_X7_isKind (fun _ => ?_) (fun hw65 => absurd ⟨by decide, by decide⟩ hw65)
    refine aw_re (S' := [.int 1]) rfl ?_
    refine aw_if_eq (npc := 17) (tgt := 36) dX7_isUnder_14 rfl (by decide) (fun hc => absurd hc (by decide)) (fun _ => ?_)
    refine aw_iload_n (npc := 18) rfl dX7_isUnder_17 rfl ?_
    refine aw_iload_n (npc := 19) rfl dX7_isUnder_18 rfl ?_
    refine aw_icmp_ne (npc := 22) (tgt := 24) dX7_isUnder_19 rfl (by decide) (fun _ => ?_) (fun hc => absurd hc (by decide))
    refine aw_above (npc := 27) dX7_isUnder_24 rfl ks_X7_322 ?_
    refine aw_iload_n (npc := 28) rfl dX7_isUnder_27 rfl ?_
    refine aw_above_ld (npc := 29) (j := 0) dX7_isUnder_28 rfl ⟨by decide, by decide⟩ rfl ?_
    refine aw_istore_n (npc := 30) (L' := [some (.int 4), some (.int 1), some (.int (-1)), some (.int 2)]) dX7_isUnder_29 rfl (by decide) rfl rfl ?_
    refine aw_iinc (npc := 33) (v := 3) (L' := [some (.int 4), some (.int 1), some (.int (-1)), some (.int 3)]) dX7_isUnder_30 rfl rfl (by decide) (by decide) rfl rfl ?_
    refine aw_goto (npc := 4) dX7_isUnder_33 (by decide) ?_
    refine aw_iload_n (npc := 5) rfl dX7_isUnder_4 rfl ?_
    refine aw_bipush (npc := 7) (v := 6) (by decide) dX7_isUnder_5 rfl ?_
    refine aw_icmp_ge (npc := 10) (tgt := 36) dX7_isUnder_7 rfl (by decide) (fun hc => absurd hc (by decide)) (fun _ => ?_)
    refine aw_iload_n (npc := 11) rfl dX7_isUnder_10 rfl ?_
    refine aw_callS (npc := 14) (N := mX7_isKind) (mc := 0) (ms := 0) (A := [.int (-1)]) (S := []) (L0 := [some (.int (-1))]) dX7_isUnder_11 rfl km_X7_isKind kk_X7_67 rfl ⟨rfl, by decide⟩ rfl (Nat.le_of_ble_eq_true rfl) (Nat.zero_add _) (Nat.zero_add _) rfl ?_
    refine c_X7_isKind (fun hw66 => absurd hw66 (fun z => absurd z (by unfold wi; decide))) (fun _ => ?_)
    refine aw_re (S' := [.int 0]) rfl ?_
    refine aw_if_eq (npc := 17) (tgt := 36) dX7_isUnder_14 rfl (by decide) (fun _ => ?_) (fun hc => absurd (by decide) hc)
    refine aw_iconst (npc := 37) (v := 0) (by decide) dX7_isUnder_36 rfl ?_
    refine aw_zret rfl rfl dX7_isUnder_37 ?_
    exact (show (if undr k g then (1 : Int32) else 0) = 0 by rw [ek, eg]; decide) ▸ hq
  · refine aw_locs (L' := [some (.int 4), some (.int 2), none, none]) (by rw [ek, eg]) ?_
    refine aw_iload_n (npc := 1) rfl dX7_isUnder_0 rfl ?_
    refine aw_istore_n (npc := 2) (L' := [some (.int 4), some (.int 2), some (.int 4), none]) dX7_isUnder_1 rfl (by decide) rfl rfl ?_
    refine aw_iconst (npc := 3) (v := 0) (by decide) dX7_isUnder_2 rfl ?_
    refine aw_istore_n (npc := 4) (L' := [some (.int 4), some (.int 2), some (.int 4), some (.int 0)]) dX7_isUnder_3 rfl (by decide) rfl rfl ?_
    refine aw_iload_n (npc := 5) rfl dX7_isUnder_4 rfl ?_
    refine aw_bipush (npc := 7) (v := 6) (by decide) dX7_isUnder_5 rfl ?_
    refine aw_icmp_ge (npc := 10) (tgt := 36) dX7_isUnder_7 rfl (by decide) (fun hc => absurd hc (by decide)) (fun _ => ?_)
    refine aw_iload_n (npc := 11) rfl dX7_isUnder_10 rfl ?_
    refine aw_callS (npc := 14) (N := mX7_isKind) (mc := 0) (ms := 0) (A := [.int 4]) (S := []) (L0 := [some (.int 4)]) dX7_isUnder_11 rfl km_X7_isKind kk_X7_67 rfl ⟨rfl, by decide⟩ rfl (Nat.le_of_ble_eq_true rfl) (Nat.zero_add _) (Nat.zero_add _) rfl ?_
    refine c_X7_isKind (fun _ => ?_) (fun hw67 => absurd ⟨by decide, by decide⟩ hw67)
    refine aw_re (S' := [.int 1]) rfl ?_
    refine aw_if_eq (npc := 17) (tgt := 36) dX7_isUnder_14 rfl (by decide) (fun hc => absurd hc (by decide)) (fun _ => ?_)
    refine aw_iload_n (npc := 18) rfl dX7_isUnder_17 rfl ?_
    refine aw_iload_n (npc := 19) rfl dX7_isUnder_18 rfl ?_
    refine aw_icmp_ne (npc := 22) (tgt := 24) dX7_isUnder_19 rfl (by decide) (fun _ => ?_) (fun hc => absurd hc (by decide))
    refine aw_above (npc := 27) dX7_isUnder_24 rfl ks_X7_322 ?_
    refine aw_iload_n (npc := 28) rfl dX7_isUnder_27 rfl ?_
    refine aw_above_ld (npc := 29) (j := 4) dX7_isUnder_28 rfl ⟨by decide, by decide⟩ rfl ?_
    refine aw_istore_n (npc := 30) (L' := [some (.int 4), some (.int 2), some (.int 2), some (.int 0)]) dX7_isUnder_29 rfl (by decide) rfl rfl ?_
    refine aw_iinc (npc := 33) (v := 1) (L' := [some (.int 4), some (.int 2), some (.int 2), some (.int 1)]) dX7_isUnder_30 rfl rfl (by decide) (by decide) rfl rfl ?_
    refine aw_goto (npc := 4) dX7_isUnder_33 (by decide) ?_
    refine aw_iload_n (npc := 5) rfl dX7_isUnder_4 rfl ?_
    refine aw_bipush (npc := 7) (v := 6) (by decide) dX7_isUnder_5 rfl ?_
    refine aw_icmp_ge (npc := 10) (tgt := 36) dX7_isUnder_7 rfl (by decide) (fun hc => absurd hc (by decide)) (fun _ => ?_)
    refine aw_iload_n (npc := 11) rfl dX7_isUnder_10 rfl ?_
    refine aw_callS (npc := 14) (N := mX7_isKind) (mc := 0) (ms := 0) (A := [.int 2]) (S := []) (L0 := [some (.int 2)]) dX7_isUnder_11 rfl km_X7_isKind kk_X7_67 rfl ⟨rfl, by decide⟩ rfl (Nat.le_of_ble_eq_true rfl) (Nat.zero_add _) (Nat.zero_add _) rfl ?_
    refine c_X7_isKind (fun _ => ?_) (fun hw68 => absurd ⟨by decide, by decide⟩ hw68)
    refine aw_re (S' := [.int 1]) rfl ?_
    refine aw_if_eq (npc := 17) (tgt := 36) dX7_isUnder_14 rfl (by decide) (fun hc => absurd hc (by decide)) (fun _ => ?_)
    refine aw_iload_n (npc := 18) rfl dX7_isUnder_17 rfl ?_
    refine aw_iload_n (npc := 19) rfl dX7_isUnder_18 rfl ?_
    refine aw_icmp_ne (npc := 22) (tgt := 24) dX7_isUnder_19 rfl (by decide) (fun hc => absurd (by decide) hc) (fun _ => ?_)
    refine aw_iconst (npc := 23) (v := 1) (by decide) dX7_isUnder_22 rfl ?_
    refine aw_zret rfl rfl dX7_isUnder_23 ?_
    exact (show (if undr k g then (1 : Int32) else 0) = 1 by rw [ek, eg]; decide) ▸ hq
  · refine aw_locs (L' := [some (.int 4), some (.int 3), none, none]) (by rw [ek, eg]) ?_
    refine aw_iload_n (npc := 1) rfl dX7_isUnder_0 rfl ?_
    refine aw_istore_n (npc := 2) (L' := [some (.int 4), some (.int 3), some (.int 4), none]) dX7_isUnder_1 rfl (by decide) rfl rfl ?_
    refine aw_iconst (npc := 3) (v := 0) (by decide) dX7_isUnder_2 rfl ?_
    refine aw_istore_n (npc := 4) (L' := [some (.int 4), some (.int 3), some (.int 4), some (.int 0)]) dX7_isUnder_3 rfl (by decide) rfl rfl ?_
    refine aw_iload_n (npc := 5) rfl dX7_isUnder_4 rfl ?_
    refine aw_bipush (npc := 7) (v := 6) (by decide) dX7_isUnder_5 rfl ?_
    refine aw_icmp_ge (npc := 10) (tgt := 36) dX7_isUnder_7 rfl (by decide) (fun hc => absurd hc (by decide)) (fun _ => ?_)
    refine aw_iload_n (npc := 11) rfl dX7_isUnder_10 rfl ?_
    refine aw_callS (npc := 14) (N := mX7_isKind) (mc := 0) (ms := 0) (A := [.int 4]) (S := []) (L0 := [some (.int 4)]) dX7_isUnder_11 rfl km_X7_isKind kk_X7_67 rfl ⟨rfl, by decide⟩ rfl (Nat.le_of_ble_eq_true rfl) (Nat.zero_add _) (Nat.zero_add _) rfl ?_
    refine c_X7_isKind (fun _ => ?_) (fun hw69 => absurd ⟨by decide, by decide⟩ hw69)
    refine aw_re (S' := [.int 1]) rfl ?_
    refine aw_if_eq (npc := 17) (tgt := 36) dX7_isUnder_14 rfl (by decide) (fun hc => absurd hc (by decide)) (fun _ => ?_)
    refine aw_iload_n (npc := 18) rfl dX7_isUnder_17 rfl ?_
    refine aw_iload_n (npc := 19) rfl dX7_isUnder_18 rfl ?_
    refine aw_icmp_ne (npc := 22) (tgt := 24) dX7_isUnder_19 rfl (by decide) (fun _ => ?_) (fun hc => absurd hc (by decide))
    refine aw_above (npc := 27) dX7_isUnder_24 rfl ks_X7_322 ?_
    refine aw_iload_n (npc := 28) rfl dX7_isUnder_27 rfl ?_
    refine aw_above_ld (npc := 29) (j := 4) dX7_isUnder_28 rfl ⟨by decide, by decide⟩ rfl ?_
    refine aw_istore_n (npc := 30) (L' := [some (.int 4), some (.int 3), some (.int 2), some (.int 0)]) dX7_isUnder_29 rfl (by decide) rfl rfl ?_
    refine aw_iinc (npc := 33) (v := 1) (L' := [some (.int 4), some (.int 3), some (.int 2), some (.int 1)]) dX7_isUnder_30 rfl rfl (by decide) (by decide) rfl rfl ?_
    refine aw_goto (npc := 4) dX7_isUnder_33 (by decide) ?_
    refine aw_iload_n (npc := 5) rfl dX7_isUnder_4 rfl ?_
    refine aw_bipush (npc := 7) (v := 6) (by decide) dX7_isUnder_5 rfl ?_
    refine aw_icmp_ge (npc := 10) (tgt := 36) dX7_isUnder_7 rfl (by decide) (fun hc => absurd hc (by decide)) (fun _ => ?_)
    refine aw_iload_n (npc := 11) rfl dX7_isUnder_10 rfl ?_
    refine aw_callS (npc := 14) (N := mX7_isKind) (mc := 0) (ms := 0) (A := [.int 2]) (S := []) (L0 := [some (.int 2)]) dX7_isUnder_11 rfl km_X7_isKind kk_X7_67 rfl ⟨rfl, by decide⟩ rfl (Nat.le_of_ble_eq_true rfl) (Nat.zero_add _) (Nat.zero_add _) rfl ?_
    refine c_X7_isKind (fun _ => ?_) (fun hw70 => absurd ⟨by decide, by decide⟩ hw70)
    refine aw_re (S' := [.int 1]) rfl ?_
    refine aw_if_eq (npc := 17) (tgt := 36) dX7_isUnder_14 rfl (by decide) (fun hc => absurd hc (by decide)) (fun _ => ?_)
    refine aw_iload_n (npc := 18) rfl dX7_isUnder_17 rfl ?_
    refine aw_iload_n (npc := 19) rfl dX7_isUnder_18 rfl ?_
    refine aw_icmp_ne (npc := 22) (tgt := 24) dX7_isUnder_19 rfl (by decide) (fun _ => ?_) (fun hc => absurd hc (by decide))
    refine aw_above (npc := 27) dX7_isUnder_24 rfl ks_X7_322 ?_
    refine aw_iload_n (npc := 28) rfl dX7_isUnder_27 rfl ?_
    refine aw_above_ld (npc := 29) (j := 2) dX7_isUnder_28 rfl ⟨by decide, by decide⟩ rfl ?_
    refine aw_istore_n (npc := 30) (L' := [some (.int 4), some (.int 3), some (.int 0), some (.int 1)]) dX7_isUnder_29 rfl (by decide) rfl rfl ?_
    refine aw_iinc (npc := 33) (v := 2) (L' := [some (.int 4), some (.int 3), some (.int 0), some (.int 2)]) dX7_isUnder_30 rfl rfl (by decide) (by decide) rfl rfl ?_
    refine aw_goto (npc := 4) dX7_isUnder_33 (by decide) ?_
    refine aw_iload_n (npc := 5) rfl dX7_isUnder_4 rfl ?_
    refine aw_bipush (npc := 7) (v := 6) (by decide) dX7_isUnder_5 rfl ?_
    refine aw_icmp_ge (npc := 10) (tgt := 36) dX7_isUnder_7 rfl (by decide) (fun hc => absurd hc (by decide)) (fun _ => ?_)
    refine aw_iload_n (npc := 11) rfl dX7_isUnder_10 rfl ?_
    refine aw_callS (npc := 14) (N := mX7_isKind) (mc := 0) (ms := 0) (A := [.int 0]) (S := []) (L0 := [some (.int 0)]) dX7_isUnder_11 rfl km_X7_isKind kk_X7_67 rfl ⟨rfl, by decide⟩ rfl (Nat.le_of_ble_eq_true rfl) (Nat.zero_add _) (Nat.zero_add _) rfl ?_
    refine c_X7_isKind (fun _ => ?_) (fun hw71 => absurd ⟨by decide, by decide⟩ hw71)
    refine aw_re (S' := [.int 1]) rfl ?_
    refine aw_if_eq (npc := 17) (tgt := 36) dX7_isUnder_14 rfl (by decide) (fun hc => absurd hc (by decide)) (fun _ => ?_)
    refine aw_iload_n (npc := 18) rfl dX7_isUnder_17 rfl ?_
    refine aw_iload_n (npc := 19) rfl dX7_isUnder_18 rfl ?_
    refine aw_icmp_ne (npc := 22) (tgt := 24) dX7_isUnder_19 rfl (by decide) (fun _ => ?_) (fun hc => absurd hc (by decide))
    refine aw_above (npc := 27) dX7_isUnder_24 rfl ks_X7_322 ?_
    refine aw_iload_n (npc := 28) rfl dX7_isUnder_27 rfl ?_
    refine aw_above_ld (npc := 29) (j := 0) dX7_isUnder_28 rfl ⟨by decide, by decide⟩ rfl ?_
    refine aw_istore_n (npc := 30) (L' := [some (.int 4), some (.int 3), some (.int (-1)), some (.int 2)]) dX7_isUnder_29 rfl (by decide) rfl rfl ?_
    refine aw_iinc (npc := 33) (v := 3) (L' := [some (.int 4), some (.int 3), some (.int (-1)), some (.int 3)]) dX7_isUnder_30 rfl rfl (by decide) (by decide) rfl rfl ?_
    refine aw_goto (npc := 4) dX7_isUnder_33 (by decide) ?_
    refine aw_iload_n (npc := 5) rfl dX7_isUnder_4 rfl ?_
    refine aw_bipush (npc := 7) (v := 6) (by decide) dX7_isUnder_5 rfl ?_
    refine aw_icmp_ge (npc := 10) (tgt := 36) dX7_isUnder_7 rfl (by decide) (fun hc => absurd hc (by decide)) (fun _ => ?_)
    refine aw_iload_n (npc := 11) rfl dX7_isUnder_10 rfl ?_
    refine aw_callS (npc := 14) (N := mX7_isKind) (mc := 0) (ms := 0) (A := [.int (-1)]) (S := []) (L0 := [some (.int (-1))]) dX7_isUnder_11 rfl km_X7_isKind kk_X7_67 rfl ⟨rfl, by decide⟩ rfl (Nat.le_of_ble_eq_true rfl) (Nat.zero_add _) (Nat.zero_add _) rfl ?_
    refine c_X7_isKind (fun hw72 => absurd hw72 (fun z => absurd z (by unfold wi; decide))) (fun _ => ?_)
    refine aw_re (S' := [.int 0]) rfl ?_
    refine aw_if_eq (npc := 17) (tgt := 36) dX7_isUnder_14 rfl (by decide) (fun _ => ?_) (fun hc => absurd (by decide) hc)
    refine aw_iconst (npc := 37) (v := 0) (by decide) dX7_isUnder_36 rfl ?_
    refine aw_zret rfl rfl dX7_isUnder_37 ?_
    exact (show (if undr k g then (1 : Int32) else 0) = 0 by rw [ek, eg]; decide) ▸ hq
  · refine aw_locs (L' := [some (.int 4), some (.int 4), none, none]) (by rw [ek, eg]) ?_
    refine aw_iload_n (npc := 1) rfl dX7_isUnder_0 rfl ?_
    refine aw_istore_n (npc := 2) (L' := [some (.int 4), some (.int 4), some (.int 4), none]) dX7_isUnder_1 rfl (by decide) rfl rfl ?_
    refine aw_iconst (npc := 3) (v := 0) (by decide) dX7_isUnder_2 rfl ?_
    refine aw_istore_n (npc := 4) (L' := [some (.int 4), some (.int 4), some (.int 4), some (.int 0)]) dX7_isUnder_3 rfl (by decide) rfl rfl ?_
    refine aw_iload_n (npc := 5) rfl dX7_isUnder_4 rfl ?_
    refine aw_bipush (npc := 7) (v := 6) (by decide) dX7_isUnder_5 rfl ?_
    refine aw_icmp_ge (npc := 10) (tgt := 36) dX7_isUnder_7 rfl (by decide) (fun hc => absurd hc (by decide)) (fun _ => ?_)
    refine aw_iload_n (npc := 11) rfl dX7_isUnder_10 rfl ?_
    refine aw_callS (npc := 14) (N := mX7_isKind) (mc := 0) (ms := 0) (A := [.int 4]) (S := []) (L0 := [some (.int 4)]) dX7_isUnder_11 rfl km_X7_isKind kk_X7_67 rfl ⟨rfl, by decide⟩ rfl (Nat.le_of_ble_eq_true rfl) (Nat.zero_add _) (Nat.zero_add _) rfl ?_
    refine c_X7_isKind (fun _ => ?_) (fun hw73 => absurd ⟨by decide, by decide⟩ hw73)
    refine aw_re (S' := [.int 1]) rfl ?_
    refine aw_if_eq (npc := 17) (tgt := 36) dX7_isUnder_14 rfl (by decide) (fun hc => absurd hc (by decide)) (fun _ => ?_)
    refine aw_iload_n (npc := 18) rfl dX7_isUnder_17 rfl ?_
    refine aw_iload_n (npc := 19) rfl dX7_isUnder_18 rfl ?_
    refine aw_icmp_ne (npc := 22) (tgt := 24) dX7_isUnder_19 rfl (by decide) (fun hc => absurd (by decide) hc) (fun _ => ?_)
    refine aw_iconst (npc := 23) (v := 1) (by decide) dX7_isUnder_22 rfl ?_
    refine aw_zret rfl rfl dX7_isUnder_23 ?_
    exact (show (if undr k g then (1 : Int32) else 0) = 1 by rw [ek, eg]; decide) ▸ hq
  · refine aw_locs (L' := [some (.int 4), some (.int 5), none, none]) (by rw [ek, eg]) ?_
    refine aw_iload_n (npc := 1) rfl dX7_isUnder_0 rfl ?_
    refine aw_istore_n (npc := 2) (L' := [some (.int 4), some (.int 5), some (.int 4), none]) dX7_isUnder_1 rfl (by decide) rfl rfl ?_
    refine aw_iconst (npc := 3) (v := 0) (by decide) dX7_isUnder_2 rfl ?_
    refine aw_istore_n (npc := 4) (L' := [some (.int 4), some (.int 5), some (.int 4), some (.int 0)]) dX7_isUnder_3 rfl (by decide) rfl rfl ?_
    refine aw_iload_n (npc := 5) rfl dX7_isUnder_4 rfl ?_
    refine aw_bipush (npc := 7) (v := 6) (by decide) dX7_isUnder_5 rfl ?_
    refine aw_icmp_ge (npc := 10) (tgt := 36) dX7_isUnder_7 rfl (by decide) (fun hc => absurd hc (by decide)) (fun _ => ?_)
    refine aw_iload_n (npc := 11) rfl dX7_isUnder_10 rfl ?_
    refine aw_callS (npc := 14) (N := mX7_isKind) (mc := 0) (ms := 0) (A := [.int 4]) (S := []) (L0 := [some (.int 4)]) dX7_isUnder_11 rfl km_X7_isKind kk_X7_67 rfl ⟨rfl, by decide⟩ rfl (Nat.le_of_ble_eq_true rfl) (Nat.zero_add _) (Nat.zero_add _) rfl ?_
    refine c_X7_isKind (fun _ => ?_) (fun hw74 => absurd ⟨by decide, by decide⟩ hw74)
    refine aw_re (S' := [.int 1]) rfl ?_
    refine aw_if_eq (npc := 17) (tgt := 36) dX7_isUnder_14 rfl (by decide) (fun hc => absurd hc (by decide)) (fun _ => ?_)
    refine aw_iload_n (npc := 18) rfl dX7_isUnder_17 rfl ?_
    refine aw_iload_n (npc := 19) rfl dX7_isUnder_18 rfl ?_
    refine aw_icmp_ne (npc := 22) (tgt := 24) dX7_isUnder_19 rfl (by decide) (fun _ => ?_) (fun hc => absurd hc (by decide))
    refine aw_above (npc := 27) dX7_isUnder_24 rfl ks_X7_322 ?_
    refine aw_iload_n (npc := 28) rfl dX7_isUnder_27 rfl ?_
    refine aw_above_ld (npc := 29) (j := 4) dX7_isUnder_28 rfl ⟨by decide, by decide⟩ rfl ?_
    refine aw_istore_n (npc := 30) (L' := [some (.int 4), some (.int 5), some (.int 2), some (.int 0)]) dX7_isUnder_29 rfl (by decide) rfl rfl ?_
    refine aw_iinc (npc := 33) (v := 1) (L' := [some (.int 4), some (.int 5), some (.int 2), some (.int 1)]) dX7_isUnder_30 rfl rfl (by decide) (by decide) rfl rfl ?_
    refine aw_goto (npc := 4) dX7_isUnder_33 (by decide) ?_
    refine aw_iload_n (npc := 5) rfl dX7_isUnder_4 rfl ?_
    refine aw_bipush (npc := 7) (v := 6) (by decide) dX7_isUnder_5 rfl ?_
    refine aw_icmp_ge (npc := 10) (tgt := 36) dX7_isUnder_7 rfl (by decide) (fun hc => absurd hc (by decide)) (fun _ => ?_)
    refine aw_iload_n (npc := 11) rfl dX7_isUnder_10 rfl ?_
    refine aw_callS (npc := 14) (N := mX7_isKind) (mc := 0) (ms := 0) (A := [.int 2]) (S := []) (L0 := [some (.int 2)]) dX7_isUnder_11 rfl km_X7_isKind kk_X7_67 rfl ⟨rfl, by decide⟩ rfl (Nat.le_of_ble_eq_true rfl) (Nat.zero_add _) (Nat.zero_add _) rfl ?_
    refine c_X7_isKind (fun _ => ?_) (fun hw75 => absurd ⟨by decide, by decide⟩ hw75)
    refine aw_re (S' := [.int 1]) rfl ?_
    refine aw_if_eq (npc := 17) (tgt := 36) dX7_isUnder_14 rfl (by decide) (fun hc => absurd hc (by decide)) (fun _ => ?_)
    refine aw_iload_n (npc := 18) rfl dX7_isUnder_17 rfl ?_
    refine aw_iload_n (npc := 19) rfl dX7_isUnder_18 rfl ?_
    refine aw_icmp_ne (npc := 22) (tgt := 24) dX7_isUnder_19 rfl (by decide) (fun _ => ?_) (fun hc => absurd hc (by decide))
    refine aw_above (npc := 27) dX7_isUnder_24 rfl ks_X7_322 ?_
    refine aw_iload_n (npc := 28) rfl dX7_isUnder_27 rfl ?_
    refine aw_above_ld (npc := 29) (j := 2) dX7_isUnder_28 rfl ⟨by decide, by decide⟩ rfl ?_
    refine aw_istore_n (npc := 30) (L' := [some (.int 4), some (.int 5), some (.int 0), some (.int 1)]) dX7_isUnder_29 rfl (by decide) rfl rfl ?_
    refine aw_iinc (npc := 33) (v := 2) (L' := [some (.int 4), some (.int 5), some (.int 0), some (.int 2)]) dX7_isUnder_30 rfl rfl (by decide) (by decide) rfl rfl ?_
    refine aw_goto (npc := 4) dX7_isUnder_33 (by decide) ?_
    refine aw_iload_n (npc := 5) rfl dX7_isUnder_4 rfl ?_
    refine aw_bipush (npc := 7) (v := 6) (by decide) dX7_isUnder_5 rfl ?_
    refine aw_icmp_ge (npc := 10) (tgt := 36) dX7_isUnder_7 rfl (by decide) (fun hc => absurd hc (by decide)) (fun _ => ?_)
    refine aw_iload_n (npc := 11) rfl dX7_isUnder_10 rfl ?_
    refine aw_callS (npc := 14) (N := mX7_isKind) (mc := 0) (ms := 0) (A := [.int 0]) (S := []) (L0 := [some (.int 0)]) dX7_isUnder_11 rfl km_X7_isKind kk_X7_67 rfl ⟨rfl, by decide⟩ rfl (Nat.le_of_ble_eq_true rfl) (Nat.zero_add _) (Nat.zero_add _) rfl ?_
    refine c_X7_isKind (fun _ => ?_) (fun hw76 => absurd ⟨by decide, by decide⟩ hw76)
    refine aw_re (S' := [.int 1]) rfl ?_
    refine aw_if_eq (npc := 17) (tgt := 36) dX7_isUnder_14 rfl (by decide) (fun hc => absurd hc (by decide)) (fun _ => ?_)
    refine aw_iload_n (npc := 18) rfl dX7_isUnder_17 rfl ?_
    refine aw_iload_n (npc := 19) rfl dX7_isUnder_18 rfl ?_
    refine aw_icmp_ne (npc := 22) (tgt := 24) dX7_isUnder_19 rfl (by decide) (fun _ => ?_) (fun hc => absurd hc (by decide))
    refine aw_above (npc := 27) dX7_isUnder_24 rfl ks_X7_322 ?_
    refine aw_iload_n (npc := 28) rfl dX7_isUnder_27 rfl ?_
    refine aw_above_ld (npc := 29) (j := 0) dX7_isUnder_28 rfl ⟨by decide, by decide⟩ rfl ?_
    refine aw_istore_n (npc := 30) (L' := [some (.int 4), some (.int 5), some (.int (-1)), some (.int 2)]) dX7_isUnder_29 rfl (by decide) rfl rfl ?_
    refine aw_iinc (npc := 33) (v := 3) (L' := [some (.int 4), some (.int 5), some (.int (-1)), some (.int 3)]) dX7_isUnder_30 rfl rfl (by decide) (by decide) rfl rfl ?_
    refine aw_goto (npc := 4) dX7_isUnder_33 (by decide) ?_
    refine aw_iload_n (npc := 5) rfl dX7_isUnder_4 rfl ?_
    refine aw_bipush (npc := 7) (v := 6) (by decide) dX7_isUnder_5 rfl ?_
    refine aw_icmp_ge (npc := 10) (tgt := 36) dX7_isUnder_7 rfl (by decide) (fun hc => absurd hc (by decide)) (fun _ => ?_)
    refine aw_iload_n (npc := 11) rfl dX7_isUnder_10 rfl ?_
    refine aw_callS (npc := 14) (N := mX7_isKind) (mc := 0) (ms := 0) (A := [.int (-1)]) (S := []) (L0 := [some (.int (-1))]) dX7_isUnder_11 rfl km_X7_isKind kk_X7_67 rfl ⟨rfl, by decide⟩ rfl (Nat.le_of_ble_eq_true rfl) (Nat.zero_add _) (Nat.zero_add _) rfl ?_
    refine c_X7_isKind (fun hw77 => absurd hw77 (fun z => absurd z (by unfold wi; decide))) (fun _ => ?_)
    refine aw_re (S' := [.int 0]) rfl ?_
    refine aw_if_eq (npc := 17) (tgt := 36) dX7_isUnder_14 rfl (by decide) (fun _ => ?_) (fun hc => absurd (by decide) hc)
    refine aw_iconst (npc := 37) (v := 0) (by decide) dX7_isUnder_36 rfl ?_
    refine aw_zret rfl rfl dX7_isUnder_37 ?_
    exact (show (if undr k g then (1 : Int32) else 0) = 0 by rw [ek, eg]; decide) ▸ hq
  · refine aw_locs (L' := [some (.int 5), some (.int 0), none, none]) (by rw [ek, eg]) ?_
    refine aw_iload_n (npc := 1) rfl dX7_isUnder_0 rfl ?_
    refine aw_istore_n (npc := 2) (L' := [some (.int 5), some (.int 0), some (.int 5), none]) dX7_isUnder_1 rfl (by decide) rfl rfl ?_
    refine aw_iconst (npc := 3) (v := 0) (by decide) dX7_isUnder_2 rfl ?_
    refine aw_istore_n (npc := 4) (L' := [some (.int 5), some (.int 0), some (.int 5), some (.int 0)]) dX7_isUnder_3 rfl (by decide) rfl rfl ?_
    refine aw_iload_n (npc := 5) rfl dX7_isUnder_4 rfl ?_
    refine aw_bipush (npc := 7) (v := 6) (by decide) dX7_isUnder_5 rfl ?_
    refine aw_icmp_ge (npc := 10) (tgt := 36) dX7_isUnder_7 rfl (by decide) (fun hc => absurd hc (by decide)) (fun _ => ?_)
    refine aw_iload_n (npc := 11) rfl dX7_isUnder_10 rfl ?_
    refine aw_callS (npc := 14) (N := mX7_isKind) (mc := 0) (ms := 0) (A := [.int 5]) (S := []) (L0 := [some (.int 5)]) dX7_isUnder_11 rfl km_X7_isKind kk_X7_67 rfl ⟨rfl, by decide⟩ rfl (Nat.le_of_ble_eq_true rfl) (Nat.zero_add _) (Nat.zero_add _) rfl ?_
    refine c_X7_isKind (fun _ => ?_) (fun hw78 => absurd ⟨by decide, by decide⟩ hw78)
    refine aw_re (S' := [.int 1]) rfl ?_
    refine aw_if_eq (npc := 17) (tgt := 36) dX7_isUnder_14 rfl (by decide) (fun hc => absurd hc (by decide)) (fun _ => ?_)
    refine aw_iload_n (npc := 18) rfl dX7_isUnder_17 rfl ?_
    refine aw_iload_n (npc := 19) rfl dX7_isUnder_18 rfl ?_
    refine aw_icmp_ne (npc := 22) (tgt := 24) dX7_isUnder_19 rfl (by decide) (fun _ => ?_) (fun hc => absurd hc (by decide))
    refine aw_above (npc := 27) dX7_isUnder_24 rfl ks_X7_322 ?_
    refine aw_iload_n (npc := 28) rfl dX7_isUnder_27 rfl ?_
    refine aw_above_ld (npc := 29) (j := 5) dX7_isUnder_28 rfl ⟨by decide, by decide⟩ rfl ?_
    refine aw_istore_n (npc := 30) (L' := [some (.int 5), some (.int 0), some (.int 0), some (.int 0)]) dX7_isUnder_29 rfl (by decide) rfl rfl ?_
    refine aw_iinc (npc := 33) (v := 1) (L' := [some (.int 5), some (.int 0), some (.int 0), some (.int 1)]) dX7_isUnder_30 rfl rfl (by decide) (by decide) rfl rfl ?_
    refine aw_goto (npc := 4) dX7_isUnder_33 (by decide) ?_
    refine aw_iload_n (npc := 5) rfl dX7_isUnder_4 rfl ?_
    refine aw_bipush (npc := 7) (v := 6) (by decide) dX7_isUnder_5 rfl ?_
    refine aw_icmp_ge (npc := 10) (tgt := 36) dX7_isUnder_7 rfl (by decide) (fun hc => absurd hc (by decide)) (fun _ => ?_)
    refine aw_iload_n (npc := 11) rfl dX7_isUnder_10 rfl ?_
    refine aw_callS (npc := 14) (N := mX7_isKind) (mc := 0) (ms := 0) (A := [.int 0]) (S := []) (L0 := [some (.int 0)]) dX7_isUnder_11 rfl km_X7_isKind kk_X7_67 rfl ⟨rfl, by decide⟩ rfl (Nat.le_of_ble_eq_true rfl) (Nat.zero_add _) (Nat.zero_add _) rfl ?_
    refine c_X7_isKind (fun _ => ?_) (fun hw79 => absurd ⟨by decide, by decide⟩ hw79)
    refine aw_re (S' := [.int 1]) rfl ?_
    refine aw_if_eq (npc := 17) (tgt := 36) dX7_isUnder_14 rfl (by decide) (fun hc => absurd hc (by decide)) (fun _ => ?_)
    refine aw_iload_n (npc := 18) rfl dX7_isUnder_17 rfl ?_
    refine aw_iload_n (npc := 19) rfl dX7_isUnder_18 rfl ?_
    refine aw_icmp_ne (npc := 22) (tgt := 24) dX7_isUnder_19 rfl (by decide) (fun hc => absurd (by decide) hc) (fun _ => ?_)
    refine aw_iconst (npc := 23) (v := 1) (by decide) dX7_isUnder_22 rfl ?_
    refine aw_zret rfl rfl dX7_isUnder_23 ?_
    exact (show (if undr k g then (1 : Int32) else 0) = 1 by rw [ek, eg]; decide) ▸ hq
  · refine aw_locs (L' := [some (.int 5), some (.int 1), none, none]) (by rw [ek, eg]) ?_
    refine aw_iload_n (npc := 1) rfl dX7_isUnder_0 rfl ?_
    refine aw_istore_n (npc := 2) (L' := [some (.int 5), some (.int 1), some (.int 5), none]) dX7_isUnder_1 rfl (by decide) rfl rfl ?_
    refine aw_iconst (npc := 3) (v := 0) (by decide) dX7_isUnder_2 rfl ?_
    refine aw_istore_n (npc := 4) (L' := [some (.int 5), some (.int 1), some (.int 5), some (.int 0)]) dX7_isUnder_3 rfl (by decide) rfl rfl ?_
    refine aw_iload_n (npc := 5) rfl dX7_isUnder_4 rfl ?_
    refine aw_bipush (npc := 7) (v := 6) (by decide) dX7_isUnder_5 rfl ?_
    refine aw_icmp_ge (npc := 10) (tgt := 36) dX7_isUnder_7 rfl (by decide) (fun hc => absurd hc (by decide)) (fun _ => ?_)
    refine aw_iload_n (npc := 11) rfl dX7_isUnder_10 rfl ?_
    refine aw_callS (npc := 14) (N := mX7_isKind) (mc := 0) (ms := 0) (A := [.int 5]) (S := []) (L0 := [some (.int 5)]) dX7_isUnder_11 rfl km_X7_isKind kk_X7_67 rfl ⟨rfl, by decide⟩ rfl (Nat.le_of_ble_eq_true rfl) (Nat.zero_add _) (Nat.zero_add _) rfl ?_
    refine c_X7_isKind (fun _ => ?_) (fun hw80 => absurd ⟨by decide, by decide⟩ hw80)
    refine aw_re (S' := [.int 1]) rfl ?_
    refine aw_if_eq (npc := 17) (tgt := 36) dX7_isUnder_14 rfl (by decide) (fun hc => absurd hc (by decide)) (fun _ => ?_)
    refine aw_iload_n (npc := 18) rfl dX7_isUnder_17 rfl ?_
    refine aw_iload_n (npc := 19) rfl dX7_isUnder_18 rfl ?_
    refine aw_icmp_ne (npc := 22) (tgt := 24) dX7_isUnder_19 rfl (by decide) (fun _ => ?_) (fun hc => absurd hc (by decide))
    refine aw_above (npc := 27) dX7_isUnder_24 rfl ks_X7_322 ?_
    refine aw_iload_n (npc := 28) rfl dX7_isUnder_27 rfl ?_
    refine aw_above_ld (npc := 29) (j := 5) dX7_isUnder_28 rfl ⟨by decide, by decide⟩ rfl ?_
    refine aw_istore_n (npc := 30) (L' := [some (.int 5), some (.int 1), some (.int 0), some (.int 0)]) dX7_isUnder_29 rfl (by decide) rfl rfl ?_
    refine aw_iinc (npc := 33) (v := 1) (L' := [some (.int 5), some (.int 1), some (.int 0), some (.int 1)]) dX7_isUnder_30 rfl rfl (by decide) (by decide) rfl rfl ?_
    refine aw_goto (npc := 4) dX7_isUnder_33 (by decide) ?_
    refine aw_iload_n (npc := 5) rfl dX7_isUnder_4 rfl ?_
    refine aw_bipush (npc := 7) (v := 6) (by decide) dX7_isUnder_5 rfl ?_
    refine aw_icmp_ge (npc := 10) (tgt := 36) dX7_isUnder_7 rfl (by decide) (fun hc => absurd hc (by decide)) (fun _ => ?_)
    refine aw_iload_n (npc := 11) rfl dX7_isUnder_10 rfl ?_
    refine aw_callS (npc := 14) (N := mX7_isKind) (mc := 0) (ms := 0) (A := [.int 0]) (S := []) (L0 := [some (.int 0)]) dX7_isUnder_11 rfl km_X7_isKind kk_X7_67 rfl ⟨rfl, by decide⟩ rfl (Nat.le_of_ble_eq_true rfl) (Nat.zero_add _) (Nat.zero_add _) rfl ?_
    refine c_X7_isKind (fun _ => ?_) (fun hw81 => absurd ⟨by decide, by decide⟩ hw81)
    refine aw_re (S' := [.int 1]) rfl ?_
    refine aw_if_eq (npc := 17) (tgt := 36) dX7_isUnder_14 rfl (by decide) (fun hc => absurd hc (by decide)) (fun _ => ?_)
    refine aw_iload_n (npc := 18) rfl dX7_isUnder_17 rfl ?_
    refine aw_iload_n (npc := 19) rfl dX7_isUnder_18 rfl ?_
    refine aw_icmp_ne (npc := 22) (tgt := 24) dX7_isUnder_19 rfl (by decide) (fun _ => ?_) (fun hc => absurd hc (by decide))
    refine aw_above (npc := 27) dX7_isUnder_24 rfl ks_X7_322 ?_
    refine aw_iload_n (npc := 28) rfl dX7_isUnder_27 rfl ?_
    refine aw_above_ld (npc := 29) (j := 0) dX7_isUnder_28 rfl ⟨by decide, by decide⟩ rfl ?_
    refine aw_istore_n (npc := 30) (L' := [some (.int 5), some (.int 1), some (.int (-1)), some (.int 1)]) dX7_isUnder_29 rfl (by decide) rfl rfl ?_
    refine aw_iinc (npc := 33) (v := 2) (L' := [some (.int 5), some (.int 1), some (.int (-1)), some (.int 2)]) dX7_isUnder_30 rfl rfl (by decide) (by decide) rfl rfl ?_
    refine aw_goto (npc := 4) dX7_isUnder_33 (by decide) ?_
    refine aw_iload_n (npc := 5) rfl dX7_isUnder_4 rfl ?_
    refine aw_bipush (npc := 7) (v := 6) (by decide) dX7_isUnder_5 rfl ?_
    refine aw_icmp_ge (npc := 10) (tgt := 36) dX7_isUnder_7 rfl (by decide) (fun hc => absurd hc (by decide)) (fun _ => ?_)
    refine aw_iload_n (npc := 11) rfl dX7_isUnder_10 rfl ?_
    refine aw_callS (npc := 14) (N := mX7_isKind) (mc := 0) (ms := 0) (A := [.int (-1)]) (S := []) (L0 := [some (.int (-1))]) dX7_isUnder_11 rfl km_X7_isKind kk_X7_67 rfl ⟨rfl, by decide⟩ rfl (Nat.le_of_ble_eq_true rfl) (Nat.zero_add _) (Nat.zero_add _) rfl ?_
    refine c_X7_isKind (fun hw82 => absurd hw82 (fun z => absurd z (by unfold wi; decide))) (fun _ => ?_)
    refine aw_re (S' := [.int 0]) rfl ?_
    refine aw_if_eq (npc := 17) (tgt := 36) dX7_isUnder_14 rfl (by decide) (fun _ => ?_) (fun hc => absurd (by decide) hc)
    refine aw_iconst (npc := 37) (v := 0) (by decide) dX7_isUnder_36 rfl ?_
    refine aw_zret rfl rfl dX7_isUnder_37 ?_
    exact (show (if undr k g then (1 : Int32) else 0) = 0 by rw [ek, eg]; decide) ▸ hq
  · refine aw_locs (L' := [some (.int 5), some (.int 2), none, none]) (by rw [ek, eg]) ?_
    refine aw_iload_n (npc := 1) rfl dX7_isUnder_0 rfl ?_
    refine aw_istore_n (npc := 2) (L' := [some (.int 5), some (.int 2), some (.int 5), none]) dX7_isUnder_1 rfl (by decide) rfl rfl ?_
    refine aw_iconst (npc := 3) (v := 0) (by decide) dX7_isUnder_2 rfl ?_
    refine aw_istore_n (npc := 4) (L' := [some (.int 5), some (.int 2), some (.int 5), some (.int 0)]) dX7_isUnder_3 rfl (by decide) rfl rfl ?_
    refine aw_iload_n (npc := 5) rfl dX7_isUnder_4 rfl ?_
    refine aw_bipush (npc := 7) (v := 6) (by decide) dX7_isUnder_5 rfl ?_
    refine aw_icmp_ge (npc := 10) (tgt := 36) dX7_isUnder_7 rfl (by decide) (fun hc => absurd hc (by decide)) (fun _ => ?_)
    refine aw_iload_n (npc := 11) rfl dX7_isUnder_10 rfl ?_
    refine aw_callS (npc := 14) (N := mX7_isKind) (mc := 0) (ms := 0) (A := [.int 5]) (S := []) (L0 := [some (.int 5)]) dX7_isUnder_11 rfl km_X7_isKind kk_X7_67 rfl ⟨rfl, by decide⟩ rfl (Nat.le_of_ble_eq_true rfl) (Nat.zero_add _) (Nat.zero_add _) rfl ?_
    refine c_X7_isKind (fun _ => ?_) (fun hw83 => absurd ⟨by decide, by decide⟩ hw83)
    refine aw_re (S' := [.int 1]) rfl ?_
    refine aw_if_eq (npc := 17) (tgt := 36) dX7_isUnder_14 rfl (by decide) (fun hc => absurd hc (by decide)) (fun _ => ?_)
    refine aw_iload_n (npc := 18) rfl dX7_isUnder_17 rfl ?_
    refine aw_iload_n (npc := 19) rfl dX7_isUnder_18 rfl ?_
    refine aw_icmp_ne (npc := 22) (tgt := 24) dX7_isUnder_19 rfl (by decide) (fun _ => ?_) (fun hc => absurd hc (by decide))
    refine aw_above (npc := 27) dX7_isUnder_24 rfl ks_X7_322 ?_
    refine aw_iload_n (npc := 28) rfl dX7_isUnder_27 rfl ?_
    refine aw_above_ld (npc := 29) (j := 5) dX7_isUnder_28 rfl ⟨by decide, by decide⟩ rfl ?_
    refine aw_istore_n (npc := 30) (L' := [some (.int 5), some (.int 2), some (.int 0), some (.int 0)]) dX7_isUnder_29 rfl (by decide) rfl rfl ?_
    refine aw_iinc (npc := 33) (v := 1) (L' := [some (.int 5), some (.int 2), some (.int 0), some (.int 1)]) dX7_isUnder_30 rfl rfl (by decide) (by decide) rfl rfl ?_
    refine aw_goto (npc := 4) dX7_isUnder_33 (by decide) ?_
    refine aw_iload_n (npc := 5) rfl dX7_isUnder_4 rfl ?_
    refine aw_bipush (npc := 7) (v := 6) (by decide) dX7_isUnder_5 rfl ?_
    refine aw_icmp_ge (npc := 10) (tgt := 36) dX7_isUnder_7 rfl (by decide) (fun hc => absurd hc (by decide)) (fun _ => ?_)
    refine aw_iload_n (npc := 11) rfl dX7_isUnder_10 rfl ?_
    refine aw_callS (npc := 14) (N := mX7_isKind) (mc := 0) (ms := 0) (A := [.int 0]) (S := []) (L0 := [some (.int 0)]) dX7_isUnder_11 rfl km_X7_isKind kk_X7_67 rfl ⟨rfl, by decide⟩ rfl (Nat.le_of_ble_eq_true rfl) (Nat.zero_add _) (Nat.zero_add _) rfl ?_
    refine c_X7_isKind (fun _ => ?_) (fun hw84 => absurd ⟨by decide, by decide⟩ hw84)
    refine aw_re (S' := [.int 1]) rfl ?_
    refine aw_if_eq (npc := 17) (tgt := 36) dX7_isUnder_14 rfl (by decide) (fun hc => absurd hc (by decide)) (fun _ => ?_)
    refine aw_iload_n (npc := 18) rfl dX7_isUnder_17 rfl ?_
    refine aw_iload_n (npc := 19) rfl dX7_isUnder_18 rfl ?_
    refine aw_icmp_ne (npc := 22) (tgt := 24) dX7_isUnder_19 rfl (by decide) (fun _ => ?_) (fun hc => absurd hc (by decide))
    refine aw_above (npc := 27) dX7_isUnder_24 rfl ks_X7_322 ?_
    refine aw_iload_n (npc := 28) rfl dX7_isUnder_27 rfl ?_
    refine aw_above_ld (npc := 29) (j := 0) dX7_isUnder_28 rfl ⟨by decide, by decide⟩ rfl ?_
    refine aw_istore_n (npc := 30) (L' := [some (.int 5), some (.int 2), some (.int (-1)), some (.int 1)]) dX7_isUnder_29 rfl (by decide) rfl rfl ?_
    refine aw_iinc (npc := 33) (v := 2) (L' := [some (.int 5), some (.int 2), some (.int (-1)), some (.int 2)]) dX7_isUnder_30 rfl rfl (by decide) (by decide) rfl rfl ?_
    refine aw_goto (npc := 4) dX7_isUnder_33 (by decide) ?_
    refine aw_iload_n (npc := 5) rfl dX7_isUnder_4 rfl ?_
    refine aw_bipush (npc := 7) (v := 6) (by decide) dX7_isUnder_5 rfl ?_
    refine aw_icmp_ge (npc := 10) (tgt := 36) dX7_isUnder_7 rfl (by decide) (fun hc => absurd hc (by decide)) (fun _ => ?_)
    refine aw_iload_n (npc := 11) rfl dX7_isUnder_10 rfl ?_
    refine aw_callS (npc := 14) (N := mX7_isKind) (mc := 0) (ms := 0) (A := [.int (-1)]) (S := []) (L0 := [some (.int (-1))]) dX7_isUnder_11 rfl km_X7_isKind kk_X7_67 rfl ⟨rfl, by decide⟩ rfl (Nat.le_of_ble_eq_true rfl) (Nat.zero_add _) (Nat.zero_add _) rfl ?_
    refine c_X7_isKind (fun hw85 => absurd hw85 (fun z => absurd z (by unfold wi; decide))) (fun _ => ?_)
    refine aw_re (S' := [.int 0]) rfl ?_
    refine aw_if_eq (npc := 17) (tgt := 36) dX7_isUnder_14 rfl (by decide) (fun _ => ?_) (fun hc => absurd (by decide) hc)
    refine aw_iconst (npc := 37) (v := 0) (by decide) dX7_isUnder_36 rfl ?_
    refine aw_zret rfl rfl dX7_isUnder_37 ?_
    exact (show (if undr k g then (1 : Int32) else 0) = 0 by rw [ek, eg]; decide) ▸ hq
  · refine aw_locs (L' := [some (.int 5), some (.int 3), none, none]) (by rw [ek, eg]) ?_
    refine aw_iload_n (npc := 1) rfl dX7_isUnder_0 rfl ?_
    refine aw_istore_n (npc := 2) (L' := [some (.int 5), some (.int 3), some (.int 5), none]) dX7_isUnder_1 rfl (by decide) rfl rfl ?_
    refine aw_iconst (npc := 3) (v := 0) (by decide) dX7_isUnder_2 rfl ?_
    refine aw_istore_n (npc := 4) (L' := [some (.int 5), some (.int 3), some (.int 5), some (.int 0)]) dX7_isUnder_3 rfl (by decide) rfl rfl ?_
    refine aw_iload_n (npc := 5) rfl dX7_isUnder_4 rfl ?_
    refine aw_bipush (npc := 7) (v := 6) (by decide) dX7_isUnder_5 rfl ?_
    refine aw_icmp_ge (npc := 10) (tgt := 36) dX7_isUnder_7 rfl (by decide) (fun hc => absurd hc (by decide)) (fun _ => ?_)
    refine aw_iload_n (npc := 11) rfl dX7_isUnder_10 rfl ?_
    refine aw_callS (npc := 14) (N := mX7_isKind) (mc := 0) (ms := 0) (A := [.int 5]) (S := []) (L0 := [some (.int 5)]) dX7_isUnder_11 rfl km_X7_isKind kk_X7_67 rfl ⟨rfl, by decide⟩ rfl (Nat.le_of_ble_eq_true rfl) (Nat.zero_add _) (Nat.zero_add _) rfl ?_
    refine c_X7_isKind (fun _ => ?_) (fun hw86 => absurd ⟨by decide, by decide⟩ hw86)
    refine aw_re (S' := [.int 1]) rfl ?_
    refine aw_if_eq (npc := 17) (tgt := 36) dX7_isUnder_14 rfl (by decide) (fun hc => absurd hc (by decide)) (fun _ => ?_)
    refine aw_iload_n (npc := 18) rfl dX7_isUnder_17 rfl ?_
    refine aw_iload_n (npc := 19) rfl dX7_isUnder_18 rfl ?_
    refine aw_icmp_ne (npc := 22) (tgt := 24) dX7_isUnder_19 rfl (by decide) (fun _ => ?_) (fun hc => absurd hc (by decide))
    refine aw_above (npc := 27) dX7_isUnder_24 rfl ks_X7_322 ?_
    refine aw_iload_n (npc := 28) rfl dX7_isUnder_27 rfl ?_
    refine aw_above_ld (npc := 29) (j := 5) dX7_isUnder_28 rfl ⟨by decide, by decide⟩ rfl ?_
    refine aw_istore_n (npc := 30) (L' := [some (.int 5), some (.int 3), some (.int 0), some (.int 0)]) dX7_isUnder_29 rfl (by decide) rfl rfl ?_
    refine aw_iinc (npc := 33) (v := 1) (L' := [some (.int 5), some (.int 3), some (.int 0), some (.int 1)]) dX7_isUnder_30 rfl rfl (by decide) (by decide) rfl rfl ?_
    refine aw_goto (npc := 4) dX7_isUnder_33 (by decide) ?_
    refine aw_iload_n (npc := 5) rfl dX7_isUnder_4 rfl ?_
    refine aw_bipush (npc := 7) (v := 6) (by decide) dX7_isUnder_5 rfl ?_
    refine aw_icmp_ge (npc := 10) (tgt := 36) dX7_isUnder_7 rfl (by decide) (fun hc => absurd hc (by decide)) (fun _ => ?_)
    refine aw_iload_n (npc := 11) rfl dX7_isUnder_10 rfl ?_
    refine aw_callS (npc := 14) (N := mX7_isKind) (mc := 0) (ms := 0) (A := [.int 0]) (S := []) (L0 := [some (.int 0)]) dX7_isUnder_11 rfl km_X7_isKind kk_X7_67 rfl ⟨rfl, by decide⟩ rfl (Nat.le_of_ble_eq_true rfl) (Nat.zero_add _) (Nat.zero_add _) rfl ?_
    refine c_X7_isKind (fun _ => ?_) (fun hw87 => absurd ⟨by decide, by decide⟩ hw87)
    refine aw_re (S' := [.int 1]) rfl ?_
    refine aw_if_eq (npc := 17) (tgt := 36) dX7_isUnder_14 rfl (by decide) (fun hc => absurd hc (by decide)) (fun _ => ?_)
    refine aw_iload_n (npc := 18) rfl dX7_isUnder_17 rfl ?_
    refine aw_iload_n (npc := 19) rfl dX7_isUnder_18 rfl ?_
    refine aw_icmp_ne (npc := 22) (tgt := 24) dX7_isUnder_19 rfl (by decide) (fun _ => ?_) (fun hc => absurd hc (by decide))
    refine aw_above (npc := 27) dX7_isUnder_24 rfl ks_X7_322 ?_
    refine aw_iload_n (npc := 28) rfl dX7_isUnder_27 rfl ?_
    refine aw_above_ld (npc := 29) (j := 0) dX7_isUnder_28 rfl ⟨by decide, by decide⟩ rfl ?_
    refine aw_istore_n (npc := 30) (L' := [some (.int 5), some (.int 3), some (.int (-1)), some (.int 1)]) dX7_isUnder_29 rfl (by decide) rfl rfl ?_
    refine aw_iinc (npc := 33) (v := 2) (L' := [some (.int 5), some (.int 3), some (.int (-1)), some (.int 2)]) dX7_isUnder_30 rfl rfl (by decide) (by decide) rfl rfl ?_
    refine aw_goto (npc := 4) dX7_isUnder_33 (by decide) ?_
    refine aw_iload_n (npc := 5) rfl dX7_isUnder_4 rfl ?_
    refine aw_bipush (npc := 7) (v := 6) (by decide) dX7_isUnder_5 rfl ?_
    refine aw_icmp_ge (npc := 10) (tgt := 36) dX7_isUnder_7 rfl (by decide) (fun hc => absurd hc (by decide)) (fun _ => ?_)
    refine aw_iload_n (npc := 11) rfl dX7_isUnder_10 rfl ?_
    refine aw_callS (npc := 14) (N := mX7_isKind) (mc := 0) (ms := 0) (A := [.int (-1)]) (S := []) (L0 := [some (.int (-1))]) dX7_isUnder_11 rfl km_X7_isKind kk_X7_67 rfl ⟨rfl, by decide⟩ rfl (Nat.le_of_ble_eq_true rfl) (Nat.zero_add _) (Nat.zero_add _) rfl ?_
    refine c_X7_isKind (fun hw88 => absurd hw88 (fun z => absurd z (by unfold wi; decide))) (fun _ => ?_)
    refine aw_re (S' := [.int 0]) rfl ?_
    refine aw_if_eq (npc := 17) (tgt := 36) dX7_isUnder_14 rfl (by decide) (fun _ => ?_) (fun hc => absurd (by decide) hc)
    refine aw_iconst (npc := 37) (v := 0) (by decide) dX7_isUnder_36 rfl ?_
    refine aw_zret rfl rfl dX7_isUnder_37 ?_
    exact (show (if undr k g then (1 : Int32) else 0) = 0 by rw [ek, eg]; decide) ▸ hq
  · refine aw_locs (L' := [some (.int 5), some (.int 4), none, none]) (by rw [ek, eg]) ?_
    refine aw_iload_n (npc := 1) rfl dX7_isUnder_0 rfl ?_
    refine aw_istore_n (npc := 2) (L' := [some (.int 5), some (.int 4), some (.int 5), none]) dX7_isUnder_1 rfl (by decide) rfl rfl ?_
    refine aw_iconst (npc := 3) (v := 0) (by decide) dX7_isUnder_2 rfl ?_
    refine aw_istore_n (npc := 4) (L' := [some (.int 5), some (.int 4), some (.int 5), some (.int 0)]) dX7_isUnder_3 rfl (by decide) rfl rfl ?_
    refine aw_iload_n (npc := 5) rfl dX7_isUnder_4 rfl ?_
    refine aw_bipush (npc := 7) (v := 6) (by decide) dX7_isUnder_5 rfl ?_
    refine aw_icmp_ge (npc := 10) (tgt := 36) dX7_isUnder_7 rfl (by decide) (fun hc => absurd hc (by decide)) (fun _ => ?_)
    refine aw_iload_n (npc := 11) rfl dX7_isUnder_10 rfl ?_
    refine aw_callS (npc := 14) (N := mX7_isKind) (mc := 0) (ms := 0) (A := [.int 5]) (S := []) (L0 := [some (.int 5)]) dX7_isUnder_11 rfl km_X7_isKind kk_X7_67 rfl ⟨rfl, by decide⟩ rfl (Nat.le_of_ble_eq_true rfl) (Nat.zero_add _) (Nat.zero_add _) rfl ?_
    refine c_X7_isKind (fun _ => ?_) (fun hw89 => absurd ⟨by decide, by decide⟩ hw89)
    refine aw_re (S' := [.int 1]) rfl ?_
    refine aw_if_eq (npc := 17) (tgt := 36) dX7_isUnder_14 rfl (by decide) (fun hc => absurd hc (by decide)) (fun _ => ?_)
    refine aw_iload_n (npc := 18) rfl dX7_isUnder_17 rfl ?_
    refine aw_iload_n (npc := 19) rfl dX7_isUnder_18 rfl ?_
    refine aw_icmp_ne (npc := 22) (tgt := 24) dX7_isUnder_19 rfl (by decide) (fun _ => ?_) (fun hc => absurd hc (by decide))
    refine aw_above (npc := 27) dX7_isUnder_24 rfl ks_X7_322 ?_
    refine aw_iload_n (npc := 28) rfl dX7_isUnder_27 rfl ?_
    refine aw_above_ld (npc := 29) (j := 5) dX7_isUnder_28 rfl ⟨by decide, by decide⟩ rfl ?_
    refine aw_istore_n (npc := 30) (L' := [some (.int 5), some (.int 4), some (.int 0), some (.int 0)]) dX7_isUnder_29 rfl (by decide) rfl rfl ?_
    refine aw_iinc (npc := 33) (v := 1) (L' := [some (.int 5), some (.int 4), some (.int 0), some (.int 1)]) dX7_isUnder_30 rfl rfl (by decide) (by decide) rfl rfl ?_
    refine aw_goto (npc := 4) dX7_isUnder_33 (by decide) ?_
    refine aw_iload_n (npc := 5) rfl dX7_isUnder_4 rfl ?_
    refine aw_bipush (npc := 7) (v := 6) (by decide) dX7_isUnder_5 rfl ?_
    refine aw_icmp_ge (npc := 10) (tgt := 36) dX7_isUnder_7 rfl (by decide) (fun hc => absurd hc (by decide)) (fun _ => ?_)
    refine aw_iload_n (npc := 11) rfl dX7_isUnder_10 rfl ?_
    refine aw_callS (npc := 14) (N := mX7_isKind) (mc := 0) (ms := 0) (A := [.int 0]) (S := []) (L0 := [some (.int 0)]) dX7_isUnder_11 rfl km_X7_isKind kk_X7_67 rfl ⟨rfl, by decide⟩ rfl (Nat.le_of_ble_eq_true rfl) (Nat.zero_add _) (Nat.zero_add _) rfl ?_
    refine c_X7_isKind (fun _ => ?_) (fun hw90 => absurd ⟨by decide, by decide⟩ hw90)
    refine aw_re (S' := [.int 1]) rfl ?_
    refine aw_if_eq (npc := 17) (tgt := 36) dX7_isUnder_14 rfl (by decide) (fun hc => absurd hc (by decide)) (fun _ => ?_)
    refine aw_iload_n (npc := 18) rfl dX7_isUnder_17 rfl ?_
    refine aw_iload_n (npc := 19) rfl dX7_isUnder_18 rfl ?_
    refine aw_icmp_ne (npc := 22) (tgt := 24) dX7_isUnder_19 rfl (by decide) (fun _ => ?_) (fun hc => absurd hc (by decide))
    refine aw_above (npc := 27) dX7_isUnder_24 rfl ks_X7_322 ?_
    refine aw_iload_n (npc := 28) rfl dX7_isUnder_27 rfl ?_
    refine aw_above_ld (npc := 29) (j := 0) dX7_isUnder_28 rfl ⟨by decide, by decide⟩ rfl ?_
    refine aw_istore_n (npc := 30) (L' := [some (.int 5), some (.int 4), some (.int (-1)), some (.int 1)]) dX7_isUnder_29 rfl (by decide) rfl rfl ?_
    refine aw_iinc (npc := 33) (v := 2) (L' := [some (.int 5), some (.int 4), some (.int (-1)), some (.int 2)]) dX7_isUnder_30 rfl rfl (by decide) (by decide) rfl rfl ?_
    refine aw_goto (npc := 4) dX7_isUnder_33 (by decide) ?_
    refine aw_iload_n (npc := 5) rfl dX7_isUnder_4 rfl ?_
    refine aw_bipush (npc := 7) (v := 6) (by decide) dX7_isUnder_5 rfl ?_
    refine aw_icmp_ge (npc := 10) (tgt := 36) dX7_isUnder_7 rfl (by decide) (fun hc => absurd hc (by decide)) (fun _ => ?_)
    refine aw_iload_n (npc := 11) rfl dX7_isUnder_10 rfl ?_
    refine aw_callS (npc := 14) (N := mX7_isKind) (mc := 0) (ms := 0) (A := [.int (-1)]) (S := []) (L0 := [some (.int (-1))]) dX7_isUnder_11 rfl km_X7_isKind kk_X7_67 rfl ⟨rfl, by decide⟩ rfl (Nat.le_of_ble_eq_true rfl) (Nat.zero_add _) (Nat.zero_add _) rfl ?_
    refine c_X7_isKind (fun hw91 => absurd hw91 (fun z => absurd z (by unfold wi; decide))) (fun _ => ?_)
    refine aw_re (S' := [.int 0]) rfl ?_
    refine aw_if_eq (npc := 17) (tgt := 36) dX7_isUnder_14 rfl (by decide) (fun _ => ?_) (fun hc => absurd (by decide) hc)
    refine aw_iconst (npc := 37) (v := 0) (by decide) dX7_isUnder_36 rfl ?_
    refine aw_zret rfl rfl dX7_isUnder_37 ?_
    exact (show (if undr k g then (1 : Int32) else 0) = 0 by rw [ek, eg]; decide) ▸ hq
  · refine aw_locs (L' := [some (.int 5), some (.int 5), none, none]) (by rw [ek, eg]) ?_
    refine aw_iload_n (npc := 1) rfl dX7_isUnder_0 rfl ?_
    refine aw_istore_n (npc := 2) (L' := [some (.int 5), some (.int 5), some (.int 5), none]) dX7_isUnder_1 rfl (by decide) rfl rfl ?_
    refine aw_iconst (npc := 3) (v := 0) (by decide) dX7_isUnder_2 rfl ?_
    refine aw_istore_n (npc := 4) (L' := [some (.int 5), some (.int 5), some (.int 5), some (.int 0)]) dX7_isUnder_3 rfl (by decide) rfl rfl ?_
    refine aw_iload_n (npc := 5) rfl dX7_isUnder_4 rfl ?_
    refine aw_bipush (npc := 7) (v := 6) (by decide) dX7_isUnder_5 rfl ?_
    refine aw_icmp_ge (npc := 10) (tgt := 36) dX7_isUnder_7 rfl (by decide) (fun hc => absurd hc (by decide)) (fun _ => ?_)
    refine aw_iload_n (npc := 11) rfl dX7_isUnder_10 rfl ?_
    refine aw_callS (npc := 14) (N := mX7_isKind) (mc := 0) (ms := 0) (A := [.int 5]) (S := []) (L0 := [some (.int 5)]) dX7_isUnder_11 rfl km_X7_isKind kk_X7_67 rfl ⟨rfl, by decide⟩ rfl (Nat.le_of_ble_eq_true rfl) (Nat.zero_add _) (Nat.zero_add _) rfl ?_
    refine c_X7_isKind (fun _ => ?_) (fun hw92 => absurd ⟨by decide, by decide⟩ hw92)
    refine aw_re (S' := [.int 1]) rfl ?_
    refine aw_if_eq (npc := 17) (tgt := 36) dX7_isUnder_14 rfl (by decide) (fun hc => absurd hc (by decide)) (fun _ => ?_)
    refine aw_iload_n (npc := 18) rfl dX7_isUnder_17 rfl ?_
    refine aw_iload_n (npc := 19) rfl dX7_isUnder_18 rfl ?_
    refine aw_icmp_ne (npc := 22) (tgt := 24) dX7_isUnder_19 rfl (by decide) (fun hc => absurd (by decide) hc) (fun _ => ?_)
    refine aw_iconst (npc := 23) (v := 1) (by decide) dX7_isUnder_22 rfl ?_
    refine aw_zret rfl rfl dX7_isUnder_23 ?_
    exact (show (if undr k g then (1 : Int32) else 0) = 1 by rw [ek, eg]; decide) ▸ hq
set_option maxHeartbeats 4000000 in
set_option maxRecDepth 100000 in
theorem c_X8_isUnder {X : List Int32} {d rc rs n : Nat} {Q : am_Q} {h : am_H} {k g : Int32} (hk : wi k 0 5) (hg : wi g 0 5) (hq : Q (some (.int (if undr k g then 1 else 0))) n h) : AW X mX8_isUnder (d + 1) rc rs 0 [some (.int k), some (.int g)] [] n h Q := by
  rcases wi_c0_5 hk with ek | ek | ek | ek | ek | ek <;> rcases wi_c0_5 hg with eg | eg | eg | eg | eg | eg
  · refine aw_locs (L' := [some (.int 0), some (.int 0)]) (by rw [ek, eg]) ?_
    refine aw_iload_n (npc := 1) rfl dX8_isUnder_0 rfl ?_
    refine aw_if_eq (npc := 4) (tgt := 29) dX8_isUnder_1 rfl (by decide) (fun _ => ?_) (fun hc => absurd (by decide) hc)
    refine aw_iconst (npc := 30) (v := 1) (by decide) dX8_isUnder_29 rfl ?_
    refine aw_goto (npc := 34) dX8_isUnder_30 (by decide) ?_
    refine aw_zret rfl rfl dX8_isUnder_34 ?_
    exact (show (if undr k g then (1 : Int32) else 0) = 1 by rw [ek, eg]; decide) ▸ hq
  · refine aw_locs (L' := [some (.int 0), some (.int 1)]) (by rw [ek, eg]) ?_
    refine aw_iload_n (npc := 1) rfl dX8_isUnder_0 rfl ?_
    refine aw_if_eq (npc := 4) (tgt := 29) dX8_isUnder_1 rfl (by decide) (fun hc => absurd hc (by decide)) (fun _ => ?_)
    refine aw_iload_n (npc := 5) rfl dX8_isUnder_4 rfl ?_
    refine aw_iload_n (npc := 6) rfl dX8_isUnder_5 rfl ?_
    refine aw_icmp_eq (npc := 9) (tgt := 29) dX8_isUnder_6 rfl (by decide) (fun hc => absurd hc (by decide)) (fun _ => ?_)
    refine aw_iload_n (npc := 10) rfl dX8_isUnder_9 rfl ?_
    refine aw_iconst (npc := 11) (v := 1) (by decide) dX8_isUnder_10 rfl ?_
    refine aw_icmp_ne (npc := 14) (tgt := 19) dX8_isUnder_11 rfl (by decide) (fun hc => absurd (by decide) hc) (fun _ => ?_)
    refine aw_iload_n (npc := 15) rfl dX8_isUnder_14 rfl ?_
    refine aw_iconst (npc := 16) (v := 3) (by decide) dX8_isUnder_15 rfl ?_
    refine aw_icmp_eq (npc := 19) (tgt := 29) dX8_isUnder_16 rfl (by decide) (fun hc => absurd hc (by decide)) (fun _ => ?_)
    refine aw_iload_n (npc := 20) rfl dX8_isUnder_19 rfl ?_
    refine aw_iconst (npc := 21) (v := 2) (by decide) dX8_isUnder_20 rfl ?_
    refine aw_icmp_ne (npc := 24) (tgt := 33) dX8_isUnder_21 rfl (by decide) (fun _ => ?_) (fun hc => absurd hc (by decide))
    refine aw_iconst (npc := 34) (v := 0) (by decide) dX8_isUnder_33 rfl ?_
    refine aw_zret rfl rfl dX8_isUnder_34 ?_
    exact (show (if undr k g then (1 : Int32) else 0) = 0 by rw [ek, eg]; decide) ▸ hq
  · refine aw_locs (L' := [some (.int 0), some (.int 2)]) (by rw [ek, eg]) ?_
    refine aw_iload_n (npc := 1) rfl dX8_isUnder_0 rfl ?_
    refine aw_if_eq (npc := 4) (tgt := 29) dX8_isUnder_1 rfl (by decide) (fun hc => absurd hc (by decide)) (fun _ => ?_)
    refine aw_iload_n (npc := 5) rfl dX8_isUnder_4 rfl ?_
    refine aw_iload_n (npc := 6) rfl dX8_isUnder_5 rfl ?_
    refine aw_icmp_eq (npc := 9) (tgt := 29) dX8_isUnder_6 rfl (by decide) (fun hc => absurd hc (by decide)) (fun _ => ?_)
    refine aw_iload_n (npc := 10) rfl dX8_isUnder_9 rfl ?_
    refine aw_iconst (npc := 11) (v := 1) (by decide) dX8_isUnder_10 rfl ?_
    refine aw_icmp_ne (npc := 14) (tgt := 19) dX8_isUnder_11 rfl (by decide) (fun _ => ?_) (fun hc => absurd hc (by decide))
    refine aw_iload_n (npc := 20) rfl dX8_isUnder_19 rfl ?_
    refine aw_iconst (npc := 21) (v := 2) (by decide) dX8_isUnder_20 rfl ?_
    refine aw_icmp_ne (npc := 24) (tgt := 33) dX8_isUnder_21 rfl (by decide) (fun hc => absurd (by decide) hc) (fun _ => ?_)
    refine aw_iload_n (npc := 25) rfl dX8_isUnder_24 rfl ?_
    refine aw_iconst (npc := 26) (v := 4) (by decide) dX8_isUnder_25 rfl ?_
    refine aw_icmp_ne (npc := 29) (tgt := 33) dX8_isUnder_26 rfl (by decide) (fun _ => ?_) (fun hc => absurd hc (by decide))
    refine aw_iconst (npc := 34) (v := 0) (by decide) dX8_isUnder_33 rfl ?_
    refine aw_zret rfl rfl dX8_isUnder_34 ?_
    exact (show (if undr k g then (1 : Int32) else 0) = 0 by rw [ek, eg]; decide) ▸ hq
  · refine aw_locs (L' := [some (.int 0), some (.int 3)]) (by rw [ek, eg]) ?_
    refine aw_iload_n (npc := 1) rfl dX8_isUnder_0 rfl ?_
    refine aw_if_eq (npc := 4) (tgt := 29) dX8_isUnder_1 rfl (by decide) (fun hc => absurd hc (by decide)) (fun _ => ?_)
    refine aw_iload_n (npc := 5) rfl dX8_isUnder_4 rfl ?_
    refine aw_iload_n (npc := 6) rfl dX8_isUnder_5 rfl ?_
    refine aw_icmp_eq (npc := 9) (tgt := 29) dX8_isUnder_6 rfl (by decide) (fun hc => absurd hc (by decide)) (fun _ => ?_)
    refine aw_iload_n (npc := 10) rfl dX8_isUnder_9 rfl ?_
    refine aw_iconst (npc := 11) (v := 1) (by decide) dX8_isUnder_10 rfl ?_
    refine aw_icmp_ne (npc := 14) (tgt := 19) dX8_isUnder_11 rfl (by decide) (fun _ => ?_) (fun hc => absurd hc (by decide))
    refine aw_iload_n (npc := 20) rfl dX8_isUnder_19 rfl ?_
    refine aw_iconst (npc := 21) (v := 2) (by decide) dX8_isUnder_20 rfl ?_
    refine aw_icmp_ne (npc := 24) (tgt := 33) dX8_isUnder_21 rfl (by decide) (fun _ => ?_) (fun hc => absurd hc (by decide))
    refine aw_iconst (npc := 34) (v := 0) (by decide) dX8_isUnder_33 rfl ?_
    refine aw_zret rfl rfl dX8_isUnder_34 ?_
    exact (show (if undr k g then (1 : Int32) else 0) = 0 by rw [ek, eg]; decide) ▸ hq
  · refine aw_locs (L' := [some (.int 0), some (.int 4)]) (by rw [ek, eg]) ?_
    refine aw_iload_n (npc := 1) rfl dX8_isUnder_0 rfl ?_
    refine aw_if_eq (npc := 4) (tgt := 29) dX8_isUnder_1 rfl (by decide) (fun hc => absurd hc (by decide)) (fun _ => ?_)
    refine aw_iload_n (npc := 5) rfl dX8_isUnder_4 rfl ?_
    refine aw_iload_n (npc := 6) rfl dX8_isUnder_5 rfl ?_
    refine aw_icmp_eq (npc := 9) (tgt := 29) dX8_isUnder_6 rfl (by decide) (fun hc => absurd hc (by decide)) (fun _ => ?_)
    refine aw_iload_n (npc := 10) rfl dX8_isUnder_9 rfl ?_
    refine aw_iconst (npc := 11) (v := 1) (by decide) dX8_isUnder_10 rfl ?_
    refine aw_icmp_ne (npc := 14) (tgt := 19) dX8_isUnder_11 rfl (by decide) (fun _ => ?_) (fun hc => absurd hc (by decide))
    refine aw_iload_n (npc := 20) rfl dX8_isUnder_19 rfl ?_
    refine aw_iconst (npc := 21) (v := 2) (by decide) dX8_isUnder_20 rfl ?_
    refine aw_icmp_ne (npc := 24) (tgt := 33) dX8_isUnder_21 rfl (by decide) (fun _ => ?_) (fun hc => absurd hc (by decide))
    refine aw_iconst (npc := 34) (v := 0) (by decide) dX8_isUnder_33 rfl ?_
    refine aw_zret rfl rfl dX8_isUnder_34 ?_
    exact (show (if undr k g then (1 : Int32) else 0) = 0 by rw [ek, eg]; decide) ▸ hq
  · refine aw_locs (L' := [some (.int 0), some (.int 5)]) (by rw [ek, eg]) ?_
    refine aw_iload_n (npc := 1) rfl dX8_isUnder_0 rfl ?_
    refine aw_if_eq (npc := 4) (tgt := 29) dX8_isUnder_1 rfl (by decide) (fun hc => absurd hc (by decide)) (fun _ => ?_)
    refine aw_iload_n (npc := 5) rfl dX8_isUnder_4 rfl ?_
    refine aw_iload_n (npc := 6) rfl dX8_isUnder_5 rfl ?_
    refine aw_icmp_eq (npc := 9) (tgt := 29) dX8_isUnder_6 rfl (by decide) (fun hc => absurd hc (by decide)) (fun _ => ?_)
    refine aw_iload_n (npc := 10) rfl dX8_isUnder_9 rfl ?_
    refine aw_iconst (npc := 11) (v := 1) (by decide) dX8_isUnder_10 rfl ?_
    refine aw_icmp_ne (npc := 14) (tgt := 19) dX8_isUnder_11 rfl (by decide) (fun _ => ?_) (fun hc => absurd hc (by decide))
    refine aw_iload_n (npc := 20) rfl dX8_isUnder_19 rfl ?_
    refine aw_iconst (npc := 21) (v := 2) (by decide) dX8_isUnder_20 rfl ?_
    refine aw_icmp_ne (npc := 24) (tgt := 33) dX8_isUnder_21 rfl (by decide) (fun _ => ?_) (fun hc => absurd hc (by decide))
    refine aw_iconst (npc := 34) (v := 0) (by decide) dX8_isUnder_33 rfl ?_
    refine aw_zret rfl rfl dX8_isUnder_34 ?_
    exact (show (if undr k g then (1 : Int32) else 0) = 0 by rw [ek, eg]; decide) ▸ hq
  · refine aw_locs (L' := [some (.int 1), some (.int 0)]) (by rw [ek, eg]) ?_
    refine aw_iload_n (npc := 1) rfl dX8_isUnder_0 rfl ?_
    refine aw_if_eq (npc := 4) (tgt := 29) dX8_isUnder_1 rfl (by decide) (fun _ => ?_) (fun hc => absurd (by decide) hc)
    refine aw_iconst (npc := 30) (v := 1) (by decide) dX8_isUnder_29 rfl ?_
    refine aw_goto (npc := 34) dX8_isUnder_30 (by decide) ?_
    refine aw_zret rfl rfl dX8_isUnder_34 ?_
    exact (show (if undr k g then (1 : Int32) else 0) = 1 by rw [ek, eg]; decide) ▸ hq
  · refine aw_locs (L' := [some (.int 1), some (.int 1)]) (by rw [ek, eg]) ?_
    refine aw_iload_n (npc := 1) rfl dX8_isUnder_0 rfl ?_
    refine aw_if_eq (npc := 4) (tgt := 29) dX8_isUnder_1 rfl (by decide) (fun hc => absurd hc (by decide)) (fun _ => ?_)
    refine aw_iload_n (npc := 5) rfl dX8_isUnder_4 rfl ?_
    refine aw_iload_n (npc := 6) rfl dX8_isUnder_5 rfl ?_
    refine aw_icmp_eq (npc := 9) (tgt := 29) dX8_isUnder_6 rfl (by decide) (fun _ => ?_) (fun hc => absurd (by decide) hc)
    refine aw_iconst (npc := 30) (v := 1) (by decide) dX8_isUnder_29 rfl ?_
    refine aw_goto (npc := 34) dX8_isUnder_30 (by decide) ?_
    refine aw_zret rfl rfl dX8_isUnder_34 ?_
    exact (show (if undr k g then (1 : Int32) else 0) = 1 by rw [ek, eg]; decide) ▸ hq
  · refine aw_locs (L' := [some (.int 1), some (.int 2)]) (by rw [ek, eg]) ?_
    refine aw_iload_n (npc := 1) rfl dX8_isUnder_0 rfl ?_
    refine aw_if_eq (npc := 4) (tgt := 29) dX8_isUnder_1 rfl (by decide) (fun hc => absurd hc (by decide)) (fun _ => ?_)
    refine aw_iload_n (npc := 5) rfl dX8_isUnder_4 rfl ?_
    refine aw_iload_n (npc := 6) rfl dX8_isUnder_5 rfl ?_
    refine aw_icmp_eq (npc := 9) (tgt := 29) dX8_isUnder_6 rfl (by decide) (fun hc => absurd hc (by decide)) (fun _ => ?_)
    refine aw_iload_n (npc := 10) rfl dX8_isUnder_9 rfl ?_
    refine aw_iconst (npc := 11) (v := 1) (by decide) dX8_isUnder_10 rfl ?_
    refine aw_icmp_ne (npc := 14) (tgt := 19) dX8_isUnder_11 rfl (by decide) (fun _ => ?_) (fun hc => absurd hc (by decide))
    refine aw_iload_n (npc := 20) rfl dX8_isUnder_19 rfl ?_
    refine aw_iconst (npc := 21) (v := 2) (by decide) dX8_isUnder_20 rfl ?_
    refine aw_icmp_ne (npc := 24) (tgt := 33) dX8_isUnder_21 rfl (by decide) (fun hc => absurd (by decide) hc) (fun _ => ?_)
    refine aw_iload_n (npc := 25) rfl dX8_isUnder_24 rfl ?_
    refine aw_iconst (npc := 26) (v := 4) (by decide) dX8_isUnder_25 rfl ?_
    refine aw_icmp_ne (npc := 29) (tgt := 33) dX8_isUnder_26 rfl (by decide) (fun _ => ?_) (fun hc => absurd hc (by decide))
    refine aw_iconst (npc := 34) (v := 0) (by decide) dX8_isUnder_33 rfl ?_
    refine aw_zret rfl rfl dX8_isUnder_34 ?_
    exact (show (if undr k g then (1 : Int32) else 0) = 0 by rw [ek, eg]; decide) ▸ hq
  · refine aw_locs (L' := [some (.int 1), some (.int 3)]) (by rw [ek, eg]) ?_
    refine aw_iload_n (npc := 1) rfl dX8_isUnder_0 rfl ?_
    refine aw_if_eq (npc := 4) (tgt := 29) dX8_isUnder_1 rfl (by decide) (fun hc => absurd hc (by decide)) (fun _ => ?_)
    refine aw_iload_n (npc := 5) rfl dX8_isUnder_4 rfl ?_
    refine aw_iload_n (npc := 6) rfl dX8_isUnder_5 rfl ?_
    refine aw_icmp_eq (npc := 9) (tgt := 29) dX8_isUnder_6 rfl (by decide) (fun hc => absurd hc (by decide)) (fun _ => ?_)
    refine aw_iload_n (npc := 10) rfl dX8_isUnder_9 rfl ?_
    refine aw_iconst (npc := 11) (v := 1) (by decide) dX8_isUnder_10 rfl ?_
    refine aw_icmp_ne (npc := 14) (tgt := 19) dX8_isUnder_11 rfl (by decide) (fun _ => ?_) (fun hc => absurd hc (by decide))
    refine aw_iload_n (npc := 20) rfl dX8_isUnder_19 rfl ?_
    refine aw_iconst (npc := 21) (v := 2) (by decide) dX8_isUnder_20 rfl ?_
    refine aw_icmp_ne (npc := 24) (tgt := 33) dX8_isUnder_21 rfl (by decide) (fun _ => ?_) (fun hc => absurd hc (by decide))
    refine aw_iconst (npc := 34) (v := 0) (by decide) dX8_isUnder_33 rfl ?_
    refine aw_zret rfl rfl dX8_isUnder_34 ?_
    exact (show (if undr k g then (1 : Int32) else 0) = 0 by rw [ek, eg]; decide) ▸ hq
  · refine aw_locs (L' := [some (.int 1), some (.int 4)]) (by rw [ek, eg]) ?_
    refine aw_iload_n (npc := 1) rfl dX8_isUnder_0 rfl ?_
    refine aw_if_eq (npc := 4) (tgt := 29) dX8_isUnder_1 rfl (by decide) (fun hc => absurd hc (by decide)) (fun _ => ?_)
    refine aw_iload_n (npc := 5) rfl dX8_isUnder_4 rfl ?_
    refine aw_iload_n (npc := 6) rfl dX8_isUnder_5 rfl ?_
    refine aw_icmp_eq (npc := 9) (tgt := 29) dX8_isUnder_6 rfl (by decide) (fun hc => absurd hc (by decide)) (fun _ => ?_)
    refine aw_iload_n (npc := 10) rfl dX8_isUnder_9 rfl ?_
    refine aw_iconst (npc := 11) (v := 1) (by decide) dX8_isUnder_10 rfl ?_
    refine aw_icmp_ne (npc := 14) (tgt := 19) dX8_isUnder_11 rfl (by decide) (fun _ => ?_) (fun hc => absurd hc (by decide))
    refine aw_iload_n (npc := 20) rfl dX8_isUnder_19 rfl ?_
    refine aw_iconst (npc := 21) (v := 2) (by decide) dX8_isUnder_20 rfl ?_
    refine aw_icmp_ne (npc := 24) (tgt := 33) dX8_isUnder_21 rfl (by decide) (fun _ => ?_) (fun hc => absurd hc (by decide))
    refine aw_iconst (npc := 34) (v := 0) (by decide) dX8_isUnder_33 rfl ?_
    refine aw_zret rfl rfl dX8_isUnder_34 ?_
    exact (show (if undr k g then (1 : Int32) else 0) = 0 by rw [ek, eg]; decide) ▸ hq
  · refine aw_locs (L' := [some (.int 1), some (.int 5)]) (by rw [ek, eg]) ?_
    refine aw_iload_n (npc := 1) rfl dX8_isUnder_0 rfl ?_
    refine aw_if_eq (npc := 4) (tgt := 29) dX8_isUnder_1 rfl (by decide) (fun hc => absurd hc (by decide)) (fun _ => ?_)
    refine aw_iload_n (npc := 5) rfl dX8_isUnder_4 rfl ?_
    refine aw_iload_n (npc := 6) rfl dX8_isUnder_5 rfl ?_
    refine aw_icmp_eq (npc := 9) (tgt := 29) dX8_isUnder_6 rfl (by decide) (fun hc => absurd hc (by decide)) (fun _ => ?_)
    refine aw_iload_n (npc := 10) rfl dX8_isUnder_9 rfl ?_
    refine aw_iconst (npc := 11) (v := 1) (by decide) dX8_isUnder_10 rfl ?_
    refine aw_icmp_ne (npc := 14) (tgt := 19) dX8_isUnder_11 rfl (by decide) (fun _ => ?_) (fun hc => absurd hc (by decide))
    refine aw_iload_n (npc := 20) rfl dX8_isUnder_19 rfl ?_
    refine aw_iconst (npc := 21) (v := 2) (by decide) dX8_isUnder_20 rfl ?_
    refine aw_icmp_ne (npc := 24) (tgt := 33) dX8_isUnder_21 rfl (by decide) (fun _ => ?_) (fun hc => absurd hc (by decide))
    refine aw_iconst (npc := 34) (v := 0) (by decide) dX8_isUnder_33 rfl ?_
    refine aw_zret rfl rfl dX8_isUnder_34 ?_
    exact (show (if undr k g then (1 : Int32) else 0) = 0 by rw [ek, eg]; decide) ▸ hq
  · refine aw_locs (L' := [some (.int 2), some (.int 0)]) (by rw [ek, eg]) ?_
    refine aw_iload_n (npc := 1) rfl dX8_isUnder_0 rfl ?_
    refine aw_if_eq (npc := 4) (tgt := 29) dX8_isUnder_1 rfl (by decide) (fun _ => ?_) (fun hc => absurd (by decide) hc)
    refine aw_iconst (npc := 30) (v := 1) (by decide) dX8_isUnder_29 rfl ?_
    refine aw_goto (npc := 34) dX8_isUnder_30 (by decide) ?_
    refine aw_zret rfl rfl dX8_isUnder_34 ?_
    exact (show (if undr k g then (1 : Int32) else 0) = 1 by rw [ek, eg]; decide) ▸ hq
  · refine aw_locs (L' := [some (.int 2), some (.int 1)]) (by rw [ek, eg]) ?_
    refine aw_iload_n (npc := 1) rfl dX8_isUnder_0 rfl ?_
    refine aw_if_eq (npc := 4) (tgt := 29) dX8_isUnder_1 rfl (by decide) (fun hc => absurd hc (by decide)) (fun _ => ?_)
    refine aw_iload_n (npc := 5) rfl dX8_isUnder_4 rfl ?_
    refine aw_iload_n (npc := 6) rfl dX8_isUnder_5 rfl ?_
    refine aw_icmp_eq (npc := 9) (tgt := 29) dX8_isUnder_6 rfl (by decide) (fun hc => absurd hc (by decide)) (fun _ => ?_)
    refine aw_iload_n (npc := 10) rfl dX8_isUnder_9 rfl ?_
    refine aw_iconst (npc := 11) (v := 1) (by decide) dX8_isUnder_10 rfl ?_
    refine aw_icmp_ne (npc := 14) (tgt := 19) dX8_isUnder_11 rfl (by decide) (fun hc => absurd (by decide) hc) (fun _ => ?_)
    refine aw_iload_n (npc := 15) rfl dX8_isUnder_14 rfl ?_
    refine aw_iconst (npc := 16) (v := 3) (by decide) dX8_isUnder_15 rfl ?_
    refine aw_icmp_eq (npc := 19) (tgt := 29) dX8_isUnder_16 rfl (by decide) (fun hc => absurd hc (by decide)) (fun _ => ?_)
    refine aw_iload_n (npc := 20) rfl dX8_isUnder_19 rfl ?_
    refine aw_iconst (npc := 21) (v := 2) (by decide) dX8_isUnder_20 rfl ?_
    refine aw_icmp_ne (npc := 24) (tgt := 33) dX8_isUnder_21 rfl (by decide) (fun _ => ?_) (fun hc => absurd hc (by decide))
    refine aw_iconst (npc := 34) (v := 0) (by decide) dX8_isUnder_33 rfl ?_
    refine aw_zret rfl rfl dX8_isUnder_34 ?_
    exact (show (if undr k g then (1 : Int32) else 0) = 0 by rw [ek, eg]; decide) ▸ hq
  · refine aw_locs (L' := [some (.int 2), some (.int 2)]) (by rw [ek, eg]) ?_
    refine aw_iload_n (npc := 1) rfl dX8_isUnder_0 rfl ?_
    refine aw_if_eq (npc := 4) (tgt := 29) dX8_isUnder_1 rfl (by decide) (fun hc => absurd hc (by decide)) (fun _ => ?_)
    refine aw_iload_n (npc := 5) rfl dX8_isUnder_4 rfl ?_
    refine aw_iload_n (npc := 6) rfl dX8_isUnder_5 rfl ?_
    refine aw_icmp_eq (npc := 9) (tgt := 29) dX8_isUnder_6 rfl (by decide) (fun _ => ?_) (fun hc => absurd (by decide) hc)
    refine aw_iconst (npc := 30) (v := 1) (by decide) dX8_isUnder_29 rfl ?_
    refine aw_goto (npc := 34) dX8_isUnder_30 (by decide) ?_
    refine aw_zret rfl rfl dX8_isUnder_34 ?_
    exact (show (if undr k g then (1 : Int32) else 0) = 1 by rw [ek, eg]; decide) ▸ hq
  · refine aw_locs (L' := [some (.int 2), some (.int 3)]) (by rw [ek, eg]) ?_
    refine aw_iload_n (npc := 1) rfl dX8_isUnder_0 rfl ?_
    refine aw_if_eq (npc := 4) (tgt := 29) dX8_isUnder_1 rfl (by decide) (fun hc => absurd hc (by decide)) (fun _ => ?_)
    refine aw_iload_n (npc := 5) rfl dX8_isUnder_4 rfl ?_
    refine aw_iload_n (npc := 6) rfl dX8_isUnder_5 rfl ?_
    refine aw_icmp_eq (npc := 9) (tgt := 29) dX8_isUnder_6 rfl (by decide) (fun hc => absurd hc (by decide)) (fun _ => ?_)
    refine aw_iload_n (npc := 10) rfl dX8_isUnder_9 rfl ?_
    refine aw_iconst (npc := 11) (v := 1) (by decide) dX8_isUnder_10 rfl ?_
    refine aw_icmp_ne (npc := 14) (tgt := 19) dX8_isUnder_11 rfl (by decide) (fun _ => ?_) (fun hc => absurd hc (by decide))
    refine aw_iload_n (npc := 20) rfl dX8_isUnder_19 rfl ?_
    refine aw_iconst (npc := 21) (v := 2) (by decide) dX8_isUnder_20 rfl ?_
    refine aw_icmp_ne (npc := 24) (tgt := 33) dX8_isUnder_21 rfl (by decide) (fun _ => ?_) (fun hc => absurd hc (by decide))
    refine aw_iconst (npc := 34) (v := 0) (by decide) dX8_isUnder_33 rfl ?_
    refine aw_zret rfl rfl dX8_isUnder_34 ?_
    exact (show (if undr k g then (1 : Int32) else 0) = 0 by rw [ek, eg]; decide) ▸ hq
  · refine aw_locs (L' := [some (.int 2), some (.int 4)]) (by rw [ek, eg]) ?_
    refine aw_iload_n (npc := 1) rfl dX8_isUnder_0 rfl ?_
    refine aw_if_eq (npc := 4) (tgt := 29) dX8_isUnder_1 rfl (by decide) (fun hc => absurd hc (by decide)) (fun _ => ?_)
    refine aw_iload_n (npc := 5) rfl dX8_isUnder_4 rfl ?_
    refine aw_iload_n (npc := 6) rfl dX8_isUnder_5 rfl ?_
    refine aw_icmp_eq (npc := 9) (tgt := 29) dX8_isUnder_6 rfl (by decide) (fun hc => absurd hc (by decide)) (fun _ => ?_)
    refine aw_iload_n (npc := 10) rfl dX8_isUnder_9 rfl ?_
    refine aw_iconst (npc := 11) (v := 1) (by decide) dX8_isUnder_10 rfl ?_
    refine aw_icmp_ne (npc := 14) (tgt := 19) dX8_isUnder_11 rfl (by decide) (fun _ => ?_) (fun hc => absurd hc (by decide))
    refine aw_iload_n (npc := 20) rfl dX8_isUnder_19 rfl ?_
    refine aw_iconst (npc := 21) (v := 2) (by decide) dX8_isUnder_20 rfl ?_
    refine aw_icmp_ne (npc := 24) (tgt := 33) dX8_isUnder_21 rfl (by decide) (fun _ => ?_) (fun hc => absurd hc (by decide))
    refine aw_iconst (npc := 34) (v := 0) (by decide) dX8_isUnder_33 rfl ?_
    refine aw_zret rfl rfl dX8_isUnder_34 ?_
    exact (show (if undr k g then (1 : Int32) else 0) = 0 by rw [ek, eg]; decide) ▸ hq
  · refine aw_locs (L' := [some (.int 2), some (.int 5)]) (by rw [ek, eg]) ?_
    refine aw_iload_n (npc := 1) rfl dX8_isUnder_0 rfl ?_
    refine aw_if_eq (npc := 4) (tgt := 29) dX8_isUnder_1 rfl (by decide) (fun hc => absurd hc (by decide)) (fun _ => ?_)
    refine aw_iload_n (npc := 5) rfl dX8_isUnder_4 rfl ?_
    refine aw_iload_n (npc := 6) rfl dX8_isUnder_5 rfl ?_
    refine aw_icmp_eq (npc := 9) (tgt := 29) dX8_isUnder_6 rfl (by decide) (fun hc => absurd hc (by decide)) (fun _ => ?_)
    refine aw_iload_n (npc := 10) rfl dX8_isUnder_9 rfl ?_
    refine aw_iconst (npc := 11) (v := 1) (by decide) dX8_isUnder_10 rfl ?_
    refine aw_icmp_ne (npc := 14) (tgt := 19) dX8_isUnder_11 rfl (by decide) (fun _ => ?_) (fun hc => absurd hc (by decide))
    refine aw_iload_n (npc := 20) rfl dX8_isUnder_19 rfl ?_
    refine aw_iconst (npc := 21) (v := 2) (by decide) dX8_isUnder_20 rfl ?_
    refine aw_icmp_ne (npc := 24) (tgt := 33) dX8_isUnder_21 rfl (by decide) (fun _ => ?_) (fun hc => absurd hc (by decide))
    refine aw_iconst (npc := 34) (v := 0) (by decide) dX8_isUnder_33 rfl ?_
    refine aw_zret rfl rfl dX8_isUnder_34 ?_
    exact (show (if undr k g then (1 : Int32) else 0) = 0 by rw [ek, eg]; decide) ▸ hq
  · refine aw_locs (L' := [some (.int 3), some (.int 0)]) (by rw [ek, eg]) ?_
    refine aw_iload_n (npc := 1) rfl dX8_isUnder_0 rfl ?_
    refine aw_if_eq (npc := 4) (tgt := 29) dX8_isUnder_1 rfl (by decide) (fun _ => ?_) (fun hc => absurd (by decide) hc)
    refine aw_iconst (npc := 30) (v := 1) (by decide) dX8_isUnder_29 rfl ?_
    refine aw_goto (npc := 34) dX8_isUnder_30 (by decide) ?_
    refine aw_zret rfl rfl dX8_isUnder_34 ?_
    exact (show (if undr k g then (1 : Int32) else 0) = 1 by rw [ek, eg]; decide) ▸ hq
  · refine aw_locs (L' := [some (.int 3), some (.int 1)]) (by rw [ek, eg]) ?_
    refine aw_iload_n (npc := 1) rfl dX8_isUnder_0 rfl ?_
    refine aw_if_eq (npc := 4) (tgt := 29) dX8_isUnder_1 rfl (by decide) (fun hc => absurd hc (by decide)) (fun _ => ?_)
    refine aw_iload_n (npc := 5) rfl dX8_isUnder_4 rfl ?_
    refine aw_iload_n (npc := 6) rfl dX8_isUnder_5 rfl ?_
    refine aw_icmp_eq (npc := 9) (tgt := 29) dX8_isUnder_6 rfl (by decide) (fun hc => absurd hc (by decide)) (fun _ => ?_)
    refine aw_iload_n (npc := 10) rfl dX8_isUnder_9 rfl ?_
    refine aw_iconst (npc := 11) (v := 1) (by decide) dX8_isUnder_10 rfl ?_
    refine aw_icmp_ne (npc := 14) (tgt := 19) dX8_isUnder_11 rfl (by decide) (fun hc => absurd (by decide) hc) (fun _ => ?_)
    refine aw_iload_n (npc := 15) rfl dX8_isUnder_14 rfl ?_
    refine aw_iconst (npc := 16) (v := 3) (by decide) dX8_isUnder_15 rfl ?_
    refine aw_icmp_eq (npc := 19) (tgt := 29) dX8_isUnder_16 rfl (by decide) (fun _ => ?_) (fun hc => absurd (by decide) hc)
    refine aw_iconst (npc := 30) (v := 1) (by decide) dX8_isUnder_29 rfl ?_
    refine aw_goto (npc := 34) dX8_isUnder_30 (by decide) ?_
    refine aw_zret rfl rfl dX8_isUnder_34 ?_
    exact (show (if undr k g then (1 : Int32) else 0) = 1 by rw [ek, eg]; decide) ▸ hq
  · refine aw_locs (L' := [some (.int 3), some (.int 2)]) (by rw [ek, eg]) ?_
    refine aw_iload_n (npc := 1) rfl dX8_isUnder_0 rfl ?_
    refine aw_if_eq (npc := 4) (tgt := 29) dX8_isUnder_1 rfl (by decide) (fun hc => absurd hc (by decide)) (fun _ => ?_)
    refine aw_iload_n (npc := 5) rfl dX8_isUnder_4 rfl ?_
    refine aw_iload_n (npc := 6) rfl dX8_isUnder_5 rfl ?_
    refine aw_icmp_eq (npc := 9) (tgt := 29) dX8_isUnder_6 rfl (by decide) (fun hc => absurd hc (by decide)) (fun _ => ?_)
    refine aw_iload_n (npc := 10) rfl dX8_isUnder_9 rfl ?_
    refine aw_iconst (npc := 11) (v := 1) (by decide) dX8_isUnder_10 rfl ?_
    refine aw_icmp_ne (npc := 14) (tgt := 19) dX8_isUnder_11 rfl (by decide) (fun _ => ?_) (fun hc => absurd hc (by decide))
    refine aw_iload_n (npc := 20) rfl dX8_isUnder_19 rfl ?_
    refine aw_iconst (npc := 21) (v := 2) (by decide) dX8_isUnder_20 rfl ?_
    refine aw_icmp_ne (npc := 24) (tgt := 33) dX8_isUnder_21 rfl (by decide) (fun hc => absurd (by decide) hc) (fun _ => ?_)
    refine aw_iload_n (npc := 25) rfl dX8_isUnder_24 rfl ?_
    refine aw_iconst (npc := 26) (v := 4) (by decide) dX8_isUnder_25 rfl ?_
    refine aw_icmp_ne (npc := 29) (tgt := 33) dX8_isUnder_26 rfl (by decide) (fun _ => ?_) (fun hc => absurd hc (by decide))
    refine aw_iconst (npc := 34) (v := 0) (by decide) dX8_isUnder_33 rfl ?_
    refine aw_zret rfl rfl dX8_isUnder_34 ?_
    exact (show (if undr k g then (1 : Int32) else 0) = 0 by rw [ek, eg]; decide) ▸ hq
  · refine aw_locs (L' := [some (.int 3), some (.int 3)]) (by rw [ek, eg]) ?_
    refine aw_iload_n (npc := 1) rfl dX8_isUnder_0 rfl ?_
    refine aw_if_eq (npc := 4) (tgt := 29) dX8_isUnder_1 rfl (by decide) (fun hc => absurd hc (by decide)) (fun _ => ?_)
    refine aw_iload_n (npc := 5) rfl dX8_isUnder_4 rfl ?_
    refine aw_iload_n (npc := 6) rfl dX8_isUnder_5 rfl ?_
    refine aw_icmp_eq (npc := 9) (tgt := 29) dX8_isUnder_6 rfl (by decide) (fun _ => ?_) (fun hc => absurd (by decide) hc)
    refine aw_iconst (npc := 30) (v := 1) (by decide) dX8_isUnder_29 rfl ?_
    refine aw_goto (npc := 34) dX8_isUnder_30 (by decide) ?_
    refine aw_zret rfl rfl dX8_isUnder_34 ?_
    exact (show (if undr k g then (1 : Int32) else 0) = 1 by rw [ek, eg]; decide) ▸ hq
  · refine aw_locs (L' := [some (.int 3), some (.int 4)]) (by rw [ek, eg]) ?_
    refine aw_iload_n (npc := 1) rfl dX8_isUnder_0 rfl ?_
    refine aw_if_eq (npc := 4) (tgt := 29) dX8_isUnder_1 rfl (by decide) (fun hc => absurd hc (by decide)) (fun _ => ?_)
    refine aw_iload_n (npc := 5) rfl dX8_isUnder_4 rfl ?_
    refine aw_iload_n (npc := 6) rfl dX8_isUnder_5 rfl ?_
    refine aw_icmp_eq (npc := 9) (tgt := 29) dX8_isUnder_6 rfl (by decide) (fun hc => absurd hc (by decide)) (fun _ => ?_)
    refine aw_iload_n (npc := 10) rfl dX8_isUnder_9 rfl ?_
    refine aw_iconst (npc := 11) (v := 1) (by decide) dX8_isUnder_10 rfl ?_
    refine aw_icmp_ne (npc := 14) (tgt := 19) dX8_isUnder_11 rfl (by decide) (fun _ => ?_) (fun hc => absurd hc (by decide))
    refine aw_iload_n (npc := 20) rfl dX8_isUnder_19 rfl ?_
    refine aw_iconst (npc := 21) (v := 2) (by decide) dX8_isUnder_20 rfl ?_
    refine aw_icmp_ne (npc := 24) (tgt := 33) dX8_isUnder_21 rfl (by decide) (fun _ => ?_) (fun hc => absurd hc (by decide))
    refine aw_iconst (npc := 34) (v := 0) (by decide) dX8_isUnder_33 rfl ?_
    refine aw_zret rfl rfl dX8_isUnder_34 ?_
    exact (show (if undr k g then (1 : Int32) else 0) = 0 by rw [ek, eg]; decide) ▸ hq
  · refine aw_locs (L' := [some (.int 3), some (.int 5)]) (by rw [ek, eg]) ?_
    refine aw_iload_n (npc := 1) rfl dX8_isUnder_0 rfl ?_
    refine aw_if_eq (npc := 4) (tgt := 29) dX8_isUnder_1 rfl (by decide) (fun hc => absurd hc (by decide)) (fun _ => ?_)
    refine aw_iload_n (npc := 5) rfl dX8_isUnder_4 rfl ?_
    refine aw_iload_n (npc := 6) rfl dX8_isUnder_5 rfl ?_
    refine aw_icmp_eq (npc := 9) (tgt := 29) dX8_isUnder_6 rfl (by decide) (fun hc => absurd hc (by decide)) (fun _ => ?_)
    refine aw_iload_n (npc := 10) rfl dX8_isUnder_9 rfl ?_
    refine aw_iconst (npc := 11) (v := 1) (by decide) dX8_isUnder_10 rfl ?_
    refine aw_icmp_ne (npc := 14) (tgt := 19) dX8_isUnder_11 rfl (by decide) (fun _ => ?_) (fun hc => absurd hc (by decide))
    refine aw_iload_n (npc := 20) rfl dX8_isUnder_19 rfl ?_
    refine aw_iconst (npc := 21) (v := 2) (by decide) dX8_isUnder_20 rfl ?_
    refine aw_icmp_ne (npc := 24) (tgt := 33) dX8_isUnder_21 rfl (by decide) (fun _ => ?_) (fun hc => absurd hc (by decide))
    refine aw_iconst (npc := 34) (v := 0) (by decide) dX8_isUnder_33 rfl ?_
    refine aw_zret rfl rfl dX8_isUnder_34 ?_
    exact (show (if undr k g then (1 : Int32) else 0) = 0 by rw [ek, eg]; decide) ▸ hq
  · refine aw_locs (L' := [some (.int 4), some (.int 0)]) (by rw [ek, eg]) ?_
    refine aw_iload_n (npc := 1) rfl dX8_isUnder_0 rfl ?_
    refine aw_if_eq (npc := 4) (tgt := 29) dX8_isUnder_1 rfl (by decide) (fun _ => ?_) (fun hc => absurd (by decide) hc)
    refine aw_iconst (npc := 30) (v := 1) (by decide) dX8_isUnder_29 rfl ?_
    refine aw_goto (npc := 34) dX8_isUnder_30 (by decide) ?_
    refine aw_zret rfl rfl dX8_isUnder_34 ?_
    exact (show (if undr k g then (1 : Int32) else 0) = 1 by rw [ek, eg]; decide) ▸ hq
  · refine aw_locs (L' := [some (.int 4), some (.int 1)]) (by rw [ek, eg]) ?_
    refine aw_iload_n (npc := 1) rfl dX8_isUnder_0 rfl ?_
    refine aw_if_eq (npc := 4) (tgt := 29) dX8_isUnder_1 rfl (by decide) (fun hc => absurd hc (by decide)) (fun _ => ?_)
    refine aw_iload_n (npc := 5) rfl dX8_isUnder_4 rfl ?_
    refine aw_iload_n (npc := 6) rfl dX8_isUnder_5 rfl ?_
    refine aw_icmp_eq (npc := 9) (tgt := 29) dX8_isUnder_6 rfl (by decide) (fun hc => absurd hc (by decide)) (fun _ => ?_)
    refine aw_iload_n (npc := 10) rfl dX8_isUnder_9 rfl ?_
    refine aw_iconst (npc := 11) (v := 1) (by decide) dX8_isUnder_10 rfl ?_
    refine aw_icmp_ne (npc := 14) (tgt := 19) dX8_isUnder_11 rfl (by decide) (fun hc => absurd (by decide) hc) (fun _ => ?_)
    refine aw_iload_n (npc := 15) rfl dX8_isUnder_14 rfl ?_
    refine aw_iconst (npc := 16) (v := 3) (by decide) dX8_isUnder_15 rfl ?_
    refine aw_icmp_eq (npc := 19) (tgt := 29) dX8_isUnder_16 rfl (by decide) (fun hc => absurd hc (by decide)) (fun _ => ?_)
    refine aw_iload_n (npc := 20) rfl dX8_isUnder_19 rfl ?_
    refine aw_iconst (npc := 21) (v := 2) (by decide) dX8_isUnder_20 rfl ?_
    refine aw_icmp_ne (npc := 24) (tgt := 33) dX8_isUnder_21 rfl (by decide) (fun _ => ?_) (fun hc => absurd hc (by decide))
    refine aw_iconst (npc := 34) (v := 0) (by decide) dX8_isUnder_33 rfl ?_
    refine aw_zret rfl rfl dX8_isUnder_34 ?_
    exact (show (if undr k g then (1 : Int32) else 0) = 0 by rw [ek, eg]; decide) ▸ hq
  · refine aw_locs (L' := [some (.int 4), some (.int 2)]) (by rw [ek, eg]) ?_
    refine aw_iload_n (npc := 1) rfl dX8_isUnder_0 rfl ?_
    refine aw_if_eq (npc := 4) (tgt := 29) dX8_isUnder_1 rfl (by decide) (fun hc => absurd hc (by decide)) (fun _ => ?_)
    refine aw_iload_n (npc := 5) rfl dX8_isUnder_4 rfl ?_
    refine aw_iload_n (npc := 6) rfl dX8_isUnder_5 rfl ?_
    refine aw_icmp_eq (npc := 9) (tgt := 29) dX8_isUnder_6 rfl (by decide) (fun hc => absurd hc (by decide)) (fun _ => ?_)
    refine aw_iload_n (npc := 10) rfl dX8_isUnder_9 rfl ?_
    refine aw_iconst (npc := 11) (v := 1) (by decide) dX8_isUnder_10 rfl ?_
    refine aw_icmp_ne (npc := 14) (tgt := 19) dX8_isUnder_11 rfl (by decide) (fun _ => ?_) (fun hc => absurd hc (by decide))
    refine aw_iload_n (npc := 20) rfl dX8_isUnder_19 rfl ?_
    refine aw_iconst (npc := 21) (v := 2) (by decide) dX8_isUnder_20 rfl ?_
    refine aw_icmp_ne (npc := 24) (tgt := 33) dX8_isUnder_21 rfl (by decide) (fun hc => absurd (by decide) hc) (fun _ => ?_)
    refine aw_iload_n (npc := 25) rfl dX8_isUnder_24 rfl ?_
    refine aw_iconst (npc := 26) (v := 4) (by decide) dX8_isUnder_25 rfl ?_
    refine aw_icmp_ne (npc := 29) (tgt := 33) dX8_isUnder_26 rfl (by decide) (fun hc => absurd (by decide) hc) (fun _ => ?_)
    refine aw_iconst (npc := 30) (v := 1) (by decide) dX8_isUnder_29 rfl ?_
    refine aw_goto (npc := 34) dX8_isUnder_30 (by decide) ?_
    refine aw_zret rfl rfl dX8_isUnder_34 ?_
    exact (show (if undr k g then (1 : Int32) else 0) = 1 by rw [ek, eg]; decide) ▸ hq
  · refine aw_locs (L' := [some (.int 4), some (.int 3)]) (by rw [ek, eg]) ?_
    refine aw_iload_n (npc := 1) rfl dX8_isUnder_0 rfl ?_
    refine aw_if_eq (npc := 4) (tgt := 29) dX8_isUnder_1 rfl (by decide) (fun hc => absurd hc (by decide)) (fun _ => ?_)
    refine aw_iload_n (npc := 5) rfl dX8_isUnder_4 rfl ?_
    refine aw_iload_n (npc := 6) rfl dX8_isUnder_5 rfl ?_
    refine aw_icmp_eq (npc := 9) (tgt := 29) dX8_isUnder_6 rfl (by decide) (fun hc => absurd hc (by decide)) (fun _ => ?_)
    refine aw_iload_n (npc := 10) rfl dX8_isUnder_9 rfl ?_
    refine aw_iconst (npc := 11) (v := 1) (by decide) dX8_isUnder_10 rfl ?_
    refine aw_icmp_ne (npc := 14) (tgt := 19) dX8_isUnder_11 rfl (by decide) (fun _ => ?_) (fun hc => absurd hc (by decide))
    refine aw_iload_n (npc := 20) rfl dX8_isUnder_19 rfl ?_
    refine aw_iconst (npc := 21) (v := 2) (by decide) dX8_isUnder_20 rfl ?_
    refine aw_icmp_ne (npc := 24) (tgt := 33) dX8_isUnder_21 rfl (by decide) (fun _ => ?_) (fun hc => absurd hc (by decide))
    refine aw_iconst (npc := 34) (v := 0) (by decide) dX8_isUnder_33 rfl ?_
    refine aw_zret rfl rfl dX8_isUnder_34 ?_
    exact (show (if undr k g then (1 : Int32) else 0) = 0 by rw [ek, eg]; decide) ▸ hq
  · refine aw_locs (L' := [some (.int 4), some (.int 4)]) (by rw [ek, eg]) ?_
    refine aw_iload_n (npc := 1) rfl dX8_isUnder_0 rfl ?_
    refine aw_if_eq (npc := 4) (tgt := 29) dX8_isUnder_1 rfl (by decide) (fun hc => absurd hc (by decide)) (fun _ => ?_)
    refine aw_iload_n (npc := 5) rfl dX8_isUnder_4 rfl ?_
    refine aw_iload_n (npc := 6) rfl dX8_isUnder_5 rfl ?_
    refine aw_icmp_eq (npc := 9) (tgt := 29) dX8_isUnder_6 rfl (by decide) (fun _ => ?_) (fun hc => absurd (by decide) hc)
    refine aw_iconst (npc := 30) (v := 1) (by decide) dX8_isUnder_29 rfl ?_
    refine aw_goto (npc := 34) dX8_isUnder_30 (by decide) ?_
    refine aw_zret rfl rfl dX8_isUnder_34 ?_
    exact (show (if undr k g then (1 : Int32) else 0) = 1 by rw [ek, eg]; decide) ▸ hq
  · refine aw_locs (L' := [some (.int 4), some (.int 5)]) (by rw [ek, eg]) ?_
    refine aw_iload_n (npc := 1) rfl dX8_isUnder_0 rfl ?_
    refine aw_if_eq (npc := 4) (tgt := 29) dX8_isUnder_1 rfl (by decide) (fun hc => absurd hc (by decide)) (fun _ => ?_)
    refine aw_iload_n (npc := 5) rfl dX8_isUnder_4 rfl ?_
    refine aw_iload_n (npc := 6) rfl dX8_isUnder_5 rfl ?_
    refine aw_icmp_eq (npc := 9) (tgt := 29) dX8_isUnder_6 rfl (by decide) (fun hc => absurd hc (by decide)) (fun _ => ?_)
    refine aw_iload_n (npc := 10) rfl dX8_isUnder_9 rfl ?_
    refine aw_iconst (npc := 11) (v := 1) (by decide) dX8_isUnder_10 rfl ?_
    refine aw_icmp_ne (npc := 14) (tgt := 19) dX8_isUnder_11 rfl (by decide) (fun _ => ?_) (fun hc => absurd hc (by decide))
    refine aw_iload_n (npc := 20) rfl dX8_isUnder_19 rfl ?_
    refine aw_iconst (npc := 21) (v := 2) (by decide) dX8_isUnder_20 rfl ?_
    refine aw_icmp_ne (npc := 24) (tgt := 33) dX8_isUnder_21 rfl (by decide) (fun _ => ?_) (fun hc => absurd hc (by decide))
    refine aw_iconst (npc := 34) (v := 0) (by decide) dX8_isUnder_33 rfl ?_
    refine aw_zret rfl rfl dX8_isUnder_34 ?_
    exact (show (if undr k g then (1 : Int32) else 0) = 0 by rw [ek, eg]; decide) ▸ hq
  · refine aw_locs (L' := [some (.int 5), some (.int 0)]) (by rw [ek, eg]) ?_
    refine aw_iload_n (npc := 1) rfl dX8_isUnder_0 rfl ?_
    refine aw_if_eq (npc := 4) (tgt := 29) dX8_isUnder_1 rfl (by decide) (fun _ => ?_) (fun hc => absurd (by decide) hc)
    refine aw_iconst (npc := 30) (v := 1) (by decide) dX8_isUnder_29 rfl ?_
    refine aw_goto (npc := 34) dX8_isUnder_30 (by decide) ?_
    refine aw_zret rfl rfl dX8_isUnder_34 ?_
    exact (show (if undr k g then (1 : Int32) else 0) = 1 by rw [ek, eg]; decide) ▸ hq
  · refine aw_locs (L' := [some (.int 5), some (.int 1)]) (by rw [ek, eg]) ?_
    refine aw_iload_n (npc := 1) rfl dX8_isUnder_0 rfl ?_
    refine aw_if_eq (npc := 4) (tgt := 29) dX8_isUnder_1 rfl (by decide) (fun hc => absurd hc (by decide)) (fun _ => ?_)
    refine aw_iload_n (npc := 5) rfl dX8_isUnder_4 rfl ?_
    refine aw_iload_n (npc := 6) rfl dX8_isUnder_5 rfl ?_
    refine aw_icmp_eq (npc := 9) (tgt := 29) dX8_isUnder_6 rfl (by decide) (fun hc => absurd hc (by decide)) (fun _ => ?_)
    refine aw_iload_n (npc := 10) rfl dX8_isUnder_9 rfl ?_
    refine aw_iconst (npc := 11) (v := 1) (by decide) dX8_isUnder_10 rfl ?_
    refine aw_icmp_ne (npc := 14) (tgt := 19) dX8_isUnder_11 rfl (by decide) (fun hc => absurd (by decide) hc) (fun _ => ?_)
    refine aw_iload_n (npc := 15) rfl dX8_isUnder_14 rfl ?_
    refine aw_iconst (npc := 16) (v := 3) (by decide) dX8_isUnder_15 rfl ?_
    refine aw_icmp_eq (npc := 19) (tgt := 29) dX8_isUnder_16 rfl (by decide) (fun hc => absurd hc (by decide)) (fun _ => ?_)
    refine aw_iload_n (npc := 20) rfl dX8_isUnder_19 rfl ?_
    refine aw_iconst (npc := 21) (v := 2) (by decide) dX8_isUnder_20 rfl ?_
    refine aw_icmp_ne (npc := 24) (tgt := 33) dX8_isUnder_21 rfl (by decide) (fun _ => ?_) (fun hc => absurd hc (by decide))
    refine aw_iconst (npc := 34) (v := 0) (by decide) dX8_isUnder_33 rfl ?_
    refine aw_zret rfl rfl dX8_isUnder_34 ?_
    exact (show (if undr k g then (1 : Int32) else 0) = 0 by rw [ek, eg]; decide) ▸ hq
  · refine aw_locs (L' := [some (.int 5), some (.int 2)]) (by rw [ek, eg]) ?_
    refine aw_iload_n (npc := 1) rfl dX8_isUnder_0 rfl ?_
    refine aw_if_eq (npc := 4) (tgt := 29) dX8_isUnder_1 rfl (by decide) (fun hc => absurd hc (by decide)) (fun _ => ?_)
    refine aw_iload_n (npc := 5) rfl dX8_isUnder_4 rfl ?_
    refine aw_iload_n (npc := 6) rfl dX8_isUnder_5 rfl ?_
    refine aw_icmp_eq (npc := 9) (tgt := 29) dX8_isUnder_6 rfl (by decide) (fun hc => absurd hc (by decide)) (fun _ => ?_)
    refine aw_iload_n (npc := 10) rfl dX8_isUnder_9 rfl ?_
    refine aw_iconst (npc := 11) (v := 1) (by decide) dX8_isUnder_10 rfl ?_
    refine aw_icmp_ne (npc := 14) (tgt := 19) dX8_isUnder_11 rfl (by decide) (fun _ => ?_) (fun hc => absurd hc (by decide))
    refine aw_iload_n (npc := 20) rfl dX8_isUnder_19 rfl ?_
    refine aw_iconst (npc := 21) (v := 2) (by decide) dX8_isUnder_20 rfl ?_
    refine aw_icmp_ne (npc := 24) (tgt := 33) dX8_isUnder_21 rfl (by decide) (fun hc => absurd (by decide) hc) (fun _ => ?_)
    refine aw_iload_n (npc := 25) rfl dX8_isUnder_24 rfl ?_
    refine aw_iconst (npc := 26) (v := 4) (by decide) dX8_isUnder_25 rfl ?_
    refine aw_icmp_ne (npc := 29) (tgt := 33) dX8_isUnder_26 rfl (by decide) (fun _ => ?_) (fun hc => absurd hc (by decide))
    refine aw_iconst (npc := 34) (v := 0) (by decide) dX8_isUnder_33 rfl ?_
    refine aw_zret rfl rfl dX8_isUnder_34 ?_
    exact (show (if undr k g then (1 : Int32) else 0) = 0 by rw [ek, eg]; decide) ▸ hq
  · refine aw_locs (L' := [some (.int 5), some (.int 3)]) (by rw [ek, eg]) ?_
    refine aw_iload_n (npc := 1) rfl dX8_isUnder_0 rfl ?_
    refine aw_if_eq (npc := 4) (tgt := 29) dX8_isUnder_1 rfl (by decide) (fun hc => absurd hc (by decide)) (fun _ => ?_)
    refine aw_iload_n (npc := 5) rfl dX8_isUnder_4 rfl ?_
    refine aw_iload_n (npc := 6) rfl dX8_isUnder_5 rfl ?_
    refine aw_icmp_eq (npc := 9) (tgt := 29) dX8_isUnder_6 rfl (by decide) (fun hc => absurd hc (by decide)) (fun _ => ?_)
    refine aw_iload_n (npc := 10) rfl dX8_isUnder_9 rfl ?_
    refine aw_iconst (npc := 11) (v := 1) (by decide) dX8_isUnder_10 rfl ?_
    refine aw_icmp_ne (npc := 14) (tgt := 19) dX8_isUnder_11 rfl (by decide) (fun _ => ?_) (fun hc => absurd hc (by decide))
    refine aw_iload_n (npc := 20) rfl dX8_isUnder_19 rfl ?_
    refine aw_iconst (npc := 21) (v := 2) (by decide) dX8_isUnder_20 rfl ?_
    refine aw_icmp_ne (npc := 24) (tgt := 33) dX8_isUnder_21 rfl (by decide) (fun _ => ?_) (fun hc => absurd hc (by decide))
    refine aw_iconst (npc := 34) (v := 0) (by decide) dX8_isUnder_33 rfl ?_
    refine aw_zret rfl rfl dX8_isUnder_34 ?_
    exact (show (if undr k g then (1 : Int32) else 0) = 0 by rw [ek, eg]; decide) ▸ hq
  · refine aw_locs (L' := [some (.int 5), some (.int 4)]) (by rw [ek, eg]) ?_
    refine aw_iload_n (npc := 1) rfl dX8_isUnder_0 rfl ?_
    refine aw_if_eq (npc := 4) (tgt := 29) dX8_isUnder_1 rfl (by decide) (fun hc => absurd hc (by decide)) (fun _ => ?_)
    refine aw_iload_n (npc := 5) rfl dX8_isUnder_4 rfl ?_
    refine aw_iload_n (npc := 6) rfl dX8_isUnder_5 rfl ?_
    refine aw_icmp_eq (npc := 9) (tgt := 29) dX8_isUnder_6 rfl (by decide) (fun hc => absurd hc (by decide)) (fun _ => ?_)
    refine aw_iload_n (npc := 10) rfl dX8_isUnder_9 rfl ?_
    refine aw_iconst (npc := 11) (v := 1) (by decide) dX8_isUnder_10 rfl ?_
    refine aw_icmp_ne (npc := 14) (tgt := 19) dX8_isUnder_11 rfl (by decide) (fun _ => ?_) (fun hc => absurd hc (by decide))
    refine aw_iload_n (npc := 20) rfl dX8_isUnder_19 rfl ?_
    refine aw_iconst (npc := 21) (v := 2) (by decide) dX8_isUnder_20 rfl ?_
    refine aw_icmp_ne (npc := 24) (tgt := 33) dX8_isUnder_21 rfl (by decide) (fun _ => ?_) (fun hc => absurd hc (by decide))
    refine aw_iconst (npc := 34) (v := 0) (by decide) dX8_isUnder_33 rfl ?_
    refine aw_zret rfl rfl dX8_isUnder_34 ?_
    exact (show (if undr k g then (1 : Int32) else 0) = 0 by rw [ek, eg]; decide) ▸ hq
  · refine aw_locs (L' := [some (.int 5), some (.int 5)]) (by rw [ek, eg]) ?_
    refine aw_iload_n (npc := 1) rfl dX8_isUnder_0 rfl ?_
    refine aw_if_eq (npc := 4) (tgt := 29) dX8_isUnder_1 rfl (by decide) (fun hc => absurd hc (by decide)) (fun _ => ?_)
    refine aw_iload_n (npc := 5) rfl dX8_isUnder_4 rfl ?_
    refine aw_iload_n (npc := 6) rfl dX8_isUnder_5 rfl ?_
    refine aw_icmp_eq (npc := 9) (tgt := 29) dX8_isUnder_6 rfl (by decide) (fun _ => ?_) (fun hc => absurd (by decide) hc)
    refine aw_iconst (npc := 30) (v := 1) (by decide) dX8_isUnder_29 rfl ?_
    refine aw_goto (npc := 34) dX8_isUnder_30 (by decide) ?_
    refine aw_zret rfl rfl dX8_isUnder_34 ?_
    exact (show (if undr k g then (1 : Int32) else 0) = 1 by rw [ek, eg]; decide) ▸ hq
noncomputable def asV (N : Nat → Int32) (f k : Int32) : Int32 := cI (wi f 0 (N 1 - 1) ∧ wi k 0 5) (cI (undr (N (22 + 5 * fN f)) k = true) (N (24 + 5 * fN f)) (-1000000012)) (-1000000001)
set_option maxHeartbeats 4000000 in
set_option maxRecDepth 100000 in
theorem C_as {X : List Int32} {d rc rs n : Nat} {Q : am_Q} {h : am_H} {N : Nat → Int32} {tx : List Value} {lk mv : Nat → Int32} {ik wc : Int32} {fr c : Nat} {f : Int32} {k : Int32} (O : OB ik wc h) (F : QR 1 N tx lk mv h) (hR : RG N fr c) (hq : ∀ v9 N9 h9, v9 = asV N f k → N9 = N → QR 1 N9 tx lk mv h9 → am_fp (fun k => k < 1 ∨ 13 ≤ k) h9 h → Q (some (.int v9)) n h9) : AW X mX7_as (d + 12) rc rs 0 [some (.ref 0), some (.int f), some (.int k)] [] n h Q := by
  have h8r := hR.2.1
  have h14r := hR.2.2.2.1
  refine aw_aload_n (npc := 1) rfl dX7_as_0 rfl ?_
  refine aw_get (npc := 4) dX7_as_1 rfl kf_X7_10 O.1 rfl ?_
  refine aw_iload_n (npc := 5) rfl dX7_as_4 rfl ?_
  refine aw_callV (npc := 8) (N := mX0_isFriend) (b := 1) (mc := 0) (ms := 0) (A := [.int f]) (S := []) (L0 := [some (.ref 1), some (.int f)]) dX7_as_5 rfl km_X0_isFriend kk_X7_87 F.1 ⟨by decide, rfl⟩ rfl ⟨rfl, by decide⟩ rfl (Nat.le_of_ble_eq_true rfl) (Nat.zero_add _) (Nat.zero_add _) rfl ?_
  refine g_isFriend F (fun hw1 => ?_) (fun hw1 => ?_)
  · obtain ⟨fn, hfn, efn⟩ := wi_idx hR.1 (by have z := hR.2.1; omega) hw1
    subst efn
    have h8fn : fn < 8 := by have z := hR.2.1; omega
    have ffn : fN (nI fn) = fn := fN_nI (by omega)
    refine aw_re (S' := [.int 1]) rfl ?_
    refine aw_if_eq (npc := 11) (tgt := 18) dX7_as_8 rfl (by decide) (fun hc => absurd hc (by decide)) (fun _ => ?_)
    refine aw_iload_n (npc := 12) rfl dX7_as_11 rfl ?_
    refine aw_callS (npc := 15) (N := mX7_isKind) (mc := 0) (ms := 0) (A := [.int k]) (S := []) (L0 := [some (.int k)]) dX7_as_12 rfl km_X7_isKind kk_X7_67 rfl ⟨rfl, by decide⟩ rfl (Nat.le_of_ble_eq_true rfl) (Nat.zero_add _) (Nat.zero_add _) rfl ?_
    refine c_X7_isKind (fun hw2 => ?_) (fun hw2 => ?_)
    · refine aw_re (S' := [.int 1]) rfl ?_
      refine aw_if_ne (npc := 18) (tgt := 21) dX7_as_15 rfl (by decide) (fun _ => ?_) (fun hc => absurd hc (by decide))
      refine aw_aload_n (npc := 22) rfl dX7_as_21 rfl ?_
      refine aw_get (npc := 25) dX7_as_22 rfl kf_X7_10 O.1 rfl ?_
      refine aw_get (npc := 28) dX7_as_25 rfl kf_X7_90 F.1 rfl ?_
      refine aw_iload_n (npc := 29) rfl dX7_as_28 rfl ?_
      refine aw_iald (npc := 30) (x := N (22 + 5 * fn)) (j := fn) dX7_as_29 rfl F.2.2.2.2.1 (am_ix_nI (by omega)) (tl_at (by omega)) ?_
      refine aw_iload_n (npc := 31) rfl dX7_as_30 rfl ?_
      refine aw_callS (npc := 34) (N := mX7_isUnder) (mc := 0) (ms := 0) (A := [.int (N (22 + 5 * fn)), .int k]) (S := []) (L0 := [some (.int (N (22 + 5 * fn))), some (.int k), none, none]) dX7_as_31 rfl km_X7_isUnder kk_X7_119 rfl ⟨rfl, by decide⟩ rfl (Nat.le_of_ble_eq_true rfl) (Nat.zero_add _) (Nat.zero_add _) rfl ?_
      refine c_X7_isUnder (hR.2.2.2.2.1 fn (by omega)).1 hw2 ?_
      by_cases hu3 : undr (N (22 + 5 * fn)) k = true
      · refine aw_re (S' := [.int (if undr (N (22 + 5 * fn)) k then 1 else 0)]) rfl ?_
        refine aw_top (y := 1) (if_pos hu3) ?_
        refine aw_if_eq (npc := 37) (tgt := 49) dX7_as_34 rfl (by decide) (fun hc => absurd hc (by decide)) (fun _ => ?_)
        refine aw_aload_n (npc := 38) rfl dX7_as_37 rfl ?_
        refine aw_get (npc := 41) dX7_as_38 rfl kf_X7_10 O.1 rfl ?_
        refine aw_get (npc := 44) dX7_as_41 rfl kf_X7_96 F.1 rfl ?_
        refine aw_iload_n (npc := 45) rfl dX7_as_44 rfl ?_
        refine aw_iald (npc := 46) (x := N (24 + 5 * fn)) (j := fn) dX7_as_45 rfl F.2.2.2.2.2.2.1 (am_ix_nI (by omega)) (tl_at (by omega)) ?_
        refine aw_goto (npc := 51) dX7_as_46 (by decide) ?_
        refine aw_iret rfl dX7_as_51 ?_
        exact hq _ _ _ (by simp [asV, cI, hw1, hw2, hu3, ffn]) (by rfl) F am_fp0
      · refine aw_re (S' := [.int (if undr (N (22 + 5 * fn)) k then 1 else 0)]) rfl ?_
        refine aw_top (y := 0) (if_neg hu3) ?_
        refine aw_if_eq (npc := 37) (tgt := 49) dX7_as_34 rfl (by decide) (fun _ => ?_) (fun hc => absurd (by decide) hc)
        refine aw_ldc (npc := 51) kc_X7_123 dX7_as_49 rfl ?_
        refine aw_iret rfl dX7_as_51 ?_
        exact hq _ _ _ (by simp [asV, cI, hw1, hw2, hu3, ffn]) (by rfl) F am_fp0
    · refine aw_re (S' := [.int 0]) rfl ?_
      refine aw_if_ne (npc := 18) (tgt := 21) dX7_as_15 rfl (by decide) (fun hc => absurd (by decide) hc) (fun _ => ?_)
      refine aw_ldc (npc := 20) kc_X7_78 dX7_as_18 rfl ?_
      refine aw_iret rfl dX7_as_20 ?_
      exact hq _ _ _ (by simp [asV, cI, hw1, hw2, ffn]) (by rfl) F am_fp0
  · refine aw_re (S' := [.int 0]) rfl ?_
    refine aw_if_eq (npc := 11) (tgt := 18) dX7_as_8 rfl (by decide) (fun _ => ?_) (fun hc => absurd (by decide) hc)
    refine aw_ldc (npc := 20) kc_X7_78 dX7_as_18 rfl ?_
    refine aw_iret rfl dX7_as_20 ?_
    exact hq _ _ _ (by simp [asV, cI, hw1]) (by rfl) F am_fp0
set_option maxHeartbeats 4000000 in
set_option maxRecDepth 100000 in
theorem M_as {X : List Int32} {d rc rs n : Nat} {Q : am_Q} {h : am_H} {o N : Nat → Int32} {a : Nat → Nat → Int32} {fr c : Nat} {f : Int32} {k : Int32} (F : MR o N a h) (hR : RG N fr c) (hq : ∀ v9 N9 h9, v9 = asV N f k → N9 = N → MR o N9 a h9 → am_fp (fun k => k < 69 ∨ 92 ≤ k) h9 h → Q (some (.int v9)) n h9) : AW X mX8_as (d + 12) rc rs 0 [some (.ref 69), some (.int f), some (.int k)] [] n h Q := by
  have h8r := hR.2.1
  have h14r := hR.2.2.2.1
  refine aw_aload_n (npc := 1) rfl dX8_as_0 rfl ?_
  refine aw_iload_n (npc := 2) rfl dX8_as_1 rfl ?_
  refine aw_callV (npc := 5) (N := mX8_isFriend) (b := 69) (mc := 0) (ms := 0) (A := [.int f]) (S := []) (L0 := [some (.ref 69), some (.int f)]) dX8_as_2 rfl km_X8_isFriend kk_X8_114 F.1 ⟨by decide, rfl⟩ rfl ⟨rfl, by decide⟩ rfl (Nat.le_of_ble_eq_true rfl) (Nat.zero_add _) (Nat.zero_add _) rfl ?_
  refine m_isFriend F (fun hw1 => ?_) (fun hw1 => ?_)
  · obtain ⟨fn, hfn, efn⟩ := wi_idx hR.1 (by have z := hR.2.1; omega) hw1
    subst efn
    have h8fn : fn < 8 := by have z := hR.2.1; omega
    have ffn : fN (nI fn) = fn := fN_nI (by omega)
    refine aw_re (S' := [.int 1]) rfl ?_
    refine aw_if_eq (npc := 8) (tgt := 17) dX8_as_5 rfl (by decide) (fun hc => absurd hc (by decide)) (fun _ => ?_)
    refine aw_iload_n (npc := 9) rfl dX8_as_8 rfl ?_
    refine aw_iconst (npc := 10) (v := 0) (by decide) dX8_as_9 rfl ?_
    refine aw_iconst (npc := 11) (v := 5) (by decide) dX8_as_10 rfl ?_
    refine aw_callS (npc := 14) (N := mX8_in) (mc := 0) (ms := 0) (A := [.int k, .int 0, .int 5]) (S := []) (L0 := [some (.int k), some (.int 0), some (.int 5)]) dX8_as_11 rfl km_X8_in kk_X8_83 rfl ⟨rfl, by decide⟩ rfl (Nat.le_of_ble_eq_true rfl) (Nat.zero_add _) (Nat.zero_add _) rfl ?_
    refine c_X8_in (fun hw2 => ?_) (fun hw2 => ?_)
    · refine aw_re (S' := [.int 1]) rfl ?_
      refine aw_if_ne (npc := 17) (tgt := 20) dX8_as_14 rfl (by decide) (fun _ => ?_) (fun hc => absurd hc (by decide))
      refine aw_aload_n (npc := 21) rfl dX8_as_20 rfl ?_
      refine aw_iload_n (npc := 22) rfl dX8_as_21 rfl ?_
      refine aw_iconst (npc := 23) (v := 0) (by decide) dX8_as_22 rfl ?_
      refine aw_callV (npc := 26) (N := mX8_of) (b := 69) (mc := 0) (ms := 0) (A := [.int (nI fn), .int 0]) (S := []) (L0 := [some (.ref 69), some (.int (nI fn)), some (.int 0)]) dX8_as_23 rfl km_X8_of kk_X8_101 F.1 ⟨by decide, rfl⟩ rfl ⟨rfl, by decide⟩ rfl (Nat.le_of_ble_eq_true rfl) (Nat.zero_add _) (Nat.zero_add _) rfl ?_
      refine m_of0 (f := fn) F (by omega) ?_
      refine aw_re (S' := [.int (N (22 + 5 * fn))]) rfl ?_
      refine aw_iload_n (npc := 27) rfl dX8_as_26 rfl ?_
      refine aw_callS (npc := 30) (N := mX8_isUnder) (mc := 0) (ms := 0) (A := [.int (N (22 + 5 * fn)), .int k]) (S := []) (L0 := [some (.int (N (22 + 5 * fn))), some (.int k)]) dX8_as_27 rfl km_X8_isUnder kk_X8_130 rfl ⟨rfl, by decide⟩ rfl (Nat.le_of_ble_eq_true rfl) (Nat.zero_add _) (Nat.zero_add _) rfl ?_
      refine c_X8_isUnder (hR.2.2.2.2.1 fn (by omega)).1 hw2 ?_
      by_cases hu3 : undr (N (22 + 5 * fn)) k = true
      · refine aw_re (S' := [.int (if undr (N (22 + 5 * fn)) k then 1 else 0)]) rfl ?_
        refine aw_top (y := 1) (if_pos hu3) ?_
        refine aw_if_eq (npc := 33) (tgt := 42) dX8_as_30 rfl (by decide) (fun hc => absurd hc (by decide)) (fun _ => ?_)
        refine aw_aload_n (npc := 34) rfl dX8_as_33 rfl ?_
        refine aw_iload_n (npc := 35) rfl dX8_as_34 rfl ?_
        refine aw_iconst (npc := 36) (v := 2) (by decide) dX8_as_35 rfl ?_
        refine aw_callV (npc := 39) (N := mX8_of) (b := 69) (mc := 0) (ms := 0) (A := [.int (nI fn), .int 2]) (S := []) (L0 := [some (.ref 69), some (.int (nI fn)), some (.int 2)]) dX8_as_36 rfl km_X8_of kk_X8_101 F.1 ⟨by decide, rfl⟩ rfl ⟨rfl, by decide⟩ rfl (Nat.le_of_ble_eq_true rfl) (Nat.zero_add _) (Nat.zero_add _) rfl ?_
        refine m_of2 (f := fn) F (by omega) ?_
        refine aw_re (S' := [.int (N (24 + 5 * fn))]) rfl ?_
        refine aw_goto (npc := 44) dX8_as_39 (by decide) ?_
        refine aw_iret rfl dX8_as_44 ?_
        exact hq _ _ _ (by simp [asV, cI, hw1, hw2, hu3, ffn]) (by rfl) F am_fp0
      · refine aw_re (S' := [.int (if undr (N (22 + 5 * fn)) k then 1 else 0)]) rfl ?_
        refine aw_top (y := 0) (if_neg hu3) ?_
        refine aw_if_eq (npc := 33) (tgt := 42) dX8_as_30 rfl (by decide) (fun _ => ?_) (fun hc => absurd (by decide) hc)
        refine aw_ldc (npc := 44) kc_X8_134 dX8_as_42 rfl ?_
        refine aw_iret rfl dX8_as_44 ?_
        exact hq _ _ _ (by simp [asV, cI, hw1, hw2, hu3, ffn]) (by rfl) F am_fp0
    · refine aw_re (S' := [.int 0]) rfl ?_
      refine aw_if_ne (npc := 17) (tgt := 20) dX8_as_14 rfl (by decide) (fun hc => absurd (by decide) hc) (fun _ => ?_)
      refine aw_ldc (npc := 19) kc_X8_91 dX8_as_17 rfl ?_
      refine aw_iret rfl dX8_as_19 ?_
      exact hq _ _ _ (by simp [asV, cI, hw1, hw2, ffn]) (by rfl) F am_fp0
  · refine aw_re (S' := [.int 0]) rfl ?_
    refine aw_if_eq (npc := 8) (tgt := 17) dX8_as_5 rfl (by decide) (fun _ => ?_) (fun hc => absurd (by decide) hc)
    refine aw_ldc (npc := 19) kc_X8_91 dX8_as_17 rfl ?_
    refine aw_iret rfl dX8_as_19 ?_
    exact hq _ _ _ (by simp [asV, cI, hw1]) (by rfl) F am_fp0
noncomputable def tuV (N : Nat → Int32) (f k : Int32) : Int32 := cI (wi f 0 (N 1 - 1) ∧ wi k 0 5) (N (22 + 5 * fN f)) (-1000000001)
noncomputable def tuN (N : Nat → Int32) (f k : Int32) : Nat → Int32 := cI (wi f 0 (N 1 - 1) ∧ wi k 0 5) (upd N (22 + 5 * fN f) k) N
set_option maxHeartbeats 4000000 in
set_option maxRecDepth 100000 in
theorem C_turns {X : List Int32} {d rc rs n : Nat} {Q : am_Q} {h : am_H} {N : Nat → Int32} {tx : List Value} {lk mv : Nat → Int32} {ik wc : Int32} {fr c : Nat} {f : Int32} {k : Int32} (O : OB ik wc h) (F : QR 1 N tx lk mv h) (hR : RG N fr c) (hq : ∀ v9 N9 h9, v9 = tuV N f k → N9 = tuN N f k → QR 1 N9 tx lk mv h9 → am_fp (fun k => k < 1 ∨ 13 ≤ k) h9 h → Q (some (.int v9)) n h9) : AW X mX7_turns (d + 12) rc rs 0 [some (.ref 0), some (.int f), some (.int k), none] [] n h Q := by
  have h8r := hR.2.1
  have h14r := hR.2.2.2.1
  refine aw_aload_n (npc := 1) rfl dX7_turns_0 rfl ?_
  refine aw_get (npc := 4) dX7_turns_1 rfl kf_X7_10 O.1 rfl ?_
  refine aw_iload_n (npc := 5) rfl dX7_turns_4 rfl ?_
  refine aw_callV (npc := 8) (N := mX0_isFriend) (b := 1) (mc := 0) (ms := 0) (A := [.int f]) (S := []) (L0 := [some (.ref 1), some (.int f)]) dX7_turns_5 rfl km_X0_isFriend kk_X7_87 F.1 ⟨by decide, rfl⟩ rfl ⟨rfl, by decide⟩ rfl (Nat.le_of_ble_eq_true rfl) (Nat.zero_add _) (Nat.zero_add _) rfl ?_
  refine g_isFriend F (fun hw1 => ?_) (fun hw1 => ?_)
  · obtain ⟨fn, hfn, efn⟩ := wi_idx hR.1 (by have z := hR.2.1; omega) hw1
    subst efn
    have h8fn : fn < 8 := by have z := hR.2.1; omega
    have ffn : fN (nI fn) = fn := fN_nI (by omega)
    refine aw_re (S' := [.int 1]) rfl ?_
    refine aw_if_eq (npc := 11) (tgt := 18) dX7_turns_8 rfl (by decide) (fun hc => absurd hc (by decide)) (fun _ => ?_)
    refine aw_iload_n (npc := 12) rfl dX7_turns_11 rfl ?_
    refine aw_callS (npc := 15) (N := mX7_isKind) (mc := 0) (ms := 0) (A := [.int k]) (S := []) (L0 := [some (.int k)]) dX7_turns_12 rfl km_X7_isKind kk_X7_67 rfl ⟨rfl, by decide⟩ rfl (Nat.le_of_ble_eq_true rfl) (Nat.zero_add _) (Nat.zero_add _) rfl ?_
    refine c_X7_isKind (fun hw2 => ?_) (fun hw2 => ?_)
    · refine aw_re (S' := [.int 1]) rfl ?_
      refine aw_if_ne (npc := 18) (tgt := 21) dX7_turns_15 rfl (by decide) (fun _ => ?_) (fun hc => absurd hc (by decide))
      refine aw_aload_n (npc := 22) rfl dX7_turns_21 rfl ?_
      refine aw_get (npc := 25) dX7_turns_22 rfl kf_X7_10 O.1 rfl ?_
      refine aw_get (npc := 28) dX7_turns_25 rfl kf_X7_90 F.1 rfl ?_
      refine aw_iload_n (npc := 29) rfl dX7_turns_28 rfl ?_
      refine aw_iald (npc := 30) (x := N (22 + 5 * fn)) (j := fn) dX7_turns_29 rfl F.2.2.2.2.1 (am_ix_nI (by omega)) (tl_at (by omega)) ?_
      refine aw_istore_n (npc := 31) (L' := [some (.ref 0), some (.int (nI fn)), some (.int k), some (.int (N (22 + 5 * fn)))]) dX7_turns_30 rfl (by decide) rfl rfl ?_
      refine aw_aload_n (npc := 32) rfl dX7_turns_31 rfl ?_
      refine aw_get (npc := 35) dX7_turns_32 rfl kf_X7_10 O.1 rfl ?_
      refine aw_get (npc := 38) dX7_turns_35 rfl kf_X7_90 F.1 rfl ?_
      refine aw_iload_n (npc := 39) rfl dX7_turns_38 rfl ?_
      refine aw_iload_n (npc := 40) rfl dX7_turns_39 rfl ?_
      refine aw_iast (npc := 41) (j := fn) dX7_turns_40 rfl F.2.2.2.2.1 (am_ix_nI (by omega)) (by rw [tl_len]; omega) rfl ?_
      have F3 := qr_kind (j := fn) (v := k) F (by omega)
      have O4 := ob_out (a := 5) (c := .inl (0, (tl 8 (fun z9 => N (22 + 5 * z9))).set fn k)) (by omega) O
      refine aw_iload_n (npc := 42) rfl dX7_turns_41 rfl ?_
      refine aw_iret rfl dX7_turns_42 ?_
      exact hq _ _ _ (by simp [tuV, tuN, cI, hw1, hw2, ffn]) (by simp [tuV, tuN, cI, hw1, hw2, ffn]) F3 (am_fpU (show ¬ (5 < 1 ∨ 13 ≤ 5) by omega) am_fp0)
    · refine aw_re (S' := [.int 0]) rfl ?_
      refine aw_if_ne (npc := 18) (tgt := 21) dX7_turns_15 rfl (by decide) (fun hc => absurd (by decide) hc) (fun _ => ?_)
      refine aw_ldc (npc := 20) kc_X7_78 dX7_turns_18 rfl ?_
      refine aw_iret rfl dX7_turns_20 ?_
      exact hq _ _ _ (by simp [tuV, tuN, cI, hw1, hw2, ffn]) (by simp [tuV, tuN, cI, hw1, hw2, ffn]) F am_fp0
  · refine aw_re (S' := [.int 0]) rfl ?_
    refine aw_if_eq (npc := 11) (tgt := 18) dX7_turns_8 rfl (by decide) (fun _ => ?_) (fun hc => absurd (by decide) hc)
    refine aw_ldc (npc := 20) kc_X7_78 dX7_turns_18 rfl ?_
    refine aw_iret rfl dX7_turns_20 ?_
    exact hq _ _ _ (by simp [tuV, tuN, cI, hw1]) (by simp [tuV, tuN, cI, hw1]) F am_fp0
set_option maxHeartbeats 4000000 in
set_option maxRecDepth 100000 in
theorem M_turns {X : List Int32} {d rc rs n : Nat} {Q : am_Q} {h : am_H} {o N : Nat → Int32} {a : Nat → Nat → Int32} {fr c : Nat} {f : Int32} {k : Int32} (F : MR o N a h) (hR : RG N fr c) (hq : ∀ v9 N9 h9, v9 = tuV N f k → N9 = tuN N f k → MR o N9 a h9 → am_fp (fun k => k < 69 ∨ 92 ≤ k) h9 h → Q (some (.int v9)) n h9) : AW X mX8_turns (d + 12) rc rs 0 [some (.ref 69), some (.int f), some (.int k)] [] n h Q := by
  have h8r := hR.2.1
  have h14r := hR.2.2.2.1
  refine aw_aload_n (npc := 1) rfl dX8_turns_0 rfl ?_
  refine aw_iload_n (npc := 2) rfl dX8_turns_1 rfl ?_
  refine aw_callV (npc := 5) (N := mX8_isFriend) (b := 69) (mc := 0) (ms := 0) (A := [.int f]) (S := []) (L0 := [some (.ref 69), some (.int f)]) dX8_turns_2 rfl km_X8_isFriend kk_X8_114 F.1 ⟨by decide, rfl⟩ rfl ⟨rfl, by decide⟩ rfl (Nat.le_of_ble_eq_true rfl) (Nat.zero_add _) (Nat.zero_add _) rfl ?_
  refine m_isFriend F (fun hw1 => ?_) (fun hw1 => ?_)
  · obtain ⟨fn, hfn, efn⟩ := wi_idx hR.1 (by have z := hR.2.1; omega) hw1
    subst efn
    have h8fn : fn < 8 := by have z := hR.2.1; omega
    have ffn : fN (nI fn) = fn := fN_nI (by omega)
    refine aw_re (S' := [.int 1]) rfl ?_
    refine aw_if_eq (npc := 8) (tgt := 31) dX8_turns_5 rfl (by decide) (fun hc => absurd hc (by decide)) (fun _ => ?_)
    refine aw_iload_n (npc := 9) rfl dX8_turns_8 rfl ?_
    refine aw_iconst (npc := 10) (v := 0) (by decide) dX8_turns_9 rfl ?_
    refine aw_iconst (npc := 11) (v := 5) (by decide) dX8_turns_10 rfl ?_
    refine aw_callS (npc := 14) (N := mX8_in) (mc := 0) (ms := 0) (A := [.int k, .int 0, .int 5]) (S := []) (L0 := [some (.int k), some (.int 0), some (.int 5)]) dX8_turns_11 rfl km_X8_in kk_X8_83 rfl ⟨rfl, by decide⟩ rfl (Nat.le_of_ble_eq_true rfl) (Nat.zero_add _) (Nat.zero_add _) rfl ?_
    refine c_X8_in (fun hw2 => ?_) (fun hw2 => ?_)
    · refine aw_re (S' := [.int 1]) rfl ?_
      refine aw_if_eq (npc := 17) (tgt := 31) dX8_turns_14 rfl (by decide) (fun hc => absurd hc (by decide)) (fun _ => ?_)
      refine aw_aload_n (npc := 18) rfl dX8_turns_17 rfl ?_
      refine aw_bipush (npc := 20) (v := 22) (by decide) dX8_turns_18 rfl ?_
      refine aw_iconst (npc := 21) (v := 5) (by decide) dX8_turns_20 rfl ?_
      refine aw_iload_n (npc := 22) rfl dX8_turns_21 rfl ?_
      refine aw_imulV (npc := 23) (v := nI (5 * fn)) dX8_turns_22 rfl (pk_mul 5 _) ?_
      refine aw_iaddV (npc := 24) (v := nI (22 + (5 * fn))) dX8_turns_23 rfl (nI_add 22 _) ?_
      refine aw_iload_n (npc := 25) rfl dX8_turns_24 rfl ?_
      refine aw_callV (npc := 28) (N := mX8_becomes) (b := 69) (mc := 0) (ms := 0) (A := [.int (nI (22 + (5 * fn))), .int k]) (S := []) (L0 := [some (.ref 69), some (.int (nI (22 + (5 * fn)))), some (.int k), none]) dX8_turns_25 rfl km_X8_becomes kk_X8_135 F.1 ⟨by decide, rfl⟩ rfl ⟨rfl, by decide⟩ rfl (Nat.le_of_ble_eq_true rfl) (Nat.zero_add _) (Nat.zero_add _) rfl ?_
      refine m_becomes (j := (22 + (5 * fn))) (v := k) F (by omega) (fun hp5 F3 fb4 => ?_)
      refine aw_re (S' := [.int (N (22 + (5 * fn)))]) rfl ?_
      refine aw_goto (npc := 33) dX8_turns_28 (by decide) ?_
      refine aw_iret rfl dX8_turns_33 ?_
      exact hq _ _ _ (by simp [tuV, tuN, cI, hw1, hw2, ffn]) (by simp [tuV, tuN, cI, hw1, hw2, ffn]) F3 (am_fpT (fun k (hk : k < 69 ∨ 92 ≤ k) => fb4 k (by omega)) am_fp0)
    · refine aw_re (S' := [.int 0]) rfl ?_
      refine aw_if_eq (npc := 17) (tgt := 31) dX8_turns_14 rfl (by decide) (fun _ => ?_) (fun hc => absurd (by decide) hc)
      refine aw_ldc (npc := 33) kc_X8_91 dX8_turns_31 rfl ?_
      refine aw_iret rfl dX8_turns_33 ?_
      exact hq _ _ _ (by simp [tuV, tuN, cI, hw1, hw2, ffn]) (by simp [tuV, tuN, cI, hw1, hw2, ffn]) F am_fp0
  · refine aw_re (S' := [.int 0]) rfl ?_
    refine aw_if_eq (npc := 8) (tgt := 31) dX8_turns_5 rfl (by decide) (fun _ => ?_) (fun hc => absurd (by decide) hc)
    refine aw_ldc (npc := 33) kc_X8_91 dX8_turns_31 rfl ?_
    refine aw_iret rfl dX8_turns_33 ?_
    exact hq _ _ _ (by simp [tuV, tuN, cI, hw1]) (by simp [tuV, tuN, cI, hw1]) F am_fp0
noncomputable def seV (N : Nat → Int32) (f w v : Int32) : Int32 := cI (wi f 0 (N 1 - 1)) (cI (w = 1) (cI (wi v 0 1) (N (23 + 5 * fN f)) (-1000000001)) (cI (w = 2) (cI (wi v 0 99) (N (24 + 5 * fN f)) (-1000000001)) (-1000000001))) (-1000000001)
noncomputable def seN (N : Nat → Int32) (f w v : Int32) : Nat → Int32 := cI (wi f 0 (N 1 - 1)) (cI (w = 1) (cI (wi v 0 1) (upd N (23 + 5 * fN f) v) N) (cI (w = 2) (cI (wi v 0 99) (upd N (24 + 5 * fN f) v) N) N)) N
theorem wi_c1_2 {x : Int32} (h : wi x 1 2) : x = 1 ∨ x = 2 := by
  have h1 : ¬ x.toInt < 1 := fun q => h.1 (Int32.lt_iff_toInt_lt.mpr (by simpa using q))
  have h2 : ¬ 2 < x.toInt := fun q => h.2 (Int32.lt_iff_toInt_lt.mpr (by simpa using q))
  rcases (show x.toInt = 1 ∨ x.toInt = 2 by omega) with q | q
  · exact Or.inl (Int32.toInt_inj.mp (by rw [q]; rfl))
  · exact Or.inr (Int32.toInt_inj.mp (by rw [q]; rfl))
theorem nwi_1 {x lo hi k : Int32} (h : ¬ wi x lo hi) (hk : ¬ k < lo ∧ ¬ hi < k) : ¬ x = k := fun e => h (e ▸ hk)
set_option maxHeartbeats 4000000 in
set_option maxRecDepth 100000 in
theorem C_set {X : List Int32} {d rc rs n : Nat} {Q : am_Q} {h : am_H} {N : Nat → Int32} {tx : List Value} {lk mv : Nat → Int32} {ik wc : Int32} {fr c : Nat} {f : Int32} {w : Int32} {v : Int32} (O : OB ik wc h) (F : QR 1 N tx lk mv h) (hR : RG N fr c) (hq : ∀ v9 N9 h9, v9 = seV N f w v → N9 = seN N f w v → QR 1 N9 tx lk mv h9 → am_fp (fun k => k < 1 ∨ 13 ≤ k) h9 h → Q (some (.int v9)) n h9) : AW X mX7_set (d + 12) rc rs 0 [some (.ref 0), some (.int f), some (.int w), some (.int v), none] [] n h Q := by
  have h8r := hR.2.1
  have h14r := hR.2.2.2.1
  refine aw_aload_n (npc := 1) rfl dX7_set_0 rfl ?_
  refine aw_get (npc := 4) dX7_set_1 rfl kf_X7_10 O.1 rfl ?_
  refine aw_iload_n (npc := 5) rfl dX7_set_4 rfl ?_
  refine aw_callV (npc := 8) (N := mX0_isFriend) (b := 1) (mc := 0) (ms := 0) (A := [.int f]) (S := []) (L0 := [some (.ref 1), some (.int f)]) dX7_set_5 rfl km_X0_isFriend kk_X7_87 F.1 ⟨by decide, rfl⟩ rfl ⟨rfl, by decide⟩ rfl (Nat.le_of_ble_eq_true rfl) (Nat.zero_add _) (Nat.zero_add _) rfl ?_
  refine g_isFriend F (fun hw1 => ?_) (fun hw1 => ?_)
  · obtain ⟨fn, hfn, efn⟩ := wi_idx hR.1 (by have z := hR.2.1; omega) hw1
    subst efn
    have h8fn : fn < 8 := by have z := hR.2.1; omega
    have ffn : fN (nI fn) = fn := fN_nI (by omega)
    refine aw_re (S' := [.int 1]) rfl ?_
    refine aw_if_ne (npc := 11) (tgt := 14) dX7_set_8 rfl (by decide) (fun _ => ?_) (fun hc => absurd hc (by decide))
    refine aw_iload_n (npc := 15) rfl dX7_set_14 rfl ?_
    refine aw_iconst (npc := 16) (v := 1) (by decide) dX7_set_15 rfl ?_
    refine aw_icmp_ne (npc := 19) (tgt := 50) dX7_set_16 rfl (by decide) (fun hc2 => ?_) (fun hc2 => ?_)
    · refine aw_iload_n (npc := 51) rfl dX7_set_50 rfl ?_
      refine aw_iconst (npc := 52) (v := 2) (by decide) dX7_set_51 rfl ?_
      refine aw_icmp_ne (npc := 55) (tgt := 89) dX7_set_52 rfl (by decide) (fun hc3 => ?_) (fun hc3 => ?_)
      · refine aw_ldc (npc := 91) kc_X7_78 dX7_set_89 rfl ?_
        refine aw_iret rfl dX7_set_91 ?_
        exact hq _ _ _ (by simp [seV, seN, cI, hw1, hc2, hc3, ffn]) (by simp [seV, seN, cI, hw1, hc2, hc3, ffn]) F am_fp0
      · subst hc3
        refine aw_iload_n (npc := 56) rfl dX7_set_55 rfl ?_
        refine aw_iconst (npc := 57) (v := 0) (by decide) dX7_set_56 rfl ?_
        refine aw_bipush (npc := 59) (v := 99) (by decide) dX7_set_57 rfl ?_
        refine aw_callS (npc := 62) (N := mX7_within) (mc := 0) (ms := 0) (A := [.int v, .int 0, .int 99]) (S := []) (L0 := [some (.int v), some (.int 0), some (.int 99)]) dX7_set_59 rfl km_X7_within kk_X7_74 rfl ⟨rfl, by decide⟩ rfl (Nat.le_of_ble_eq_true rfl) (Nat.zero_add _) (Nat.zero_add _) rfl ?_
        refine c_X7_within (fun hw4 => ?_) (fun hw4 => ?_)
        · refine aw_re (S' := [.int 1]) rfl ?_
          refine aw_if_eq (npc := 65) (tgt := 89) dX7_set_62 rfl (by decide) (fun hc => absurd hc (by decide)) (fun _ => ?_)
          refine aw_aload_n (npc := 66) rfl dX7_set_65 rfl ?_
          refine aw_get (npc := 69) dX7_set_66 rfl kf_X7_10 O.1 rfl ?_
          refine aw_get (npc := 72) dX7_set_69 rfl kf_X7_96 F.1 rfl ?_
          refine aw_iload_n (npc := 73) rfl dX7_set_72 rfl ?_
          refine aw_iald (npc := 74) (x := N (24 + 5 * fn)) (j := fn) dX7_set_73 rfl F.2.2.2.2.2.2.1 (am_ix_nI (by omega)) (tl_at (by omega)) ?_
          refine aw_istore (npc := 76) (L' := [some (.ref 0), some (.int (nI fn)), some (.int 2), some (.int v), some (.int (N (24 + 5 * fn)))]) dX7_set_74 rfl (by decide) rfl rfl ?_
          refine aw_aload_n (npc := 77) rfl dX7_set_76 rfl ?_
          refine aw_get (npc := 80) dX7_set_77 rfl kf_X7_10 O.1 rfl ?_
          refine aw_get (npc := 83) dX7_set_80 rfl kf_X7_96 F.1 rfl ?_
          refine aw_iload_n (npc := 84) rfl dX7_set_83 rfl ?_
          refine aw_iload_n (npc := 85) rfl dX7_set_84 rfl ?_
          refine aw_iast (npc := 86) (j := fn) dX7_set_85 rfl F.2.2.2.2.2.2.1 (am_ix_nI (by omega)) (by rw [tl_len]; omega) rfl ?_
          have F5 := qr_pride (j := fn) (v := v) F (by omega)
          have O6 := ob_out (a := 7) (c := .inl (0, (tl 8 (fun z9 => N (24 + 5 * z9))).set fn v)) (by omega) O
          refine aw_iload (npc := 88) rfl dX7_set_86 rfl ?_
          refine aw_iret rfl dX7_set_88 ?_
          exact hq _ _ _ (by simp [seV, seN, cI, hw1, hc2, hw4, ffn]) (by simp [seV, seN, cI, hw1, hc2, hw4, ffn]) F5 (am_fpU (show ¬ (7 < 1 ∨ 13 ≤ 7) by omega) am_fp0)
        · refine aw_re (S' := [.int 0]) rfl ?_
          refine aw_if_eq (npc := 65) (tgt := 89) dX7_set_62 rfl (by decide) (fun _ => ?_) (fun hc => absurd (by decide) hc)
          refine aw_ldc (npc := 91) kc_X7_78 dX7_set_89 rfl ?_
          refine aw_iret rfl dX7_set_91 ?_
          exact hq _ _ _ (by simp [seV, seN, cI, hw1, hc2, hw4, ffn]) (by simp [seV, seN, cI, hw1, hc2, hw4, ffn]) F am_fp0
    · subst hc2
      refine aw_iload_n (npc := 20) rfl dX7_set_19 rfl ?_
      refine aw_callS (npc := 23) (N := mX7_isSide) (mc := 0) (ms := 0) (A := [.int v]) (S := []) (L0 := [some (.int v)]) dX7_set_20 rfl km_X7_isSide kk_X7_71 rfl ⟨rfl, by decide⟩ rfl (Nat.le_of_ble_eq_true rfl) (Nat.zero_add _) (Nat.zero_add _) rfl ?_
      refine c_X7_isSide (fun hw7 => ?_) (fun hw7 => ?_)
      · refine aw_re (S' := [.int 1]) rfl ?_
        refine aw_if_eq (npc := 26) (tgt := 50) dX7_set_23 rfl (by decide) (fun hc => absurd hc (by decide)) (fun _ => ?_)
        refine aw_aload_n (npc := 27) rfl dX7_set_26 rfl ?_
        refine aw_get (npc := 30) dX7_set_27 rfl kf_X7_10 O.1 rfl ?_
        refine aw_get (npc := 33) dX7_set_30 rfl kf_X7_93 F.1 rfl ?_
        refine aw_iload_n (npc := 34) rfl dX7_set_33 rfl ?_
        refine aw_iald (npc := 35) (x := N (23 + 5 * fn)) (j := fn) dX7_set_34 rfl F.2.2.2.2.2.1 (am_ix_nI (by omega)) (tl_at (by omega)) ?_
        refine aw_istore (npc := 37) (L' := [some (.ref 0), some (.int (nI fn)), some (.int 1), some (.int v), some (.int (N (23 + 5 * fn)))]) dX7_set_35 rfl (by decide) rfl rfl ?_
        refine aw_aload_n (npc := 38) rfl dX7_set_37 rfl ?_
        refine aw_get (npc := 41) dX7_set_38 rfl kf_X7_10 O.1 rfl ?_
        refine aw_get (npc := 44) dX7_set_41 rfl kf_X7_93 F.1 rfl ?_
        refine aw_iload_n (npc := 45) rfl dX7_set_44 rfl ?_
        refine aw_iload_n (npc := 46) rfl dX7_set_45 rfl ?_
        refine aw_iast (npc := 47) (j := fn) dX7_set_46 rfl F.2.2.2.2.2.1 (am_ix_nI (by omega)) (by rw [tl_len]; omega) rfl ?_
        have F8 := qr_side (j := fn) (v := v) F (by omega)
        have O9 := ob_out (a := 6) (c := .inl (0, (tl 8 (fun z9 => N (23 + 5 * z9))).set fn v)) (by omega) O
        refine aw_iload (npc := 49) rfl dX7_set_47 rfl ?_
        refine aw_iret rfl dX7_set_49 ?_
        exact hq _ _ _ (by simp [seV, seN, cI, hw1, hw7, ffn]) (by simp [seV, seN, cI, hw1, hw7, ffn]) F8 (am_fpU (show ¬ (6 < 1 ∨ 13 ≤ 6) by omega) am_fp0)
      · refine aw_re (S' := [.int 0]) rfl ?_
        refine aw_if_eq (npc := 26) (tgt := 50) dX7_set_23 rfl (by decide) (fun _ => ?_) (fun hc => absurd (by decide) hc)
        refine aw_iload_n (npc := 51) rfl dX7_set_50 rfl ?_
        refine aw_iconst (npc := 52) (v := 2) (by decide) dX7_set_51 rfl ?_
        refine aw_icmp_ne (npc := 55) (tgt := 89) dX7_set_52 rfl (by decide) (fun _ => ?_) (fun hc => absurd hc (by decide))
        refine aw_ldc (npc := 91) kc_X7_78 dX7_set_89 rfl ?_
        refine aw_iret rfl dX7_set_91 ?_
        exact hq _ _ _ (by simp [seV, seN, cI, hw1, hw7, ffn]) (by simp [seV, seN, cI, hw1, hw7, ffn]) F am_fp0
  · refine aw_re (S' := [.int 0]) rfl ?_
    refine aw_if_ne (npc := 11) (tgt := 14) dX7_set_8 rfl (by decide) (fun hc => absurd (by decide) hc) (fun _ => ?_)
    refine aw_ldc (npc := 13) kc_X7_78 dX7_set_11 rfl ?_
    refine aw_iret rfl dX7_set_13 ?_
    exact hq _ _ _ (by simp [seV, seN, cI, hw1]) (by simp [seV, seN, cI, hw1]) F am_fp0
set_option maxHeartbeats 4000000 in
set_option maxRecDepth 100000 in
theorem M_set {X : List Int32} {d rc rs n : Nat} {Q : am_Q} {h : am_H} {o N : Nat → Int32} {a : Nat → Nat → Int32} {fr c : Nat} {f : Int32} {w : Int32} {v : Int32} (F : MR o N a h) (hR : RG N fr c) (hq : ∀ v9 N9 h9, v9 = seV N f w v → N9 = seN N f w v → MR o N9 a h9 → am_fp (fun k => k < 69 ∨ 92 ≤ k) h9 h → Q (some (.int v9)) n h9) : AW X mX8_set (d + 12) rc rs 0 [some (.ref 69), some (.int f), some (.int w), some (.int v)] [] n h Q := by
  have h8r := hR.2.1
  have h14r := hR.2.2.2.1
  refine aw_aload_n (npc := 1) rfl dX8_set_0 rfl ?_
  refine aw_iload_n (npc := 2) rfl dX8_set_1 rfl ?_
  refine aw_callV (npc := 5) (N := mX8_isFriend) (b := 69) (mc := 0) (ms := 0) (A := [.int f]) (S := []) (L0 := [some (.ref 69), some (.int f)]) dX8_set_2 rfl km_X8_isFriend kk_X8_114 F.1 ⟨by decide, rfl⟩ rfl ⟨rfl, by decide⟩ rfl (Nat.le_of_ble_eq_true rfl) (Nat.zero_add _) (Nat.zero_add _) rfl ?_
  refine m_isFriend F (fun hw1 => ?_) (fun hw1 => ?_)
  · obtain ⟨fn, hfn, efn⟩ := wi_idx hR.1 (by have z := hR.2.1; omega) hw1
    subst efn
    have h8fn : fn < 8 := by have z := hR.2.1; omega
    have ffn : fN (nI fn) = fn := fN_nI (by omega)
    refine aw_re (S' := [.int 1]) rfl ?_
    refine aw_if_eq (npc := 8) (tgt := 52) dX8_set_5 rfl (by decide) (fun hc => absurd hc (by decide)) (fun _ => ?_)
    refine aw_iload_n (npc := 9) rfl dX8_set_8 rfl ?_
    refine aw_iconst (npc := 10) (v := 1) (by decide) dX8_set_9 rfl ?_
    refine aw_iconst (npc := 11) (v := 2) (by decide) dX8_set_10 rfl ?_
    refine aw_callS (npc := 14) (N := mX8_in) (mc := 0) (ms := 0) (A := [.int w, .int 1, .int 2]) (S := []) (L0 := [some (.int w), some (.int 1), some (.int 2)]) dX8_set_11 rfl km_X8_in kk_X8_83 rfl ⟨rfl, by decide⟩ rfl (Nat.le_of_ble_eq_true rfl) (Nat.zero_add _) (Nat.zero_add _) rfl ?_
    refine c_X8_in (fun hw2 => ?_) (fun hw2 => ?_)
    · rcases wi_c1_2 hw2 with rfl | rfl
      · refine aw_re (S' := [.int 1]) rfl ?_
        refine aw_if_eq (npc := 17) (tgt := 52) dX8_set_14 rfl (by decide) (fun hc => absurd hc (by decide)) (fun _ => ?_)
        refine aw_iload_n (npc := 18) rfl dX8_set_17 rfl ?_
        refine aw_iconst (npc := 19) (v := 0) (by decide) dX8_set_18 rfl ?_
        refine aw_iload_n (npc := 20) rfl dX8_set_19 rfl ?_
        refine aw_iconst (npc := 21) (v := 1) (by decide) dX8_set_20 rfl ?_
        refine aw_icmp_ne (npc := 24) (tgt := 28) dX8_set_21 rfl (by decide) (fun hc => absurd (by decide) hc) (fun _ => ?_)
        refine aw_iconst (npc := 25) (v := 1) (by decide) dX8_set_24 rfl ?_
        refine aw_goto (npc := 30) dX8_set_25 (by decide) ?_
        refine aw_callS (npc := 33) (N := mX8_in) (mc := 0) (ms := 0) (A := [.int v, .int 0, .int 1]) (S := []) (L0 := [some (.int v), some (.int 0), some (.int 1)]) dX8_set_30 rfl km_X8_in kk_X8_83 rfl ⟨rfl, by decide⟩ rfl (Nat.le_of_ble_eq_true rfl) (Nat.zero_add _) (Nat.zero_add _) rfl ?_
        refine c_X8_in (fun hw3 => ?_) (fun hw3 => ?_)
        · refine aw_re (S' := [.int 1]) rfl ?_
          refine aw_if_eq (npc := 36) (tgt := 52) dX8_set_33 rfl (by decide) (fun hc => absurd hc (by decide)) (fun _ => ?_)
          refine aw_aload_n (npc := 37) rfl dX8_set_36 rfl ?_
          refine aw_bipush (npc := 39) (v := 22) (by decide) dX8_set_37 rfl ?_
          refine aw_iconst (npc := 40) (v := 5) (by decide) dX8_set_39 rfl ?_
          refine aw_iload_n (npc := 41) rfl dX8_set_40 rfl ?_
          refine aw_imulV (npc := 42) (v := nI (5 * fn)) dX8_set_41 rfl (pk_mul 5 _) ?_
          refine aw_iaddV (npc := 43) (v := nI (22 + (5 * fn))) dX8_set_42 rfl (nI_add 22 _) ?_
          refine aw_iload_n (npc := 44) rfl dX8_set_43 rfl ?_
          refine aw_iaddV (npc := 45) (v := nI (23 + (5 * fn))) dX8_set_44 rfl ((nI_add _ 1).trans (congrArg nI (by omega))) ?_
          refine aw_iload_n (npc := 46) rfl dX8_set_45 rfl ?_
          refine aw_callV (npc := 49) (N := mX8_becomes) (b := 69) (mc := 0) (ms := 0) (A := [.int (nI (23 + (5 * fn))), .int v]) (S := []) (L0 := [some (.ref 69), some (.int (nI (23 + (5 * fn)))), some (.int v), none]) dX8_set_46 rfl km_X8_becomes kk_X8_135 F.1 ⟨by decide, rfl⟩ rfl ⟨rfl, by decide⟩ rfl (Nat.le_of_ble_eq_true rfl) (Nat.zero_add _) (Nat.zero_add _) rfl ?_
          refine m_becomes (j := (23 + (5 * fn))) (v := v) F (by omega) (fun hp6 F4 fb5 => ?_)
          refine aw_re (S' := [.int (N (23 + (5 * fn)))]) rfl ?_
          refine aw_goto (npc := 54) dX8_set_49 (by decide) ?_
          refine aw_iret rfl dX8_set_54 ?_
          exact hq _ _ _ (by simp [seV, seN, cI, hw1, hw3, ffn]) (by simp [seV, seN, cI, hw1, hw3, ffn]) F4 (am_fpT (fun k (hk : k < 69 ∨ 92 ≤ k) => fb5 k (by omega)) am_fp0)
        · refine aw_re (S' := [.int 0]) rfl ?_
          refine aw_if_eq (npc := 36) (tgt := 52) dX8_set_33 rfl (by decide) (fun _ => ?_) (fun hc => absurd (by decide) hc)
          refine aw_ldc (npc := 54) kc_X8_91 dX8_set_52 rfl ?_
          refine aw_iret rfl dX8_set_54 ?_
          exact hq _ _ _ (by simp [seV, seN, cI, hw1, hw3, ffn]) (by simp [seV, seN, cI, hw1, hw3, ffn]) F am_fp0
      · refine aw_re (S' := [.int 1]) rfl ?_
        refine aw_if_eq (npc := 17) (tgt := 52) dX8_set_14 rfl (by decide) (fun hc => absurd hc (by decide)) (fun _ => ?_)
        refine aw_iload_n (npc := 18) rfl dX8_set_17 rfl ?_
        refine aw_iconst (npc := 19) (v := 0) (by decide) dX8_set_18 rfl ?_
        refine aw_iload_n (npc := 20) rfl dX8_set_19 rfl ?_
        refine aw_iconst (npc := 21) (v := 1) (by decide) dX8_set_20 rfl ?_
        refine aw_icmp_ne (npc := 24) (tgt := 28) dX8_set_21 rfl (by decide) (fun _ => ?_) (fun hc => absurd hc (by decide))
        refine aw_bipush (npc := 30) (v := 99) (by decide) dX8_set_28 rfl ?_
        refine aw_callS (npc := 33) (N := mX8_in) (mc := 0) (ms := 0) (A := [.int v, .int 0, .int 99]) (S := []) (L0 := [some (.int v), some (.int 0), some (.int 99)]) dX8_set_30 rfl km_X8_in kk_X8_83 rfl ⟨rfl, by decide⟩ rfl (Nat.le_of_ble_eq_true rfl) (Nat.zero_add _) (Nat.zero_add _) rfl ?_
        refine c_X8_in (fun hw7 => ?_) (fun hw7 => ?_)
        · refine aw_re (S' := [.int 1]) rfl ?_
          refine aw_if_eq (npc := 36) (tgt := 52) dX8_set_33 rfl (by decide) (fun hc => absurd hc (by decide)) (fun _ => ?_)
          refine aw_aload_n (npc := 37) rfl dX8_set_36 rfl ?_
          refine aw_bipush (npc := 39) (v := 22) (by decide) dX8_set_37 rfl ?_
          refine aw_iconst (npc := 40) (v := 5) (by decide) dX8_set_39 rfl ?_
          refine aw_iload_n (npc := 41) rfl dX8_set_40 rfl ?_
          refine aw_imulV (npc := 42) (v := nI (5 * fn)) dX8_set_41 rfl (pk_mul 5 _) ?_
          refine aw_iaddV (npc := 43) (v := nI (22 + (5 * fn))) dX8_set_42 rfl (nI_add 22 _) ?_
          refine aw_iload_n (npc := 44) rfl dX8_set_43 rfl ?_
          refine aw_iaddV (npc := 45) (v := nI (24 + (5 * fn))) dX8_set_44 rfl ((nI_add _ 2).trans (congrArg nI (by omega))) ?_
          refine aw_iload_n (npc := 46) rfl dX8_set_45 rfl ?_
          refine aw_callV (npc := 49) (N := mX8_becomes) (b := 69) (mc := 0) (ms := 0) (A := [.int (nI (24 + (5 * fn))), .int v]) (S := []) (L0 := [some (.ref 69), some (.int (nI (24 + (5 * fn)))), some (.int v), none]) dX8_set_46 rfl km_X8_becomes kk_X8_135 F.1 ⟨by decide, rfl⟩ rfl ⟨rfl, by decide⟩ rfl (Nat.le_of_ble_eq_true rfl) (Nat.zero_add _) (Nat.zero_add _) rfl ?_
          refine m_becomes (j := (24 + (5 * fn))) (v := v) F (by omega) (fun hp10 F8 fb9 => ?_)
          refine aw_re (S' := [.int (N (24 + (5 * fn)))]) rfl ?_
          refine aw_goto (npc := 54) dX8_set_49 (by decide) ?_
          refine aw_iret rfl dX8_set_54 ?_
          exact hq _ _ _ (by simp [seV, seN, cI, hw1, hw7, ffn]) (by simp [seV, seN, cI, hw1, hw7, ffn]) F8 (am_fpT (fun k (hk : k < 69 ∨ 92 ≤ k) => fb9 k (by omega)) am_fp0)
        · refine aw_re (S' := [.int 0]) rfl ?_
          refine aw_if_eq (npc := 36) (tgt := 52) dX8_set_33 rfl (by decide) (fun _ => ?_) (fun hc => absurd (by decide) hc)
          refine aw_ldc (npc := 54) kc_X8_91 dX8_set_52 rfl ?_
          refine aw_iret rfl dX8_set_54 ?_
          exact hq _ _ _ (by simp [seV, seN, cI, hw1, hw7, ffn]) (by simp [seV, seN, cI, hw1, hw7, ffn]) F am_fp0
    · refine aw_re (S' := [.int 0]) rfl ?_
      refine aw_if_eq (npc := 17) (tgt := 52) dX8_set_14 rfl (by decide) (fun _ => ?_) (fun hc => absurd (by decide) hc)
      refine aw_ldc (npc := 54) kc_X8_91 dX8_set_52 rfl ?_
      refine aw_iret rfl dX8_set_54 ?_
      exact hq _ _ _ (by simp [seV, seN, cI, hw1, hw2, ffn, nwi_1 hw2 (k := 1) ⟨by decide, by decide⟩, nwi_1 hw2 (k := 2) ⟨by decide, by decide⟩]) (by simp [seV, seN, cI, hw1, hw2, ffn, nwi_1 hw2 (k := 1) ⟨by decide, by decide⟩, nwi_1 hw2 (k := 2) ⟨by decide, by decide⟩]) F am_fp0
  · refine aw_re (S' := [.int 0]) rfl ?_
    refine aw_if_eq (npc := 8) (tgt := 52) dX8_set_5 rfl (by decide) (fun _ => ?_) (fun hc => absurd (by decide) hc)
    refine aw_ldc (npc := 54) kc_X8_91 dX8_set_52 rfl ?_
    refine aw_iret rfl dX8_set_54 ?_
    exact hq _ _ _ (by simp [seV, seN, cI, hw1]) (by simp [seV, seN, cI, hw1]) F am_fp0
noncomputable def stV (N : Nat → Int32) (t v : Int32) : Int32 := cI (wi t 0 3 ∧ wi v 0 9) (N (8 + fN t)) (-1000000001)
noncomputable def stN (N : Nat → Int32) (t v : Int32) : Nat → Int32 := cI (wi t 0 3 ∧ wi v 0 9) (upd N (8 + fN t) v) N
set_option maxHeartbeats 4000000 in
set_option maxRecDepth 100000 in
theorem C_stand {X : List Int32} {d rc rs n : Nat} {Q : am_Q} {h : am_H} {N : Nat → Int32} {tx : List Value} {lk mv : Nat → Int32} {ik wc : Int32} {fr c : Nat} {t : Int32} {v : Int32} (O : OB ik wc h) (F : QR 1 N tx lk mv h) (hR : RG N fr c) (hq : ∀ v9 N9 h9, v9 = stV N t v → N9 = stN N t v → QR 1 N9 tx lk mv h9 → am_fp (fun k => k < 1 ∨ 13 ≤ k) h9 h → Q (some (.int v9)) n h9) : AW X mX7_stand (d + 12) rc rs 0 [some (.ref 0), some (.int t), some (.int v), none] [] n h Q := by
  have h8r := hR.2.1
  have h14r := hR.2.2.2.1
  refine aw_iload_n (npc := 1) rfl dX7_stand_0 rfl ?_
  refine aw_callS (npc := 4) (N := mX7_isTerm) (mc := 0) (ms := 0) (A := [.int t]) (S := []) (L0 := [some (.int t)]) dX7_stand_1 rfl km_X7_isTerm kk_X7_124 rfl ⟨rfl, by decide⟩ rfl (Nat.le_of_ble_eq_true rfl) (Nat.zero_add _) (Nat.zero_add _) rfl ?_
  refine c_X7_isTerm (fun hw1 => ?_) (fun hw1 => ?_)
  · obtain ⟨tn, htn, etn⟩ := wi_nI (H := 3) (by decide) (by decide) hw1
    subst etn
    have ftn : fN (nI tn) = tn := fN_nI (by omega)
    refine aw_re (S' := [.int 1]) rfl ?_
    refine aw_if_eq (npc := 7) (tgt := 17) dX7_stand_4 rfl (by decide) (fun hc => absurd hc (by decide)) (fun _ => ?_)
    refine aw_iload_n (npc := 8) rfl dX7_stand_7 rfl ?_
    refine aw_iconst (npc := 9) (v := 0) (by decide) dX7_stand_8 rfl ?_
    refine aw_bipush (npc := 11) (v := 9) (by decide) dX7_stand_9 rfl ?_
    refine aw_callS (npc := 14) (N := mX7_within) (mc := 0) (ms := 0) (A := [.int v, .int 0, .int 9]) (S := []) (L0 := [some (.int v), some (.int 0), some (.int 9)]) dX7_stand_11 rfl km_X7_within kk_X7_74 rfl ⟨rfl, by decide⟩ rfl (Nat.le_of_ble_eq_true rfl) (Nat.zero_add _) (Nat.zero_add _) rfl ?_
    refine c_X7_within (fun hw2 => ?_) (fun hw2 => ?_)
    · refine aw_re (S' := [.int 1]) rfl ?_
      refine aw_if_ne (npc := 17) (tgt := 20) dX7_stand_14 rfl (by decide) (fun _ => ?_) (fun hc => absurd hc (by decide))
      refine aw_aload_n (npc := 21) rfl dX7_stand_20 rfl ?_
      refine aw_get (npc := 24) dX7_stand_21 rfl kf_X7_10 O.1 rfl ?_
      refine aw_get (npc := 27) dX7_stand_24 rfl kf_X7_127 F.1 rfl ?_
      refine aw_iload_n (npc := 28) rfl dX7_stand_27 rfl ?_
      refine aw_iald (npc := 29) (x := N (8 + 1 * tn)) (j := tn) dX7_stand_28 rfl F.2.1 (am_ix_nI (by omega)) (tl_at (by omega)) ?_
      refine aw_istore_n (npc := 30) (L' := [some (.ref 0), some (.int (nI tn)), some (.int v), some (.int (N (8 + 1 * tn)))]) dX7_stand_29 rfl (by decide) rfl rfl ?_
      refine aw_aload_n (npc := 31) rfl dX7_stand_30 rfl ?_
      refine aw_get (npc := 34) dX7_stand_31 rfl kf_X7_10 O.1 rfl ?_
      refine aw_get (npc := 37) dX7_stand_34 rfl kf_X7_127 F.1 rfl ?_
      refine aw_iload_n (npc := 38) rfl dX7_stand_37 rfl ?_
      refine aw_iload_n (npc := 39) rfl dX7_stand_38 rfl ?_
      refine aw_iast (npc := 40) (j := tn) dX7_stand_39 rfl F.2.1 (am_ix_nI (by omega)) (by rw [tl_len]; omega) rfl ?_
      have F3 := qr_stand (j := tn) (v := v) F (by omega)
      have O4 := ob_out (a := 2) (c := .inl (0, (tl 4 (fun z9 => N (8 + 1 * z9))).set tn v)) (by omega) O
      refine aw_iload_n (npc := 41) rfl dX7_stand_40 rfl ?_
      refine aw_iret rfl dX7_stand_41 ?_
      exact hq _ _ _ (by simp [stV, stN, cI, hw1, hw2, ftn]) (by simp [stV, stN, cI, hw1, hw2, ftn]) F3 (am_fpU (show ¬ (2 < 1 ∨ 13 ≤ 2) by omega) am_fp0)
    · refine aw_re (S' := [.int 0]) rfl ?_
      refine aw_if_ne (npc := 17) (tgt := 20) dX7_stand_14 rfl (by decide) (fun hc => absurd (by decide) hc) (fun _ => ?_)
      refine aw_ldc (npc := 19) kc_X7_78 dX7_stand_17 rfl ?_
      refine aw_iret rfl dX7_stand_19 ?_
      exact hq _ _ _ (by simp [stV, stN, cI, hw1, hw2, ftn]) (by simp [stV, stN, cI, hw1, hw2, ftn]) F am_fp0
  · refine aw_re (S' := [.int 0]) rfl ?_
    refine aw_if_eq (npc := 7) (tgt := 17) dX7_stand_4 rfl (by decide) (fun _ => ?_) (fun hc => absurd (by decide) hc)
    refine aw_ldc (npc := 19) kc_X7_78 dX7_stand_17 rfl ?_
    refine aw_iret rfl dX7_stand_19 ?_
    exact hq _ _ _ (by simp [stV, stN, cI, hw1]) (by simp [stV, stN, cI, hw1]) F am_fp0
set_option maxHeartbeats 4000000 in
set_option maxRecDepth 100000 in
theorem M_stand {X : List Int32} {d rc rs n : Nat} {Q : am_Q} {h : am_H} {o N : Nat → Int32} {a : Nat → Nat → Int32} {fr c : Nat} {t : Int32} {v : Int32} (F : MR o N a h) (hR : RG N fr c) (hq : ∀ v9 N9 h9, v9 = stV N t v → N9 = stN N t v → MR o N9 a h9 → am_fp (fun k => k < 69 ∨ 92 ≤ k) h9 h → Q (some (.int v9)) n h9) : AW X mX8_stand (d + 12) rc rs 0 [some (.ref 69), some (.int t), some (.int v)] [] n h Q := by
  have h8r := hR.2.1
  have h14r := hR.2.2.2.1
  refine aw_iload_n (npc := 1) rfl dX8_stand_0 rfl ?_
  refine aw_iconst (npc := 2) (v := 0) (by decide) dX8_stand_1 rfl ?_
  refine aw_iconst (npc := 3) (v := 3) (by decide) dX8_stand_2 rfl ?_
  refine aw_callS (npc := 6) (N := mX8_in) (mc := 0) (ms := 0) (A := [.int t, .int 0, .int 3]) (S := []) (L0 := [some (.int t), some (.int 0), some (.int 3)]) dX8_stand_3 rfl km_X8_in kk_X8_83 rfl ⟨rfl, by decide⟩ rfl (Nat.le_of_ble_eq_true rfl) (Nat.zero_add _) (Nat.zero_add _) rfl ?_
  refine c_X8_in (fun hw1 => ?_) (fun hw1 => ?_)
  · obtain ⟨tn, htn, etn⟩ := wi_nI (H := 3) (by decide) (by decide) hw1
    subst etn
    have ftn : fN (nI tn) = tn := fN_nI (by omega)
    refine aw_re (S' := [.int 1]) rfl ?_
    refine aw_if_eq (npc := 9) (tgt := 31) dX8_stand_6 rfl (by decide) (fun hc => absurd hc (by decide)) (fun _ => ?_)
    refine aw_iload_n (npc := 10) rfl dX8_stand_9 rfl ?_
    refine aw_iconst (npc := 11) (v := 0) (by decide) dX8_stand_10 rfl ?_
    refine aw_bipush (npc := 13) (v := 9) (by decide) dX8_stand_11 rfl ?_
    refine aw_callS (npc := 16) (N := mX8_in) (mc := 0) (ms := 0) (A := [.int v, .int 0, .int 9]) (S := []) (L0 := [some (.int v), some (.int 0), some (.int 9)]) dX8_stand_13 rfl km_X8_in kk_X8_83 rfl ⟨rfl, by decide⟩ rfl (Nat.le_of_ble_eq_true rfl) (Nat.zero_add _) (Nat.zero_add _) rfl ?_
    refine c_X8_in (fun hw2 => ?_) (fun hw2 => ?_)
    · refine aw_re (S' := [.int 1]) rfl ?_
      refine aw_if_eq (npc := 19) (tgt := 31) dX8_stand_16 rfl (by decide) (fun hc => absurd hc (by decide)) (fun _ => ?_)
      refine aw_aload_n (npc := 20) rfl dX8_stand_19 rfl ?_
      refine aw_bipush (npc := 22) (v := 8) (by decide) dX8_stand_20 rfl ?_
      refine aw_iload_n (npc := 23) rfl dX8_stand_22 rfl ?_
      refine aw_iaddV (npc := 24) (v := nI (8 + tn)) dX8_stand_23 rfl (nI_add 8 _) ?_
      refine aw_iload_n (npc := 25) rfl dX8_stand_24 rfl ?_
      refine aw_callV (npc := 28) (N := mX8_becomes) (b := 69) (mc := 0) (ms := 0) (A := [.int (nI (8 + tn)), .int v]) (S := []) (L0 := [some (.ref 69), some (.int (nI (8 + tn))), some (.int v), none]) dX8_stand_25 rfl km_X8_becomes kk_X8_135 F.1 ⟨by decide, rfl⟩ rfl ⟨rfl, by decide⟩ rfl (Nat.le_of_ble_eq_true rfl) (Nat.zero_add _) (Nat.zero_add _) rfl ?_
      refine m_becomes (j := (8 + tn)) (v := v) F (by omega) (fun hp5 F3 fb4 => ?_)
      refine aw_re (S' := [.int (N (8 + tn))]) rfl ?_
      refine aw_goto (npc := 33) dX8_stand_28 (by decide) ?_
      refine aw_iret rfl dX8_stand_33 ?_
      exact hq _ _ _ (by simp [stV, stN, cI, hw1, hw2, ftn]) (by simp [stV, stN, cI, hw1, hw2, ftn]) F3 (am_fpT (fun k (hk : k < 69 ∨ 92 ≤ k) => fb4 k (by omega)) am_fp0)
    · refine aw_re (S' := [.int 0]) rfl ?_
      refine aw_if_eq (npc := 19) (tgt := 31) dX8_stand_16 rfl (by decide) (fun _ => ?_) (fun hc => absurd (by decide) hc)
      refine aw_ldc (npc := 33) kc_X8_91 dX8_stand_31 rfl ?_
      refine aw_iret rfl dX8_stand_33 ?_
      exact hq _ _ _ (by simp [stV, stN, cI, hw1, hw2, ftn]) (by simp [stV, stN, cI, hw1, hw2, ftn]) F am_fp0
  · refine aw_re (S' := [.int 0]) rfl ?_
    refine aw_if_eq (npc := 9) (tgt := 31) dX8_stand_6 rfl (by decide) (fun _ => ?_) (fun hc => absurd (by decide) hc)
    refine aw_ldc (npc := 33) kc_X8_91 dX8_stand_31 rfl ?_
    refine aw_iret rfl dX8_stand_33 ?_
    exact hq _ _ _ (by simp [stV, stN, cI, hw1]) (by simp [stV, stN, cI, hw1]) F am_fp0
noncomputable def caV (N : Nat → Int32) (s t v : Int32) : Int32 := cI (wi s 0 1 ∧ wi t 0 3 ∧ wi v 0 9) (N (12 + (fN s * 4 + fN t))) (-1000000001)
noncomputable def caN (N : Nat → Int32) (s t v : Int32) : Nat → Int32 := cI (wi s 0 1 ∧ wi t 0 3 ∧ wi v 0 9) (upd N (12 + (fN s * 4 + fN t)) v) N
set_option maxHeartbeats 4000000 in
set_option maxRecDepth 100000 in
theorem C_care {X : List Int32} {d rc rs n : Nat} {Q : am_Q} {h : am_H} {N : Nat → Int32} {tx : List Value} {lk mv : Nat → Int32} {ik wc : Int32} {fr c : Nat} {s : Int32} {t : Int32} {v : Int32} (O : OB ik wc h) (F : QR 1 N tx lk mv h) (hR : RG N fr c) (hq : ∀ v9 N9 h9, v9 = caV N s t v → N9 = caN N s t v → QR 1 N9 tx lk mv h9 → am_fp (fun k => k < 1 ∨ 13 ≤ k) h9 h → Q (some (.int v9)) n h9) : AW X mX7_care (d + 12) rc rs 0 [some (.ref 0), some (.int s), some (.int t), some (.int v), none] [] n h Q := by
  have h8r := hR.2.1
  have h14r := hR.2.2.2.1
  refine aw_iload_n (npc := 1) rfl dX7_care_0 rfl ?_
  refine aw_callS (npc := 4) (N := mX7_isSide) (mc := 0) (ms := 0) (A := [.int s]) (S := []) (L0 := [some (.int s)]) dX7_care_1 rfl km_X7_isSide kk_X7_71 rfl ⟨rfl, by decide⟩ rfl (Nat.le_of_ble_eq_true rfl) (Nat.zero_add _) (Nat.zero_add _) rfl ?_
  refine c_X7_isSide (fun hw1 => ?_) (fun hw1 => ?_)
  · obtain ⟨sn, hsn, esn⟩ := wi_nI (H := 1) (by decide) (by decide) hw1
    subst esn
    have fsn : fN (nI sn) = sn := fN_nI (by omega)
    refine aw_re (S' := [.int 1]) rfl ?_
    refine aw_if_eq (npc := 7) (tgt := 24) dX7_care_4 rfl (by decide) (fun hc => absurd hc (by decide)) (fun _ => ?_)
    refine aw_iload_n (npc := 8) rfl dX7_care_7 rfl ?_
    refine aw_callS (npc := 11) (N := mX7_isTerm) (mc := 0) (ms := 0) (A := [.int t]) (S := []) (L0 := [some (.int t)]) dX7_care_8 rfl km_X7_isTerm kk_X7_124 rfl ⟨rfl, by decide⟩ rfl (Nat.le_of_ble_eq_true rfl) (Nat.zero_add _) (Nat.zero_add _) rfl ?_
    refine c_X7_isTerm (fun hw2 => ?_) (fun hw2 => ?_)
    · obtain ⟨tn, htn, etn⟩ := wi_nI (H := 3) (by decide) (by decide) hw2
      subst etn
      have ftn : fN (nI tn) = tn := fN_nI (by omega)
      refine aw_re (S' := [.int 1]) rfl ?_
      refine aw_if_eq (npc := 14) (tgt := 24) dX7_care_11 rfl (by decide) (fun hc => absurd hc (by decide)) (fun _ => ?_)
      refine aw_iload_n (npc := 15) rfl dX7_care_14 rfl ?_
      refine aw_iconst (npc := 16) (v := 0) (by decide) dX7_care_15 rfl ?_
      refine aw_bipush (npc := 18) (v := 9) (by decide) dX7_care_16 rfl ?_
      refine aw_callS (npc := 21) (N := mX7_within) (mc := 0) (ms := 0) (A := [.int v, .int 0, .int 9]) (S := []) (L0 := [some (.int v), some (.int 0), some (.int 9)]) dX7_care_18 rfl km_X7_within kk_X7_74 rfl ⟨rfl, by decide⟩ rfl (Nat.le_of_ble_eq_true rfl) (Nat.zero_add _) (Nat.zero_add _) rfl ?_
      refine c_X7_within (fun hw3 => ?_) (fun hw3 => ?_)
      · refine aw_re (S' := [.int 1]) rfl ?_
        refine aw_if_ne (npc := 24) (tgt := 27) dX7_care_21 rfl (by decide) (fun _ => ?_) (fun hc => absurd hc (by decide))
        refine aw_aload_n (npc := 28) rfl dX7_care_27 rfl ?_
        refine aw_get (npc := 31) dX7_care_28 rfl kf_X7_10 O.1 rfl ?_
        refine aw_get (npc := 34) dX7_care_31 rfl kf_X7_130 F.1 rfl ?_
        refine aw_iload_n (npc := 35) rfl dX7_care_34 rfl ?_
        refine aw_iload_n (npc := 36) rfl dX7_care_35 rfl ?_
        refine aw_callS (npc := 39) (N := mX7_carePlace) (mc := 0) (ms := 0) (A := [.int (nI sn), .int (nI tn)]) (S := [.ref 3]) (L0 := [some (.int (nI sn)), some (.int (nI tn))]) dX7_care_36 rfl km_X7_carePlace kk_X7_133 rfl ⟨rfl, by decide⟩ rfl (Nat.le_of_ble_eq_true rfl) (Nat.zero_add _) (Nat.zero_add _) rfl ?_
        refine aw_iload_n (npc := 1) rfl dX7_carePlace_0 rfl ?_
        refine aw_iconst (npc := 2) (v := 4) (by decide) dX7_carePlace_1 rfl ?_
        refine aw_imulV (npc := 3) (v := nI (sn * 4)) dX7_carePlace_2 rfl (pk_mul _ 4) ?_
        refine aw_iload_n (npc := 4) rfl dX7_carePlace_3 rfl ?_
        refine aw_iaddV (npc := 5) (v := nI ((sn * 4) + tn)) dX7_carePlace_4 rfl (nI_add _ _) ?_
        refine aw_iret rfl dX7_carePlace_5 ?_
        refine aw_re (S' := [.int (nI ((sn * 4) + tn)), .ref 3]) rfl ?_
        refine aw_iald (npc := 40) (x := N (12 + 1 * ((sn * 4) + tn))) (j := ((sn * 4) + tn)) dX7_care_39 rfl F.2.2.1 (am_ix_nI (by omega)) (tl_at (by omega)) ?_
        refine aw_istore (npc := 42) (L' := [some (.ref 0), some (.int (nI sn)), some (.int (nI tn)), some (.int v), some (.int (N (12 + 1 * ((sn * 4) + tn))))]) dX7_care_40 rfl (by decide) rfl rfl ?_
        refine aw_aload_n (npc := 43) rfl dX7_care_42 rfl ?_
        refine aw_get (npc := 46) dX7_care_43 rfl kf_X7_10 O.1 rfl ?_
        refine aw_get (npc := 49) dX7_care_46 rfl kf_X7_130 F.1 rfl ?_
        refine aw_iload_n (npc := 50) rfl dX7_care_49 rfl ?_
        refine aw_iload_n (npc := 51) rfl dX7_care_50 rfl ?_
        refine aw_callS (npc := 54) (N := mX7_carePlace) (mc := 0) (ms := 0) (A := [.int (nI sn), .int (nI tn)]) (S := [.ref 3]) (L0 := [some (.int (nI sn)), some (.int (nI tn))]) dX7_care_51 rfl km_X7_carePlace kk_X7_133 rfl ⟨rfl, by decide⟩ rfl (Nat.le_of_ble_eq_true rfl) (Nat.zero_add _) (Nat.zero_add _) rfl ?_
        refine aw_iload_n (npc := 1) rfl dX7_carePlace_0 rfl ?_
        refine aw_iconst (npc := 2) (v := 4) (by decide) dX7_carePlace_1 rfl ?_
        refine aw_imulV (npc := 3) (v := nI (sn * 4)) dX7_carePlace_2 rfl (pk_mul _ 4) ?_
        refine aw_iload_n (npc := 4) rfl dX7_carePlace_3 rfl ?_
        refine aw_iaddV (npc := 5) (v := nI ((sn * 4) + tn)) dX7_carePlace_4 rfl (nI_add _ _) ?_
        refine aw_iret rfl dX7_carePlace_5 ?_
        refine aw_re (S' := [.int (nI ((sn * 4) + tn)), .ref 3]) rfl ?_
        refine aw_iload_n (npc := 55) rfl dX7_care_54 rfl ?_
        refine aw_iast (npc := 56) (j := ((sn * 4) + tn)) dX7_care_55 rfl F.2.2.1 (am_ix_nI (by omega)) (by rw [tl_len]; omega) rfl ?_
        have F4 := qr_care (j := ((sn * 4) + tn)) (v := v) F (by omega)
        have O5 := ob_out (a := 3) (c := .inl (0, (tl 8 (fun z9 => N (12 + 1 * z9))).set ((sn * 4) + tn) v)) (by omega) O
        refine aw_iload (npc := 58) rfl dX7_care_56 rfl ?_
        refine aw_iret rfl dX7_care_58 ?_
        exact hq _ _ _ (by simp [caV, caN, cI, hw1, hw2, hw3, fsn, ftn, Nat.mul_comm]) (by simp [caV, caN, cI, hw1, hw2, hw3, fsn, ftn, Nat.mul_comm]) F4 (am_fpU (show ¬ (3 < 1 ∨ 13 ≤ 3) by omega) am_fp0)
      · refine aw_re (S' := [.int 0]) rfl ?_
        refine aw_if_ne (npc := 24) (tgt := 27) dX7_care_21 rfl (by decide) (fun hc => absurd (by decide) hc) (fun _ => ?_)
        refine aw_ldc (npc := 26) kc_X7_78 dX7_care_24 rfl ?_
        refine aw_iret rfl dX7_care_26 ?_
        exact hq _ _ _ (by simp [caV, caN, cI, hw1, hw2, hw3, fsn, ftn, Nat.mul_comm]) (by simp [caV, caN, cI, hw1, hw2, hw3, fsn, ftn, Nat.mul_comm]) F am_fp0
    · refine aw_re (S' := [.int 0]) rfl ?_
      refine aw_if_eq (npc := 14) (tgt := 24) dX7_care_11 rfl (by decide) (fun _ => ?_) (fun hc => absurd (by decide) hc)
      refine aw_ldc (npc := 26) kc_X7_78 dX7_care_24 rfl ?_
      refine aw_iret rfl dX7_care_26 ?_
      exact hq _ _ _ (by simp [caV, caN, cI, hw1, hw2, fsn, Nat.mul_comm]) (by simp [caV, caN, cI, hw1, hw2, fsn, Nat.mul_comm]) F am_fp0
  · refine aw_re (S' := [.int 0]) rfl ?_
    refine aw_if_eq (npc := 7) (tgt := 24) dX7_care_4 rfl (by decide) (fun _ => ?_) (fun hc => absurd (by decide) hc)
    refine aw_ldc (npc := 26) kc_X7_78 dX7_care_24 rfl ?_
    refine aw_iret rfl dX7_care_26 ?_
    exact hq _ _ _ (by simp [caV, caN, cI, hw1, Nat.mul_comm]) (by simp [caV, caN, cI, hw1, Nat.mul_comm]) F am_fp0
set_option maxHeartbeats 4000000 in
set_option maxRecDepth 100000 in
theorem M_care {X : List Int32} {d rc rs n : Nat} {Q : am_Q} {h : am_H} {o N : Nat → Int32} {a : Nat → Nat → Int32} {fr c : Nat} {s : Int32} {t : Int32} {v : Int32} (F : MR o N a h) (hR : RG N fr c) (hq : ∀ v9 N9 h9, v9 = caV N s t v → N9 = caN N s t v → MR o N9 a h9 → am_fp (fun k => k < 69 ∨ 92 ≤ k) h9 h → Q (some (.int v9)) n h9) : AW X mX8_care (d + 12) rc rs 0 [some (.ref 69), some (.int s), some (.int t), some (.int v)] [] n h Q := by
  have h8r := hR.2.1
  have h14r := hR.2.2.2.1
  refine aw_iload_n (npc := 1) rfl dX8_care_0 rfl ?_
  refine aw_iconst (npc := 2) (v := 0) (by decide) dX8_care_1 rfl ?_
  refine aw_iconst (npc := 3) (v := 1) (by decide) dX8_care_2 rfl ?_
  refine aw_callS (npc := 6) (N := mX8_in) (mc := 0) (ms := 0) (A := [.int s, .int 0, .int 1]) (S := []) (L0 := [some (.int s), some (.int 0), some (.int 1)]) dX8_care_3 rfl km_X8_in kk_X8_83 rfl ⟨rfl, by decide⟩ rfl (Nat.le_of_ble_eq_true rfl) (Nat.zero_add _) (Nat.zero_add _) rfl ?_
  refine c_X8_in (fun hw1 => ?_) (fun hw1 => ?_)
  · obtain ⟨sn, hsn, esn⟩ := wi_nI (H := 1) (by decide) (by decide) hw1
    subst esn
    have fsn : fN (nI sn) = sn := fN_nI (by omega)
    refine aw_re (S' := [.int 1]) rfl ?_
    refine aw_if_eq (npc := 9) (tgt := 44) dX8_care_6 rfl (by decide) (fun hc => absurd hc (by decide)) (fun _ => ?_)
    refine aw_iload_n (npc := 10) rfl dX8_care_9 rfl ?_
    refine aw_iconst (npc := 11) (v := 0) (by decide) dX8_care_10 rfl ?_
    refine aw_iconst (npc := 12) (v := 3) (by decide) dX8_care_11 rfl ?_
    refine aw_callS (npc := 15) (N := mX8_in) (mc := 0) (ms := 0) (A := [.int t, .int 0, .int 3]) (S := []) (L0 := [some (.int t), some (.int 0), some (.int 3)]) dX8_care_12 rfl km_X8_in kk_X8_83 rfl ⟨rfl, by decide⟩ rfl (Nat.le_of_ble_eq_true rfl) (Nat.zero_add _) (Nat.zero_add _) rfl ?_
    refine c_X8_in (fun hw2 => ?_) (fun hw2 => ?_)
    · obtain ⟨tn, htn, etn⟩ := wi_nI (H := 3) (by decide) (by decide) hw2
      subst etn
      have ftn : fN (nI tn) = tn := fN_nI (by omega)
      refine aw_re (S' := [.int 1]) rfl ?_
      refine aw_if_eq (npc := 18) (tgt := 44) dX8_care_15 rfl (by decide) (fun hc => absurd hc (by decide)) (fun _ => ?_)
      refine aw_iload_n (npc := 19) rfl dX8_care_18 rfl ?_
      refine aw_iconst (npc := 20) (v := 0) (by decide) dX8_care_19 rfl ?_
      refine aw_bipush (npc := 22) (v := 9) (by decide) dX8_care_20 rfl ?_
      refine aw_callS (npc := 25) (N := mX8_in) (mc := 0) (ms := 0) (A := [.int v, .int 0, .int 9]) (S := []) (L0 := [some (.int v), some (.int 0), some (.int 9)]) dX8_care_22 rfl km_X8_in kk_X8_83 rfl ⟨rfl, by decide⟩ rfl (Nat.le_of_ble_eq_true rfl) (Nat.zero_add _) (Nat.zero_add _) rfl ?_
      refine c_X8_in (fun hw3 => ?_) (fun hw3 => ?_)
      · refine aw_re (S' := [.int 1]) rfl ?_
        refine aw_if_eq (npc := 28) (tgt := 44) dX8_care_25 rfl (by decide) (fun hc => absurd hc (by decide)) (fun _ => ?_)
        refine aw_aload_n (npc := 29) rfl dX8_care_28 rfl ?_
        refine aw_bipush (npc := 31) (v := 12) (by decide) dX8_care_29 rfl ?_
        refine aw_iconst (npc := 32) (v := 4) (by decide) dX8_care_31 rfl ?_
        refine aw_iload_n (npc := 33) rfl dX8_care_32 rfl ?_
        refine aw_imulV (npc := 34) (v := nI (4 * sn)) dX8_care_33 rfl (pk_mul 4 _) ?_
        refine aw_iaddV (npc := 35) (v := nI (12 + (4 * sn))) dX8_care_34 rfl (nI_add 12 _) ?_
        refine aw_iload_n (npc := 36) rfl dX8_care_35 rfl ?_
        refine aw_iaddV (npc := 37) (v := nI ((12 + (4 * sn)) + tn)) dX8_care_36 rfl (nI_add _ _) ?_
        refine aw_iload_n (npc := 38) rfl dX8_care_37 rfl ?_
        refine aw_callV (npc := 41) (N := mX8_becomes) (b := 69) (mc := 0) (ms := 0) (A := [.int (nI ((12 + (4 * sn)) + tn)), .int v]) (S := []) (L0 := [some (.ref 69), some (.int (nI ((12 + (4 * sn)) + tn))), some (.int v), none]) dX8_care_38 rfl km_X8_becomes kk_X8_135 F.1 ⟨by decide, rfl⟩ rfl ⟨rfl, by decide⟩ rfl (Nat.le_of_ble_eq_true rfl) (Nat.zero_add _) (Nat.zero_add _) rfl ?_
        refine m_becomes (j := ((12 + (4 * sn)) + tn)) (v := v) F (by omega) (fun hp6 F4 fb5 => ?_)
        refine aw_re (S' := [.int (N ((12 + (4 * sn)) + tn))]) rfl ?_
        refine aw_goto (npc := 46) dX8_care_41 (by decide) ?_
        refine aw_iret rfl dX8_care_46 ?_
        exact hq _ _ _ (by simp [caV, caN, cI, hw1, hw2, hw3, fsn, ftn, Nat.mul_comm, Nat.add_assoc]) (by simp [caV, caN, cI, hw1, hw2, hw3, fsn, ftn, Nat.mul_comm, Nat.add_assoc]) F4 (am_fpT (fun k (hk : k < 69 ∨ 92 ≤ k) => fb5 k (by omega)) am_fp0)
      · refine aw_re (S' := [.int 0]) rfl ?_
        refine aw_if_eq (npc := 28) (tgt := 44) dX8_care_25 rfl (by decide) (fun _ => ?_) (fun hc => absurd (by decide) hc)
        refine aw_ldc (npc := 46) kc_X8_91 dX8_care_44 rfl ?_
        refine aw_iret rfl dX8_care_46 ?_
        exact hq _ _ _ (by simp [caV, caN, cI, hw1, hw2, hw3, fsn, ftn, Nat.mul_comm, Nat.add_assoc]) (by simp [caV, caN, cI, hw1, hw2, hw3, fsn, ftn, Nat.mul_comm, Nat.add_assoc]) F am_fp0
    · refine aw_re (S' := [.int 0]) rfl ?_
      refine aw_if_eq (npc := 18) (tgt := 44) dX8_care_15 rfl (by decide) (fun _ => ?_) (fun hc => absurd (by decide) hc)
      refine aw_ldc (npc := 46) kc_X8_91 dX8_care_44 rfl ?_
      refine aw_iret rfl dX8_care_46 ?_
      exact hq _ _ _ (by simp [caV, caN, cI, hw1, hw2, fsn, Nat.mul_comm, Nat.add_assoc]) (by simp [caV, caN, cI, hw1, hw2, fsn, Nat.mul_comm, Nat.add_assoc]) F am_fp0
  · refine aw_re (S' := [.int 0]) rfl ?_
    refine aw_if_eq (npc := 9) (tgt := 44) dX8_care_6 rfl (by decide) (fun _ => ?_) (fun hc => absurd (by decide) hc)
    refine aw_ldc (npc := 46) kc_X8_91 dX8_care_44 rfl ?_
    refine aw_iret rfl dX8_care_46 ?_
    exact hq _ _ _ (by simp [caV, caN, cI, hw1, Nat.mul_comm, Nat.add_assoc]) (by simp [caV, caN, cI, hw1, Nat.mul_comm, Nat.add_assoc]) F am_fp0
noncomputable def hoV (N : Nat → Int32) (s v : Int32) : Int32 := cI (wi s 0 1 ∧ wi v 0 400) (N (20 + fN s)) (-1000000001)
noncomputable def hoN (N : Nat → Int32) (s v : Int32) : Nat → Int32 := cI (wi s 0 1 ∧ wi v 0 400) (upd N (20 + fN s) v) N
set_option maxHeartbeats 4000000 in
set_option maxRecDepth 100000 in
theorem C_honour {X : List Int32} {d rc rs n : Nat} {Q : am_Q} {h : am_H} {N : Nat → Int32} {tx : List Value} {lk mv : Nat → Int32} {ik wc : Int32} {fr c : Nat} {s : Int32} {v : Int32} (O : OB ik wc h) (F : QR 1 N tx lk mv h) (hR : RG N fr c) (hq : ∀ v9 N9 h9, v9 = hoV N s v → N9 = hoN N s v → QR 1 N9 tx lk mv h9 → am_fp (fun k => k < 1 ∨ 13 ≤ k) h9 h → Q (some (.int v9)) n h9) : AW X mX7_honour (d + 12) rc rs 0 [some (.ref 0), some (.int s), some (.int v), none] [] n h Q := by
  have h8r := hR.2.1
  have h14r := hR.2.2.2.1
  refine aw_iload_n (npc := 1) rfl dX7_honour_0 rfl ?_
  refine aw_callS (npc := 4) (N := mX7_isSide) (mc := 0) (ms := 0) (A := [.int s]) (S := []) (L0 := [some (.int s)]) dX7_honour_1 rfl km_X7_isSide kk_X7_71 rfl ⟨rfl, by decide⟩ rfl (Nat.le_of_ble_eq_true rfl) (Nat.zero_add _) (Nat.zero_add _) rfl ?_
  refine c_X7_isSide (fun hw1 => ?_) (fun hw1 => ?_)
  · obtain ⟨sn, hsn, esn⟩ := wi_nI (H := 1) (by decide) (by decide) hw1
    subst esn
    have fsn : fN (nI sn) = sn := fN_nI (by omega)
    refine aw_re (S' := [.int 1]) rfl ?_
    refine aw_if_eq (npc := 7) (tgt := 18) dX7_honour_4 rfl (by decide) (fun hc => absurd hc (by decide)) (fun _ => ?_)
    refine aw_iload_n (npc := 8) rfl dX7_honour_7 rfl ?_
    refine aw_iconst (npc := 9) (v := 0) (by decide) dX7_honour_8 rfl ?_
    refine aw_sipush (npc := 12) (v := 400) (by decide) dX7_honour_9 rfl ?_
    refine aw_callS (npc := 15) (N := mX7_within) (mc := 0) (ms := 0) (A := [.int v, .int 0, .int 400]) (S := []) (L0 := [some (.int v), some (.int 0), some (.int 400)]) dX7_honour_12 rfl km_X7_within kk_X7_74 rfl ⟨rfl, by decide⟩ rfl (Nat.le_of_ble_eq_true rfl) (Nat.zero_add _) (Nat.zero_add _) rfl ?_
    refine c_X7_within (fun hw2 => ?_) (fun hw2 => ?_)
    · refine aw_re (S' := [.int 1]) rfl ?_
      refine aw_if_ne (npc := 18) (tgt := 21) dX7_honour_15 rfl (by decide) (fun _ => ?_) (fun hc => absurd hc (by decide))
      refine aw_aload_n (npc := 22) rfl dX7_honour_21 rfl ?_
      refine aw_get (npc := 25) dX7_honour_22 rfl kf_X7_10 O.1 rfl ?_
      refine aw_get (npc := 28) dX7_honour_25 rfl kf_X7_136 F.1 rfl ?_
      refine aw_iload_n (npc := 29) rfl dX7_honour_28 rfl ?_
      refine aw_iald (npc := 30) (x := N (20 + 1 * sn)) (j := sn) dX7_honour_29 rfl F.2.2.2.1 (am_ix_nI (by omega)) (tl_at (by omega)) ?_
      refine aw_istore_n (npc := 31) (L' := [some (.ref 0), some (.int (nI sn)), some (.int v), some (.int (N (20 + 1 * sn)))]) dX7_honour_30 rfl (by decide) rfl rfl ?_
      refine aw_aload_n (npc := 32) rfl dX7_honour_31 rfl ?_
      refine aw_get (npc := 35) dX7_honour_32 rfl kf_X7_10 O.1 rfl ?_
      refine aw_get (npc := 38) dX7_honour_35 rfl kf_X7_136 F.1 rfl ?_
      refine aw_iload_n (npc := 39) rfl dX7_honour_38 rfl ?_
      refine aw_iload_n (npc := 40) rfl dX7_honour_39 rfl ?_
      refine aw_iast (npc := 41) (j := sn) dX7_honour_40 rfl F.2.2.2.1 (am_ix_nI (by omega)) (by rw [tl_len]; omega) rfl ?_
      have F3 := qr_honour (j := sn) (v := v) F (by omega)
      have O4 := ob_out (a := 4) (c := .inl (0, (tl 2 (fun z9 => N (20 + 1 * z9))).set sn v)) (by omega) O
      refine aw_iload_n (npc := 42) rfl dX7_honour_41 rfl ?_
      refine aw_iret rfl dX7_honour_42 ?_
      exact hq _ _ _ (by simp [hoV, hoN, cI, hw1, hw2, fsn]) (by simp [hoV, hoN, cI, hw1, hw2, fsn]) F3 (am_fpU (show ¬ (4 < 1 ∨ 13 ≤ 4) by omega) am_fp0)
    · refine aw_re (S' := [.int 0]) rfl ?_
      refine aw_if_ne (npc := 18) (tgt := 21) dX7_honour_15 rfl (by decide) (fun hc => absurd (by decide) hc) (fun _ => ?_)
      refine aw_ldc (npc := 20) kc_X7_78 dX7_honour_18 rfl ?_
      refine aw_iret rfl dX7_honour_20 ?_
      exact hq _ _ _ (by simp [hoV, hoN, cI, hw1, hw2, fsn]) (by simp [hoV, hoN, cI, hw1, hw2, fsn]) F am_fp0
  · refine aw_re (S' := [.int 0]) rfl ?_
    refine aw_if_eq (npc := 7) (tgt := 18) dX7_honour_4 rfl (by decide) (fun _ => ?_) (fun hc => absurd (by decide) hc)
    refine aw_ldc (npc := 20) kc_X7_78 dX7_honour_18 rfl ?_
    refine aw_iret rfl dX7_honour_20 ?_
    exact hq _ _ _ (by simp [hoV, hoN, cI, hw1]) (by simp [hoV, hoN, cI, hw1]) F am_fp0
set_option maxHeartbeats 4000000 in
set_option maxRecDepth 100000 in
theorem M_honour {X : List Int32} {d rc rs n : Nat} {Q : am_Q} {h : am_H} {o N : Nat → Int32} {a : Nat → Nat → Int32} {fr c : Nat} {s : Int32} {v : Int32} (F : MR o N a h) (hR : RG N fr c) (hq : ∀ v9 N9 h9, v9 = hoV N s v → N9 = hoN N s v → MR o N9 a h9 → am_fp (fun k => k < 69 ∨ 92 ≤ k) h9 h → Q (some (.int v9)) n h9) : AW X mX8_honour (d + 12) rc rs 0 [some (.ref 69), some (.int s), some (.int v)] [] n h Q := by
  have h8r := hR.2.1
  have h14r := hR.2.2.2.1
  refine aw_iload_n (npc := 1) rfl dX8_honour_0 rfl ?_
  refine aw_iconst (npc := 2) (v := 0) (by decide) dX8_honour_1 rfl ?_
  refine aw_iconst (npc := 3) (v := 1) (by decide) dX8_honour_2 rfl ?_
  refine aw_callS (npc := 6) (N := mX8_in) (mc := 0) (ms := 0) (A := [.int s, .int 0, .int 1]) (S := []) (L0 := [some (.int s), some (.int 0), some (.int 1)]) dX8_honour_3 rfl km_X8_in kk_X8_83 rfl ⟨rfl, by decide⟩ rfl (Nat.le_of_ble_eq_true rfl) (Nat.zero_add _) (Nat.zero_add _) rfl ?_
  refine c_X8_in (fun hw1 => ?_) (fun hw1 => ?_)
  · obtain ⟨sn, hsn, esn⟩ := wi_nI (H := 1) (by decide) (by decide) hw1
    subst esn
    have fsn : fN (nI sn) = sn := fN_nI (by omega)
    refine aw_re (S' := [.int 1]) rfl ?_
    refine aw_if_eq (npc := 9) (tgt := 32) dX8_honour_6 rfl (by decide) (fun hc => absurd hc (by decide)) (fun _ => ?_)
    refine aw_iload_n (npc := 10) rfl dX8_honour_9 rfl ?_
    refine aw_iconst (npc := 11) (v := 0) (by decide) dX8_honour_10 rfl ?_
    refine aw_sipush (npc := 14) (v := 400) (by decide) dX8_honour_11 rfl ?_
    refine aw_callS (npc := 17) (N := mX8_in) (mc := 0) (ms := 0) (A := [.int v, .int 0, .int 400]) (S := []) (L0 := [some (.int v), some (.int 0), some (.int 400)]) dX8_honour_14 rfl km_X8_in kk_X8_83 rfl ⟨rfl, by decide⟩ rfl (Nat.le_of_ble_eq_true rfl) (Nat.zero_add _) (Nat.zero_add _) rfl ?_
    refine c_X8_in (fun hw2 => ?_) (fun hw2 => ?_)
    · refine aw_re (S' := [.int 1]) rfl ?_
      refine aw_if_eq (npc := 20) (tgt := 32) dX8_honour_17 rfl (by decide) (fun hc => absurd hc (by decide)) (fun _ => ?_)
      refine aw_aload_n (npc := 21) rfl dX8_honour_20 rfl ?_
      refine aw_bipush (npc := 23) (v := 20) (by decide) dX8_honour_21 rfl ?_
      refine aw_iload_n (npc := 24) rfl dX8_honour_23 rfl ?_
      refine aw_iaddV (npc := 25) (v := nI (20 + sn)) dX8_honour_24 rfl (nI_add 20 _) ?_
      refine aw_iload_n (npc := 26) rfl dX8_honour_25 rfl ?_
      refine aw_callV (npc := 29) (N := mX8_becomes) (b := 69) (mc := 0) (ms := 0) (A := [.int (nI (20 + sn)), .int v]) (S := []) (L0 := [some (.ref 69), some (.int (nI (20 + sn))), some (.int v), none]) dX8_honour_26 rfl km_X8_becomes kk_X8_135 F.1 ⟨by decide, rfl⟩ rfl ⟨rfl, by decide⟩ rfl (Nat.le_of_ble_eq_true rfl) (Nat.zero_add _) (Nat.zero_add _) rfl ?_
      refine m_becomes (j := (20 + sn)) (v := v) F (by omega) (fun hp5 F3 fb4 => ?_)
      refine aw_re (S' := [.int (N (20 + sn))]) rfl ?_
      refine aw_goto (npc := 34) dX8_honour_29 (by decide) ?_
      refine aw_iret rfl dX8_honour_34 ?_
      exact hq _ _ _ (by simp [hoV, hoN, cI, hw1, hw2, fsn]) (by simp [hoV, hoN, cI, hw1, hw2, fsn]) F3 (am_fpT (fun k (hk : k < 69 ∨ 92 ≤ k) => fb4 k (by omega)) am_fp0)
    · refine aw_re (S' := [.int 0]) rfl ?_
      refine aw_if_eq (npc := 20) (tgt := 32) dX8_honour_17 rfl (by decide) (fun _ => ?_) (fun hc => absurd (by decide) hc)
      refine aw_ldc (npc := 34) kc_X8_91 dX8_honour_32 rfl ?_
      refine aw_iret rfl dX8_honour_34 ?_
      exact hq _ _ _ (by simp [hoV, hoN, cI, hw1, hw2, fsn]) (by simp [hoV, hoN, cI, hw1, hw2, fsn]) F am_fp0
  · refine aw_re (S' := [.int 0]) rfl ?_
    refine aw_if_eq (npc := 9) (tgt := 32) dX8_honour_6 rfl (by decide) (fun _ => ?_) (fun hc => absurd (by decide) hc)
    refine aw_ldc (npc := 34) kc_X8_91 dX8_honour_32 rfl ?_
    refine aw_iret rfl dX8_honour_34 ?_
    exact hq _ _ _ (by simp [hoV, hoN, cI, hw1]) (by simp [hoV, hoN, cI, hw1]) F am_fp0
noncomputable def ruV (N : Nat → Int32) (w v : Int32) : Int32 := cI (w = 0 ∧ wi v 0 99) (N 3) (cI (w = 1 ∧ wi v 1 99) (N 4) (cI (w = 2 ∧ wi v 0 100) (N 5) (-1000000001)))
noncomputable def ruN (N : Nat → Int32) (w v : Int32) : Nat → Int32 := cI (w = 0 ∧ wi v 0 99) (upd N 3 v) (cI (w = 1 ∧ wi v 1 99) (upd N 4 v) (cI (w = 2 ∧ wi v 0 100) (upd N 5 v) N))
set_option maxHeartbeats 4000000 in
set_option maxRecDepth 100000 in
theorem C_rule {X : List Int32} {d rc rs n : Nat} {Q : am_Q} {h : am_H} {N : Nat → Int32} {tx : List Value} {lk mv : Nat → Int32} {ik wc : Int32} {fr c : Nat} {w : Int32} {v : Int32} (O : OB ik wc h) (F : QR 1 N tx lk mv h) (hR : RG N fr c) (hq : ∀ v9 N9 h9, v9 = ruV N w v → N9 = ruN N w v → QR 1 N9 tx lk mv h9 → am_fp (fun k => k < 1 ∨ 13 ≤ k) h9 h → Q (some (.int v9)) n h9) : AW X mX7_rule (d + 12) rc rs 0 [some (.ref 0), some (.int w), some (.int v), none] [] n h Q := by
  have h8r := hR.2.1
  have h14r := hR.2.2.2.1
  refine aw_iload_n (npc := 1) rfl dX7_rule_0 rfl ?_
  refine aw_if_ne (npc := 4) (tgt := 32) dX7_rule_1 rfl (by decide) (fun hc1 => ?_) (fun hc1 => ?_)
  · refine aw_iload_n (npc := 33) rfl dX7_rule_32 rfl ?_
    refine aw_iconst (npc := 34) (v := 1) (by decide) dX7_rule_33 rfl ?_
    refine aw_icmp_ne (npc := 37) (tgt := 65) dX7_rule_34 rfl (by decide) (fun hc2 => ?_) (fun hc2 => ?_)
    · refine aw_iload_n (npc := 66) rfl dX7_rule_65 rfl ?_
      refine aw_iconst (npc := 67) (v := 2) (by decide) dX7_rule_66 rfl ?_
      refine aw_icmp_ne (npc := 70) (tgt := 98) dX7_rule_67 rfl (by decide) (fun hc3 => ?_) (fun hc3 => ?_)
      · refine aw_ldc (npc := 100) kc_X7_78 dX7_rule_98 rfl ?_
        refine aw_iret rfl dX7_rule_100 ?_
        exact hq _ _ _ (by simp [ruV, ruN, cI, hc1, hc2, hc3]) (by simp [ruV, ruN, cI, hc1, hc2, hc3]) F am_fp0
      · subst hc3
        refine aw_iload_n (npc := 71) rfl dX7_rule_70 rfl ?_
        refine aw_iconst (npc := 72) (v := 0) (by decide) dX7_rule_71 rfl ?_
        refine aw_bipush (npc := 74) (v := 100) (by decide) dX7_rule_72 rfl ?_
        refine aw_callS (npc := 77) (N := mX7_within) (mc := 0) (ms := 0) (A := [.int v, .int 0, .int 100]) (S := []) (L0 := [some (.int v), some (.int 0), some (.int 100)]) dX7_rule_74 rfl km_X7_within kk_X7_74 rfl ⟨rfl, by decide⟩ rfl (Nat.le_of_ble_eq_true rfl) (Nat.zero_add _) (Nat.zero_add _) rfl ?_
        refine c_X7_within (fun hw4 => ?_) (fun hw4 => ?_)
        · refine aw_re (S' := [.int 1]) rfl ?_
          refine aw_if_eq (npc := 80) (tgt := 98) dX7_rule_77 rfl (by decide) (fun hc => absurd hc (by decide)) (fun _ => ?_)
          refine aw_aload_n (npc := 81) rfl dX7_rule_80 rfl ?_
          refine aw_get (npc := 84) dX7_rule_81 rfl kf_X7_10 O.1 rfl ?_
          refine aw_get (npc := 87) dX7_rule_84 rfl kf_X7_145 F.1 rfl ?_
          refine aw_istore_n (npc := 88) (L' := [some (.ref 0), some (.int 2), some (.int v), some (.int (N 5))]) dX7_rule_87 rfl (by decide) rfl rfl ?_
          refine aw_aload_n (npc := 89) rfl dX7_rule_88 rfl ?_
          refine aw_get (npc := 92) dX7_rule_89 rfl kf_X7_10 O.1 rfl ?_
          refine aw_iload_n (npc := 93) rfl dX7_rule_92 rfl ?_
          refine aw_put (npc := 96) dX7_rule_93 rfl kf_X7_145 F.1 (Nat.le_of_ble_eq_true rfl) (am_ok_int _) rfl ?_
          have F5 := qr_loss (v := v) F
          have O6 := ob_out (a := 1) (c := .inr (0, (QO 1 N).set 5 (.int v))) (by omega) O
          refine aw_iload_n (npc := 97) rfl dX7_rule_96 rfl ?_
          refine aw_iret rfl dX7_rule_97 ?_
          exact hq _ _ _ (by simp [ruV, ruN, cI, hc1, hc2, hw4]) (by simp [ruV, ruN, cI, hc1, hc2, hw4]) F5 (am_fpU (show ¬ (1 < 1 ∨ 13 ≤ 1) by omega) am_fp0)
        · refine aw_re (S' := [.int 0]) rfl ?_
          refine aw_if_eq (npc := 80) (tgt := 98) dX7_rule_77 rfl (by decide) (fun _ => ?_) (fun hc => absurd (by decide) hc)
          refine aw_ldc (npc := 100) kc_X7_78 dX7_rule_98 rfl ?_
          refine aw_iret rfl dX7_rule_100 ?_
          exact hq _ _ _ (by simp [ruV, ruN, cI, hc1, hc2, hw4]) (by simp [ruV, ruN, cI, hc1, hc2, hw4]) F am_fp0
    · subst hc2
      refine aw_iload_n (npc := 38) rfl dX7_rule_37 rfl ?_
      refine aw_iconst (npc := 39) (v := 1) (by decide) dX7_rule_38 rfl ?_
      refine aw_bipush (npc := 41) (v := 99) (by decide) dX7_rule_39 rfl ?_
      refine aw_callS (npc := 44) (N := mX7_within) (mc := 0) (ms := 0) (A := [.int v, .int 1, .int 99]) (S := []) (L0 := [some (.int v), some (.int 1), some (.int 99)]) dX7_rule_41 rfl km_X7_within kk_X7_74 rfl ⟨rfl, by decide⟩ rfl (Nat.le_of_ble_eq_true rfl) (Nat.zero_add _) (Nat.zero_add _) rfl ?_
      refine c_X7_within (fun hw7 => ?_) (fun hw7 => ?_)
      · refine aw_re (S' := [.int 1]) rfl ?_
        refine aw_if_eq (npc := 47) (tgt := 65) dX7_rule_44 rfl (by decide) (fun hc => absurd hc (by decide)) (fun _ => ?_)
        refine aw_aload_n (npc := 48) rfl dX7_rule_47 rfl ?_
        refine aw_get (npc := 51) dX7_rule_48 rfl kf_X7_10 O.1 rfl ?_
        refine aw_get (npc := 54) dX7_rule_51 rfl kf_X7_142 F.1 rfl ?_
        refine aw_istore_n (npc := 55) (L' := [some (.ref 0), some (.int 1), some (.int v), some (.int (N 4))]) dX7_rule_54 rfl (by decide) rfl rfl ?_
        refine aw_aload_n (npc := 56) rfl dX7_rule_55 rfl ?_
        refine aw_get (npc := 59) dX7_rule_56 rfl kf_X7_10 O.1 rfl ?_
        refine aw_iload_n (npc := 60) rfl dX7_rule_59 rfl ?_
        refine aw_put (npc := 63) dX7_rule_60 rfl kf_X7_142 F.1 (Nat.le_of_ble_eq_true rfl) (am_ok_int _) rfl ?_
        have F8 := qr_duel (v := v) F
        have O9 := ob_out (a := 1) (c := .inr (0, (QO 1 N).set 4 (.int v))) (by omega) O
        refine aw_iload_n (npc := 64) rfl dX7_rule_63 rfl ?_
        refine aw_iret rfl dX7_rule_64 ?_
        exact hq _ _ _ (by simp [ruV, ruN, cI, hc1, hw7]) (by simp [ruV, ruN, cI, hc1, hw7]) F8 (am_fpU (show ¬ (1 < 1 ∨ 13 ≤ 1) by omega) am_fp0)
      · refine aw_re (S' := [.int 0]) rfl ?_
        refine aw_if_eq (npc := 47) (tgt := 65) dX7_rule_44 rfl (by decide) (fun _ => ?_) (fun hc => absurd (by decide) hc)
        refine aw_iload_n (npc := 66) rfl dX7_rule_65 rfl ?_
        refine aw_iconst (npc := 67) (v := 2) (by decide) dX7_rule_66 rfl ?_
        refine aw_icmp_ne (npc := 70) (tgt := 98) dX7_rule_67 rfl (by decide) (fun _ => ?_) (fun hc => absurd hc (by decide))
        refine aw_ldc (npc := 100) kc_X7_78 dX7_rule_98 rfl ?_
        refine aw_iret rfl dX7_rule_100 ?_
        exact hq _ _ _ (by simp [ruV, ruN, cI, hc1, hw7]) (by simp [ruV, ruN, cI, hc1, hw7]) F am_fp0
  · subst hc1
    refine aw_iload_n (npc := 5) rfl dX7_rule_4 rfl ?_
    refine aw_iconst (npc := 6) (v := 0) (by decide) dX7_rule_5 rfl ?_
    refine aw_bipush (npc := 8) (v := 99) (by decide) dX7_rule_6 rfl ?_
    refine aw_callS (npc := 11) (N := mX7_within) (mc := 0) (ms := 0) (A := [.int v, .int 0, .int 99]) (S := []) (L0 := [some (.int v), some (.int 0), some (.int 99)]) dX7_rule_8 rfl km_X7_within kk_X7_74 rfl ⟨rfl, by decide⟩ rfl (Nat.le_of_ble_eq_true rfl) (Nat.zero_add _) (Nat.zero_add _) rfl ?_
    refine c_X7_within (fun hw10 => ?_) (fun hw10 => ?_)
    · refine aw_re (S' := [.int 1]) rfl ?_
      refine aw_if_eq (npc := 14) (tgt := 32) dX7_rule_11 rfl (by decide) (fun hc => absurd hc (by decide)) (fun _ => ?_)
      refine aw_aload_n (npc := 15) rfl dX7_rule_14 rfl ?_
      refine aw_get (npc := 18) dX7_rule_15 rfl kf_X7_10 O.1 rfl ?_
      refine aw_get (npc := 21) dX7_rule_18 rfl kf_X7_139 F.1 rfl ?_
      refine aw_istore_n (npc := 22) (L' := [some (.ref 0), some (.int 0), some (.int v), some (.int (N 3))]) dX7_rule_21 rfl (by decide) rfl rfl ?_
      refine aw_aload_n (npc := 23) rfl dX7_rule_22 rfl ?_
      refine aw_get (npc := 26) dX7_rule_23 rfl kf_X7_10 O.1 rfl ?_
      refine aw_iload_n (npc := 27) rfl dX7_rule_26 rfl ?_
      refine aw_put (npc := 30) dX7_rule_27 rfl kf_X7_139 F.1 (Nat.le_of_ble_eq_true rfl) (am_ok_int _) rfl ?_
      have F11 := qr_heat (v := v) F
      have O12 := ob_out (a := 1) (c := .inr (0, (QO 1 N).set 3 (.int v))) (by omega) O
      refine aw_iload_n (npc := 31) rfl dX7_rule_30 rfl ?_
      refine aw_iret rfl dX7_rule_31 ?_
      exact hq _ _ _ (by simp [ruV, ruN, cI, hw10]) (by simp [ruV, ruN, cI, hw10]) F11 (am_fpU (show ¬ (1 < 1 ∨ 13 ≤ 1) by omega) am_fp0)
    · refine aw_re (S' := [.int 0]) rfl ?_
      refine aw_if_eq (npc := 14) (tgt := 32) dX7_rule_11 rfl (by decide) (fun _ => ?_) (fun hc => absurd (by decide) hc)
      refine aw_iload_n (npc := 33) rfl dX7_rule_32 rfl ?_
      refine aw_iconst (npc := 34) (v := 1) (by decide) dX7_rule_33 rfl ?_
      refine aw_icmp_ne (npc := 37) (tgt := 65) dX7_rule_34 rfl (by decide) (fun _ => ?_) (fun hc => absurd hc (by decide))
      refine aw_iload_n (npc := 66) rfl dX7_rule_65 rfl ?_
      refine aw_iconst (npc := 67) (v := 2) (by decide) dX7_rule_66 rfl ?_
      refine aw_icmp_ne (npc := 70) (tgt := 98) dX7_rule_67 rfl (by decide) (fun _ => ?_) (fun hc => absurd hc (by decide))
      refine aw_ldc (npc := 100) kc_X7_78 dX7_rule_98 rfl ?_
      refine aw_iret rfl dX7_rule_100 ?_
      exact hq _ _ _ (by simp [ruV, ruN, cI, hw10]) (by simp [ruV, ruN, cI, hw10]) F am_fp0
set_option maxHeartbeats 4000000 in
set_option maxRecDepth 100000 in
theorem M_rule {X : List Int32} {d rc rs n : Nat} {Q : am_Q} {h : am_H} {o N : Nat → Int32} {a : Nat → Nat → Int32} {fr c : Nat} {w : Int32} {v : Int32} (F : MR o N a h) (hR : RG N fr c) (hq : ∀ v9 N9 h9, v9 = ruV N w v → N9 = ruN N w v → MR o N9 a h9 → am_fp (fun k => k < 69 ∨ 92 ≤ k) h9 h → Q (some (.int v9)) n h9) : AW X mX8_rule (d + 12) rc rs 0 [some (.ref 69), some (.int w), some (.int v)] [] n h Q := by
  have h8r := hR.2.1
  have h14r := hR.2.2.2.1
  refine aw_iload_n (npc := 1) rfl dX8_rule_0 rfl ?_
  refine aw_iconst (npc := 2) (v := 0) (by decide) dX8_rule_1 rfl ?_
  refine aw_iconst (npc := 3) (v := 2) (by decide) dX8_rule_2 rfl ?_
  refine aw_callS (npc := 6) (N := mX8_in) (mc := 0) (ms := 0) (A := [.int w, .int 0, .int 2]) (S := []) (L0 := [some (.int w), some (.int 0), some (.int 2)]) dX8_rule_3 rfl km_X8_in kk_X8_83 rfl ⟨rfl, by decide⟩ rfl (Nat.le_of_ble_eq_true rfl) (Nat.zero_add _) (Nat.zero_add _) rfl ?_
  refine c_X8_in (fun hw1 => ?_) (fun hw1 => ?_)
  · rcases wi_c0_2 hw1 with rfl | rfl | rfl
    · refine aw_re (S' := [.int 1]) rfl ?_
      refine aw_if_eq (npc := 9) (tgt := 49) dX8_rule_6 rfl (by decide) (fun hc => absurd hc (by decide)) (fun _ => ?_)
      refine aw_iload_n (npc := 10) rfl dX8_rule_9 rfl ?_
      refine aw_iload_n (npc := 11) rfl dX8_rule_10 rfl ?_
      refine aw_iconst (npc := 12) (v := 1) (by decide) dX8_rule_11 rfl ?_
      refine aw_icmp_ne (npc := 15) (tgt := 19) dX8_rule_12 rfl (by decide) (fun _ => ?_) (fun hc => absurd hc (by decide))
      refine aw_iconst (npc := 20) (v := 0) (by decide) dX8_rule_19 rfl ?_
      refine aw_iload_n (npc := 21) rfl dX8_rule_20 rfl ?_
      refine aw_iconst (npc := 22) (v := 2) (by decide) dX8_rule_21 rfl ?_
      refine aw_icmp_ne (npc := 25) (tgt := 30) dX8_rule_22 rfl (by decide) (fun _ => ?_) (fun hc => absurd hc (by decide))
      refine aw_bipush (npc := 32) (v := 99) (by decide) dX8_rule_30 rfl ?_
      refine aw_callS (npc := 35) (N := mX8_in) (mc := 0) (ms := 0) (A := [.int v, .int 0, .int 99]) (S := []) (L0 := [some (.int v), some (.int 0), some (.int 99)]) dX8_rule_32 rfl km_X8_in kk_X8_83 rfl ⟨rfl, by decide⟩ rfl (Nat.le_of_ble_eq_true rfl) (Nat.zero_add _) (Nat.zero_add _) rfl ?_
      refine c_X8_in (fun hw2 => ?_) (fun hw2 => ?_)
      · refine aw_re (S' := [.int 1]) rfl ?_
        refine aw_if_eq (npc := 38) (tgt := 49) dX8_rule_35 rfl (by decide) (fun hc => absurd hc (by decide)) (fun _ => ?_)
        refine aw_aload_n (npc := 39) rfl dX8_rule_38 rfl ?_
        refine aw_iconst (npc := 40) (v := 3) (by decide) dX8_rule_39 rfl ?_
        refine aw_iload_n (npc := 41) rfl dX8_rule_40 rfl ?_
        refine aw_iaddV (npc := 42) (v := 3) dX8_rule_41 rfl (by decide) ?_
        refine aw_iload_n (npc := 43) rfl dX8_rule_42 rfl ?_
        refine aw_callV (npc := 46) (N := mX8_becomes) (b := 69) (mc := 0) (ms := 0) (A := [.int 3, .int v]) (S := []) (L0 := [some (.ref 69), some (.int 3), some (.int v), none]) dX8_rule_43 rfl km_X8_becomes kk_X8_135 F.1 ⟨by decide, rfl⟩ rfl ⟨rfl, by decide⟩ rfl (Nat.le_of_ble_eq_true rfl) (Nat.zero_add _) (Nat.zero_add _) rfl ?_
        refine m_becomes (j := 3) (v := v) F (by omega) (fun hp5 F3 fb4 => ?_)
        refine aw_re (S' := [.int (N 3)]) rfl ?_
        refine aw_goto (npc := 51) dX8_rule_46 (by decide) ?_
        refine aw_iret rfl dX8_rule_51 ?_
        exact hq _ _ _ (by simp [ruV, ruN, cI, hw2]) (by simp [ruV, ruN, cI, hw2]) F3 (am_fpT (fun k (hk : k < 69 ∨ 92 ≤ k) => fb4 k (by omega)) am_fp0)
      · refine aw_re (S' := [.int 0]) rfl ?_
        refine aw_if_eq (npc := 38) (tgt := 49) dX8_rule_35 rfl (by decide) (fun _ => ?_) (fun hc => absurd (by decide) hc)
        refine aw_ldc (npc := 51) kc_X8_91 dX8_rule_49 rfl ?_
        refine aw_iret rfl dX8_rule_51 ?_
        exact hq _ _ _ (by simp [ruV, ruN, cI, hw2]) (by simp [ruV, ruN, cI, hw2]) F am_fp0
    · refine aw_re (S' := [.int 1]) rfl ?_
      refine aw_if_eq (npc := 9) (tgt := 49) dX8_rule_6 rfl (by decide) (fun hc => absurd hc (by decide)) (fun _ => ?_)
      refine aw_iload_n (npc := 10) rfl dX8_rule_9 rfl ?_
      refine aw_iload_n (npc := 11) rfl dX8_rule_10 rfl ?_
      refine aw_iconst (npc := 12) (v := 1) (by decide) dX8_rule_11 rfl ?_
      refine aw_icmp_ne (npc := 15) (tgt := 19) dX8_rule_12 rfl (by decide) (fun hc => absurd (by decide) hc) (fun _ => ?_)
      refine aw_iconst (npc := 16) (v := 1) (by decide) dX8_rule_15 rfl ?_
      refine aw_goto (npc := 20) dX8_rule_16 (by decide) ?_
      refine aw_iload_n (npc := 21) rfl dX8_rule_20 rfl ?_
      refine aw_iconst (npc := 22) (v := 2) (by decide) dX8_rule_21 rfl ?_
      refine aw_icmp_ne (npc := 25) (tgt := 30) dX8_rule_22 rfl (by decide) (fun _ => ?_) (fun hc => absurd hc (by decide))
      refine aw_bipush (npc := 32) (v := 99) (by decide) dX8_rule_30 rfl ?_
      refine aw_callS (npc := 35) (N := mX8_in) (mc := 0) (ms := 0) (A := [.int v, .int 1, .int 99]) (S := []) (L0 := [some (.int v), some (.int 1), some (.int 99)]) dX8_rule_32 rfl km_X8_in kk_X8_83 rfl ⟨rfl, by decide⟩ rfl (Nat.le_of_ble_eq_true rfl) (Nat.zero_add _) (Nat.zero_add _) rfl ?_
      refine c_X8_in (fun hw6 => ?_) (fun hw6 => ?_)
      · refine aw_re (S' := [.int 1]) rfl ?_
        refine aw_if_eq (npc := 38) (tgt := 49) dX8_rule_35 rfl (by decide) (fun hc => absurd hc (by decide)) (fun _ => ?_)
        refine aw_aload_n (npc := 39) rfl dX8_rule_38 rfl ?_
        refine aw_iconst (npc := 40) (v := 3) (by decide) dX8_rule_39 rfl ?_
        refine aw_iload_n (npc := 41) rfl dX8_rule_40 rfl ?_
        refine aw_iaddV (npc := 42) (v := 4) dX8_rule_41 rfl (by decide) ?_
        refine aw_iload_n (npc := 43) rfl dX8_rule_42 rfl ?_
        refine aw_callV (npc := 46) (N := mX8_becomes) (b := 69) (mc := 0) (ms := 0) (A := [.int 4, .int v]) (S := []) (L0 := [some (.ref 69), some (.int 4), some (.int v), none]) dX8_rule_43 rfl km_X8_becomes kk_X8_135 F.1 ⟨by decide, rfl⟩ rfl ⟨rfl, by decide⟩ rfl (Nat.le_of_ble_eq_true rfl) (Nat.zero_add _) (Nat.zero_add _) rfl ?_
        refine m_becomes (j := 4) (v := v) F (by omega) (fun hp9 F7 fb8 => ?_)
        refine aw_re (S' := [.int (N 4)]) rfl ?_
        refine aw_goto (npc := 51) dX8_rule_46 (by decide) ?_
        refine aw_iret rfl dX8_rule_51 ?_
        exact hq _ _ _ (by simp [ruV, ruN, cI, hw6]) (by simp [ruV, ruN, cI, hw6]) F7 (am_fpT (fun k (hk : k < 69 ∨ 92 ≤ k) => fb8 k (by omega)) am_fp0)
      · refine aw_re (S' := [.int 0]) rfl ?_
        refine aw_if_eq (npc := 38) (tgt := 49) dX8_rule_35 rfl (by decide) (fun _ => ?_) (fun hc => absurd (by decide) hc)
        refine aw_ldc (npc := 51) kc_X8_91 dX8_rule_49 rfl ?_
        refine aw_iret rfl dX8_rule_51 ?_
        exact hq _ _ _ (by simp [ruV, ruN, cI, hw6]) (by simp [ruV, ruN, cI, hw6]) F am_fp0
    · refine aw_re (S' := [.int 1]) rfl ?_
      refine aw_if_eq (npc := 9) (tgt := 49) dX8_rule_6 rfl (by decide) (fun hc => absurd hc (by decide)) (fun _ => ?_)
      refine aw_iload_n (npc := 10) rfl dX8_rule_9 rfl ?_
      refine aw_iload_n (npc := 11) rfl dX8_rule_10 rfl ?_
      refine aw_iconst (npc := 12) (v := 1) (by decide) dX8_rule_11 rfl ?_
      refine aw_icmp_ne (npc := 15) (tgt := 19) dX8_rule_12 rfl (by decide) (fun _ => ?_) (fun hc => absurd hc (by decide))
      refine aw_iconst (npc := 20) (v := 0) (by decide) dX8_rule_19 rfl ?_
      refine aw_iload_n (npc := 21) rfl dX8_rule_20 rfl ?_
      refine aw_iconst (npc := 22) (v := 2) (by decide) dX8_rule_21 rfl ?_
      refine aw_icmp_ne (npc := 25) (tgt := 30) dX8_rule_22 rfl (by decide) (fun hc => absurd (by decide) hc) (fun _ => ?_)
      refine aw_bipush (npc := 27) (v := 100) (by decide) dX8_rule_25 rfl ?_
      refine aw_goto (npc := 32) dX8_rule_27 (by decide) ?_
      refine aw_callS (npc := 35) (N := mX8_in) (mc := 0) (ms := 0) (A := [.int v, .int 0, .int 100]) (S := []) (L0 := [some (.int v), some (.int 0), some (.int 100)]) dX8_rule_32 rfl km_X8_in kk_X8_83 rfl ⟨rfl, by decide⟩ rfl (Nat.le_of_ble_eq_true rfl) (Nat.zero_add _) (Nat.zero_add _) rfl ?_
      refine c_X8_in (fun hw10 => ?_) (fun hw10 => ?_)
      · refine aw_re (S' := [.int 1]) rfl ?_
        refine aw_if_eq (npc := 38) (tgt := 49) dX8_rule_35 rfl (by decide) (fun hc => absurd hc (by decide)) (fun _ => ?_)
        refine aw_aload_n (npc := 39) rfl dX8_rule_38 rfl ?_
        refine aw_iconst (npc := 40) (v := 3) (by decide) dX8_rule_39 rfl ?_
        refine aw_iload_n (npc := 41) rfl dX8_rule_40 rfl ?_
        refine aw_iaddV (npc := 42) (v := 5) dX8_rule_41 rfl (by decide) ?_
        refine aw_iload_n (npc := 43) rfl dX8_rule_42 rfl ?_
        refine aw_callV (npc := 46) (N := mX8_becomes) (b := 69) (mc := 0) (ms := 0) (A := [.int 5, .int v]) (S := []) (L0 := [some (.ref 69), some (.int 5), some (.int v), none]) dX8_rule_43 rfl km_X8_becomes kk_X8_135 F.1 ⟨by decide, rfl⟩ rfl ⟨rfl, by decide⟩ rfl (Nat.le_of_ble_eq_true rfl) (Nat.zero_add _) (Nat.zero_add _) rfl ?_
        refine m_becomes (j := 5) (v := v) F (by omega) (fun hp13 F11 fb12 => ?_)
        refine aw_re (S' := [.int (N 5)]) rfl ?_
        refine aw_goto (npc := 51) dX8_rule_46 (by decide) ?_
        refine aw_iret rfl dX8_rule_51 ?_
        exact hq _ _ _ (by simp [ruV, ruN, cI, hw10]) (by simp [ruV, ruN, cI, hw10]) F11 (am_fpT (fun k (hk : k < 69 ∨ 92 ≤ k) => fb12 k (by omega)) am_fp0)
      · refine aw_re (S' := [.int 0]) rfl ?_
        refine aw_if_eq (npc := 38) (tgt := 49) dX8_rule_35 rfl (by decide) (fun _ => ?_) (fun hc => absurd (by decide) hc)
        refine aw_ldc (npc := 51) kc_X8_91 dX8_rule_49 rfl ?_
        refine aw_iret rfl dX8_rule_51 ?_
        exact hq _ _ _ (by simp [ruV, ruN, cI, hw10]) (by simp [ruV, ruN, cI, hw10]) F am_fp0
  · refine aw_re (S' := [.int 0]) rfl ?_
    refine aw_if_eq (npc := 9) (tgt := 49) dX8_rule_6 rfl (by decide) (fun _ => ?_) (fun hc => absurd (by decide) hc)
    refine aw_ldc (npc := 51) kc_X8_91 dX8_rule_49 rfl ?_
    refine aw_iret rfl dX8_rule_51 ?_
    exact hq _ _ _ (by simp [ruV, ruN, cI, hw1, nwi_1 hw1 (k := 0) ⟨by decide, by decide⟩, nwi_1 hw1 (k := 1) ⟨by decide, by decide⟩, nwi_1 hw1 (k := 2) ⟨by decide, by decide⟩]) (by simp [ruV, ruN, cI, hw1, nwi_1 hw1 (k := 0) ⟨by decide, by decide⟩, nwi_1 hw1 (k := 1) ⟨by decide, by decide⟩, nwi_1 hw1 (k := 2) ⟨by decide, by decide⟩]) F am_fp0
set_option maxHeartbeats 4000000 in
set_option maxRecDepth 100000 in
theorem C_seed {X : List Int32} {d rc rs n : Nat} {Q : am_Q} {h : am_H} {N : Nat → Int32} {tx : List Value} {lk mv : Nat → Int32} {ik wc : Int32} {fr c : Nat} {v : Int32} (O : OB ik wc h) (F : QR 1 N tx lk mv h) (hR : RG N fr c) (hq : ∀ v9 N9 h9, v9 = N 0 → N9 = upd N 0 v → QR 1 N9 tx lk mv h9 → am_fp (fun k => k < 1 ∨ 13 ≤ k) h9 h → Q (some (.int v9)) n h9) : AW X mX7_seed (d + 12) rc rs 0 [some (.ref 0), some (.int v), none] [] n h Q := by
  have h8r := hR.2.1
  have h14r := hR.2.2.2.1
  refine aw_aload_n (npc := 1) rfl dX7_seed_0 rfl ?_
  refine aw_get (npc := 4) dX7_seed_1 rfl kf_X7_10 O.1 rfl ?_
  refine aw_get (npc := 7) dX7_seed_4 rfl kf_X7_157 F.1 rfl ?_
  refine aw_istore_n (npc := 8) (L' := [some (.ref 0), some (.int v), some (.int (N 0))]) dX7_seed_7 rfl (by decide) rfl rfl ?_
  refine aw_aload_n (npc := 9) rfl dX7_seed_8 rfl ?_
  refine aw_get (npc := 12) dX7_seed_9 rfl kf_X7_10 O.1 rfl ?_
  refine aw_iload_n (npc := 13) rfl dX7_seed_12 rfl ?_
  refine aw_put (npc := 16) dX7_seed_13 rfl kf_X7_157 F.1 (Nat.le_of_ble_eq_true rfl) (am_ok_int _) rfl ?_
  have F1 := qr_z (v := v) F
  have O2 := ob_out (a := 1) (c := .inr (0, (QO 1 N).set 8 (.int v))) (by omega) O
  refine aw_iload_n (npc := 17) rfl dX7_seed_16 rfl ?_
  refine aw_iret rfl dX7_seed_17 ?_
  exact hq _ _ _ (by simp [cI]) (by simp [cI]) F1 (am_fpU (show ¬ (1 < 1 ∨ 13 ≤ 1) by omega) am_fp0)
set_option maxHeartbeats 4000000 in
set_option maxRecDepth 100000 in
theorem M_seed {X : List Int32} {d rc rs n : Nat} {Q : am_Q} {h : am_H} {o N : Nat → Int32} {a : Nat → Nat → Int32} {fr c : Nat} {v : Int32} (F : MR o N a h) (hR : RG N fr c) (hq : ∀ v9 N9 h9, v9 = N 0 → N9 = upd N 0 v → MR o N9 a h9 → am_fp (fun k => k < 69 ∨ 92 ≤ k) h9 h → Q (some (.int v9)) n h9) : AW X mX8_seed (d + 12) rc rs 0 [some (.ref 69), some (.int v)] [] n h Q := by
  have h8r := hR.2.1
  have h14r := hR.2.2.2.1
  refine aw_aload_n (npc := 1) rfl dX8_seed_0 rfl ?_
  refine aw_iconst (npc := 2) (v := 0) (by decide) dX8_seed_1 rfl ?_
  refine aw_iload_n (npc := 3) rfl dX8_seed_2 rfl ?_
  refine aw_callV (npc := 6) (N := mX8_becomes) (b := 69) (mc := 0) (ms := 0) (A := [.int 0, .int v]) (S := []) (L0 := [some (.ref 69), some (.int 0), some (.int v), none]) dX8_seed_3 rfl km_X8_becomes kk_X8_135 F.1 ⟨by decide, rfl⟩ rfl ⟨rfl, by decide⟩ rfl (Nat.le_of_ble_eq_true rfl) (Nat.zero_add _) (Nat.zero_add _) rfl ?_
  refine m_becomes (j := 0) (v := v) F (by omega) (fun hp3 F1 fb2 => ?_)
  refine aw_re (S' := [.int (N 0)]) rfl ?_
  refine aw_iret rfl dX8_seed_6 ?_
  exact hq _ _ _ (by simp [cI]) (by simp [cI]) F1 (am_fpT (fun k (hk : k < 69 ∨ 92 ≤ k) => fb2 k (by omega)) am_fp0)
