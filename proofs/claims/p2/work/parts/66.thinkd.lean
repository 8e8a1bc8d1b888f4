noncomputable def clM (c fr K : Nat) (N : Nat → Int32) : Nat → Int32
  | 0 => (-1000000005)
  | v + 1 => cI (peace (goF c fr (-1) K (upd N 3 (nI v)))) (nI v) (clM c fr K N v)
noncomputable def coolV (c fr : Nat) (N : Nat → Int32) (v : Int32) : Int32 := cI (wi v 1 40) (clM c fr (fN v) N 100) (-1000000001)
set_option maxHeartbeats 4000000 in
set_option maxRecDepth 100000 in
theorem C_coolL {X : List Int32} {d rc rs n : Nat} {Q : am_Q} {tx : List Value} {lk : Nat → Int32} {ik wc : Int32} {fr c : Nat} {tb : TB} {N mv : Nat → Int32} {K : Nat} (hK40 : K < 1000) (hC : TC tb tx lk N c) (hK : RK N fr c) : ∀ (m : Nat), m ≤ 100 → ∀ (h : am_H), OB ik wc h → QR 1 N tx lk mv h → TQ h → TT tb h → (∀ v9 h9, v9 = clM c fr K N m → TQ h9 → TT tb h9 → am_fp (fun k => k < 92 ∧ (k < 13 ∨ 25 ≤ k)) h9 h → Q (some (.int v9)) n h9) → AW X mX7_cool (d + 40) rc rs 16 [some (.ref 0), some (.int (nI K)), some (.int (nI m - 1))] [] n h Q := by
  have h8r := hK.2.1
  intro m
  induction m with
  | zero =>
    intro hm h O F T2 G hq
    rw [show nI 0 - 1 = (-1 : Int32) by decide]
    refine aw_iload_n (npc := 17) rfl dX7_cool_16 rfl ?_
    refine aw_if_lt (npc := 20) (tgt := 67) dX7_cool_17 rfl (by decide) (fun _ => ?_) (fun hc => absurd (by decide) hc)
    refine aw_ldc (npc := 69) kc_X7_200 dX7_cool_67 rfl ?_
    refine aw_iret rfl dX7_cool_69 ?_
    exact hq _ _ (by simp [clM, cI]) T2 G am_fp0
  | succ m ih =>
    intro hm h O F T2 G hq
    obtain ⟨N1, tx1, lk1, mv1, F2, hl13⟩ := T2
    rw [nIs1 m (by omega)]
    refine aw_iload_n (npc := 17) rfl dX7_cool_16 rfl ?_
    refine aw_if_lt (npc := 20) (tgt := 67) dX7_cool_17 rfl (by decide) (fun hc => absurd hc (nI_pos (by omega))) (fun _ => ?_)
    refine aw_aload_n (npc := 21) rfl dX7_cool_20 rfl ?_
    refine aw_get (npc := 24) dX7_cool_21 rfl kf_X7_16 O.1 rfl ?_
    refine aw_aload_n (npc := 25) rfl dX7_cool_24 rfl ?_
    refine aw_get (npc := 28) dX7_cool_25 rfl kf_X7_10 O.1 rfl ?_
    refine aw_callV (npc := 31) (N := mX0_becomes) (b := 13) (mc := 0) (ms := 0) (A := [.ref 1]) (S := []) (L0 := [some (.ref 13), some (.ref 1), none]) dX7_cool_28 rfl km_X0_becomes kk_X7_193 F2.1 ⟨by decide, rfl⟩ rfl ⟨rfl, by decide⟩ rfl (Nat.le_of_ble_eq_true rfl) (Nat.zero_add _) (Nat.zero_add _) rfl ?_
    refine g_bec (tb := tb) F2 F G (by omega) (by omega) hl13 hC.1.1 hC.1.2.2.1 (fun hp4 F2 fz3 => ?_)
    have O5 := ob_frame O (fz3 0 (by omega)) (fz3 43 (by omega)) (fz3 44 (by omega))
    have F6 := qr_frame F (fun k h1 h2 => fz3 k (by omega))
    have G7 := tt_frame G (fun k hk => fz3 k (by omega))
    refine aw_aload_n (npc := 32) rfl dX7_cool_31 rfl ?_
    refine aw_get (npc := 35) dX7_cool_32 rfl kf_X7_16 O5.1 rfl ?_
    refine aw_iload_n (npc := 36) rfl dX7_cool_35 rfl ?_
    refine aw_put (npc := 39) dX7_cool_36 rfl kf_X7_139 F2.1 (Nat.le_of_ble_eq_true rfl) (am_ok_int _) rfl ?_
    have F8 := qr_heat (v := nI m) F2
    have O9 := ob_out (a := 13) (c := .inr (0, (QO 13 N).set 3 (.int (nI m)))) (by omega) O5
    have F10 := qr_out (a := 13) (c := .inr (0, (QO 13 N).set 3 (.int (nI m)))) (by omega) F6
    have G11 := tt_out (k := 13) (c := .inr (0, (QO 13 N).set 3 (.int (nI m)))) (by omega) G7
    refine aw_aload_n (npc := 40) rfl dX7_cool_39 rfl ?_
    refine aw_get (npc := 43) dX7_cool_40 rfl kf_X7_16 O9.1 rfl ?_
    refine aw_iload_n (npc := 44) rfl dX7_cool_43 rfl ?_
    refine aw_iconst (npc := 45) (v := -1) (by decide) dX7_cool_44 rfl ?_
    refine aw_callV (npc := 48) (N := mX0_runPosts) (b := 13) (mc := 0) (ms := 0) (A := [.int (nI K), .int (-1)]) (S := []) (L0 := [some (.ref 13), some (.int (nI K)), some (.int (-1)), none, none]) dX7_cool_45 rfl km_X0_runPosts kk_X7_163 F8.1 ⟨by decide, rfl⟩ rfl ⟨rfl, by decide⟩ rfl (Nat.le_of_ble_eq_true rfl) (Nat.zero_add _) (Nat.zero_add _) rfl ?_
    have hT21 : TC tb tx lk (upd N 3 (nI m)) c := (tc_u (by omega) (by omega) hC)
    have hK22 : RK (upd N 3 (nI m)) fr c := (rk_heat (wi_n0 (c := 99) (by omega) (by omega)) hK)
    refine g_run (b := 13) (K := K) (wo := (-1)) F8 G11 hK22.1 hK22.2.1 hK22.2.2.1 hT21.1 (fun f hf => ⟨(hK22.2.2.2.2.1 f hf).1, (hK22.2.2.2.2.1 f hf).2.1⟩) (by omega) (by omega) (fun N912 s913 m914 h915 hr16 F17 G18 fz19 => ?_)
    have er20 := (run_c K _ _ _ _ hT21 hK22 hr16).1
    rw [er20] at F17
    have fy23 : ∀ k, (k < 92 ∧ (k < 13 ∨ 13 + 12 ≤ k)) → h915 k = _ := fun k hk => fz19 k hk.1 hk.2
    have O24 := ob_frame O9 (fy23 0 (by omega)) (fy23 43 (by omega)) (fy23 44 (by omega))
    have F25 := qr_frame F10 (fun k h1 h2 => fy23 k (by omega))
    refine aw_re (S' := [.int s913]) rfl ?_
    refine aw_pop (npc := 49) rfl dX7_cool_48 rfl ?_
    refine aw_aload_n (npc := 50) rfl dX7_cool_49 rfl ?_
    refine aw_get (npc := 53) dX7_cool_50 rfl kf_X7_16 O24.1 rfl ?_
    refine aw_callV (npc := 56) (N := mX0_isPeace) (b := 13) (mc := 0) (ms := 0) (A := []) (S := []) (L0 := [some (.ref 13)]) dX7_cool_53 rfl km_X0_isPeace kk_X7_169 F17.1 ⟨by decide, rfl⟩ rfl ⟨rfl, by decide⟩ rfl (Nat.le_of_ble_eq_true rfl) (Nat.zero_add _) (Nat.zero_add _) rfl ?_
    refine g_peace F17 (fun hp26 => ?_) (fun hp26 => ?_)
    · refine aw_re (S' := [.int 1]) rfl ?_
      refine aw_if_eq (npc := 59) (tgt := 61) dX7_cool_56 rfl (by decide) (fun hc => absurd hc (by decide)) (fun _ => ?_)
      refine aw_iload_n (npc := 60) rfl dX7_cool_59 rfl ?_
      refine aw_iret rfl dX7_cool_60 ?_
      exact hq _ _ (by simp [clM, cI, hp26]) ⟨_, _, _, _, F17, hC.1.1⟩ G18 (am_fpT (fun k (hk : k < 92 ∧ (k < 13 ∨ 25 ≤ k)) => fy23 k (by omega)) (am_fpU (show ¬ (13 < 92 ∧ (13 < 13 ∨ 25 ≤ 13)) by omega) (am_fpT (fun k (hk : k < 92 ∧ (k < 13 ∨ 25 ≤ k)) => fz3 k (by omega)) am_fp0)))
    · refine aw_re (S' := [.int 0]) rfl ?_
      refine aw_if_eq (npc := 59) (tgt := 61) dX7_cool_56 rfl (by decide) (fun _ => ?_) (fun hc => absurd (by decide) hc)
      refine aw_iinc (npc := 64) (v := nI m - 1) (L' := [some (.ref 0), some (.int (nI K)), some (.int (nI m - 1))]) dX7_cool_61 rfl rfl (m1_m1 _) (by decide) rfl rfl ?_
      refine aw_goto (npc := 16) dX7_cool_64 (by decide) ?_
      refine ih (by omega) _ O24 F25 ⟨_, _, _, _, F17, hC.1.1⟩ G18 (fun v9 h9 e9 T9 G9 f9 => hq v9 h9 ?_ T9 G9 (am_fpT f9 (am_fpT (fun k (hk : k < 92 ∧ (k < 13 ∨ 25 ≤ k)) => fy23 k (by omega)) (am_fpU (show ¬ (13 < 92 ∧ (13 < 13 ∨ 25 ≤ 13)) by omega) (am_fpT (fun k (hk : k < 92 ∧ (k < 13 ∨ 25 ≤ k)) => fz3 k (by omega)) am_fp0)))))
      rw [e9]; simp [clM, cI, hp26]
set_option maxHeartbeats 4000000 in
set_option maxRecDepth 100000 in
theorem C_cool {X : List Int32} {d rc rs n : Nat} {Q : am_Q} {h : am_H} {N : Nat → Int32} {tx : List Value} {lk mv : Nat → Int32} {ik wc : Int32} {fr c : Nat} {v : Int32} {tb : TB} (O : OB ik wc h) (F : QR 1 N tx lk mv h) (T2 : TQ h) (G : TT tb h) (hR : RG N fr c) (hC : TC tb tx lk N c) (hq : ∀ v9 h9, v9 = coolV c fr N v → TQ h9 → TT tb h9 → am_fp (fun k => k < 92 ∧ (k < 13 ∨ 25 ≤ k)) h9 h → Q (some (.int v9)) n h9) : AW X mX7_cool (d + 40) rc rs 0 [some (.ref 0), some (.int v), none] [] n h Q := by
  have h8r := hR.2.1
  have h14r := hR.2.2.2.1
  refine aw_iload_n (npc := 1) rfl dX7_cool_0 rfl ?_
  refine aw_iconst (npc := 2) (v := 1) (by decide) dX7_cool_1 rfl ?_
  refine aw_bipush (npc := 4) (v := 40) (by decide) dX7_cool_2 rfl ?_
  refine aw_callS (npc := 7) (N := mX7_within) (mc := 0) (ms := 0) (A := [.int v, .int 1, .int 40]) (S := []) (L0 := [some (.int v), some (.int 1), some (.int 40)]) dX7_cool_4 rfl km_X7_within kk_X7_74 rfl ⟨rfl, by decide⟩ rfl (Nat.le_of_ble_eq_true rfl) (Nat.zero_add _) (Nat.zero_add _) rfl ?_
  refine c_X7_within (fun hw1 => ?_) (fun hw1 => ?_)
  · obtain ⟨vn, hvn, evn⟩ := wi_nI (H := 40) (by decide) (by decide) hw1
    subst evn
    have fvn : fN (nI vn) = vn := fN_nI (by omega)
    refine aw_re (S' := [.int 1]) rfl ?_
    refine aw_if_ne (npc := 10) (tgt := 13) dX7_cool_7 rfl (by decide) (fun _ => ?_) (fun hc => absurd hc (by decide))
    refine aw_bipush (npc := 15) (v := 99) (by decide) dX7_cool_13 rfl ?_
    refine aw_istore_n (npc := 16) (L' := [some (.ref 0), some (.int (nI vn)), some (.int 99)]) dX7_cool_15 rfl (by decide) rfl rfl ?_
    refine aw_locs (L' := [some (.ref 0), some (.int (nI vn)), some (.int (nI 100 - 1))]) rfl ?_
    refine C_coolL (K := vn) (by omega) hC (rg_rk hR) 100 (by omega) _ O F T2 G (fun v9 h9 e9 T9 G9 f9 => hq v9 h9 ?_ T9 G9 f9)
    rw [e9]; simp [coolV, cI, hw1, fvn]
  · refine aw_re (S' := [.int 0]) rfl ?_
    refine aw_if_ne (npc := 10) (tgt := 13) dX7_cool_7 rfl (by decide) (fun hc => absurd (by decide) hc) (fun _ => ?_)
    refine aw_ldc (npc := 12) kc_X7_78 dX7_cool_10 rfl ?_
    refine aw_iret rfl dX7_cool_12 ?_
    exact hq _ _ (by simp [coolV, cI, hw1]) T2 G am_fp0
noncomputable def hsS (s : Int32) (N : Nat → Int32) : Int32 := if s = 0 then hs0 N else hs1 N
noncomputable def btL (c fr K : Nat) (N : Nat → Int32) (i : Nat) : Int32 := hsS (N (23 + 5 * i)) (goF c fr (-1) K (upd N (22 + 5 * i) 5))
noncomputable def btS (c fr K : Nat) (N : Nat → Int32) (i : Nat) : Option (Nat × Int32) → Option (Nat × Int32)
  | none => some (i, btL c fr K N i)
  | some p => if btL c fr K N i < p.2 then some (i, btL c fr K N i) else some p
noncomputable def btM (c fr K : Nat) (N : Nat → Int32) : Nat → Nat → Option (Nat × Int32) → Option (Nat × Int32)
  | 0, _, p => p
  | m + 1, i, p => btM c fr K N m (i + 1) (btS c fr K N i p)
def bt1 : Option (Nat × Int32) → Int32
  | none => (-1000000005)
  | some p => nI p.1
def bt2 : Option (Nat × Int32) → Int32
  | none => (-1000000005)
  | some p => p.2
noncomputable def buV (c fr : Nat) (N : Nat → Int32) (v w : Int32) : Int32 := cI (wi v 1 60 ∧ wi w 0 1) (cI (w = 0) (bt1 (btM c fr (fN v) N fr 0 none)) (bt2 (btM c fr (fN v) N fr 0 none))) (-1000000001)
theorem btS_lt {c fr K i : Nat} {N : Nat → Int32} {p : Option (Nat × Int32)} (hi : i < 8) (hp : ∀ q, p = some q → q.1 < 8) : ∀ q, btS c fr K N i p = some q → q.1 < 8 := by
  intro q hq
  cases p with
  | none =>
    have z : (i, btL c fr K N i) = q := Option.some.inj hq
    rw [← z]; exact hi
  | some r =>
    have hr := hp r rfl
    simp only [btS] at hq
    split at hq
    · have z : (i, btL c fr K N i) = q := Option.some.inj hq
      rw [← z]; exact hi
    · have z : r = q := Option.some.inj hq
      rw [← z]; exact hr
theorem bt_ne {q : Nat} (h : q < 8) : ¬ nI q = (-1000000005) := fun e => nI_pos (n := q) (by omega) (by rw [e]; decide)
set_option maxHeartbeats 4000000 in
set_option maxRecDepth 100000 in
theorem C_boughtL {X : List Int32} {d rc rs n : Nat} {Q : am_Q} {tx : List Value} {lk : Nat → Int32} {ik wc : Int32} {fr c : Nat} {tb : TB} {N mv : Nat → Int32} {K : Nat} {w : Int32} (hK60 : K < 1000) (hC : TC tb tx lk N c) (hK : RK N fr c) : ∀ (m i : Nat), i + m = fr → ∀ (p : Option (Nat × Int32)), (∀ q, p = some q → q.1 < 8) → ∀ (v6 : Option Value) (h : am_H), OB ik wc h → QR 1 N tx lk mv h → TQ h → TT tb h → (∀ v9 h9, v9 = cI (w = 0) (bt1 (btM c fr K N m i p)) (bt2 (btM c fr K N m i p)) → TQ h9 → TT tb h9 → am_fp (fun k => k < 92 ∧ (k < 13 ∨ 25 ≤ k)) h9 h → Q (some (.int v9)) n h9) → AW X mX7_bought (d + 40) rc rs 32 [some (.ref 0), some (.int (nI K)), some (.int w), some (.int (bt1 p)), some (.int (bt2 p)), some (.int (nI i)), v6] [] n h Q := by
  have h8r := hK.2.1
  intro m
  induction m with
  | zero =>
    intro i hi p hp v6 h O F T2 G hq
    obtain rfl : i = fr := by omega
    refine aw_iload (npc := 34) rfl dX7_bought_32 rfl ?_
    refine aw_aload_n (npc := 35) rfl dX7_bought_34 rfl ?_
    refine aw_get (npc := 38) dX7_bought_35 rfl kf_X7_10 O.1 rfl ?_
    refine aw_get (npc := 41) dX7_bought_38 rfl kf_X7_79 F.1 rfl ?_
    refine aw_top (y := nI i) (hK.1) ?_
    refine aw_icmp_ge (npc := 44) (tgt := 121) dX7_bought_41 rfl (by decide) (fun _ => ?_) (fun hc => absurd (nI_le (a := i) (b := i) (by omega) (by omega)) hc)
    refine aw_iload_n (npc := 122) rfl dX7_bought_121 rfl ?_
    refine aw_if_ne (npc := 125) (tgt := 129) dX7_bought_122 rfl (by decide) (fun hc2 => ?_) (fun hc2 => ?_)
    · refine aw_iload (npc := 131) rfl dX7_bought_129 rfl ?_
      refine aw_iret rfl dX7_bought_131 ?_
      exact hq _ _ (by simp [cI, hc2, btM]) T2 G am_fp0
    · refine aw_iload_n (npc := 126) rfl dX7_bought_125 rfl ?_
      refine aw_goto (npc := 131) dX7_bought_126 (by decide) ?_
      refine aw_iret rfl dX7_bought_131 ?_
      exact hq _ _ (by simp [cI, hc2, btM]) T2 G am_fp0
  | succ m ih =>
    intro i hi p hp v6 h O F T2 G hq
    obtain ⟨N1, tx1, lk1, mv1, F2, hl13⟩ := T2
    cases p with
    | none =>
      show AW X mX7_bought (d + 40) rc rs 32 [some (.ref 0), some (.int (nI K)), some (.int w), some (.int (-1000000005)), some (.int (-1000000005)), some (.int (nI i)), v6] [] n h Q
      refine aw_iload (npc := 34) rfl dX7_bought_32 rfl ?_
      refine aw_aload_n (npc := 35) rfl dX7_bought_34 rfl ?_
      refine aw_get (npc := 38) dX7_bought_35 rfl kf_X7_10 O.1 rfl ?_
      refine aw_get (npc := 41) dX7_bought_38 rfl kf_X7_79 F.1 rfl ?_
      refine aw_top (y := nI fr) (hK.1) ?_
      refine aw_icmp_ge (npc := 44) (tgt := 121) dX7_bought_41 rfl (by decide) (fun hc => absurd hc (nI_ge (a := i) (b := fr) (by omega) (by omega))) (fun _ => ?_)
      refine aw_aload_n (npc := 45) rfl dX7_bought_44 rfl ?_
      refine aw_get (npc := 48) dX7_bought_45 rfl kf_X7_16 O.1 rfl ?_
      refine aw_aload_n (npc := 49) rfl dX7_bought_48 rfl ?_
      refine aw_get (npc := 52) dX7_bought_49 rfl kf_X7_10 O.1 rfl ?_
      refine aw_callV (npc := 55) (N := mX0_becomes) (b := 13) (mc := 0) (ms := 0) (A := [.ref 1]) (S := []) (L0 := [some (.ref 13), some (.ref 1), none]) dX7_bought_52 rfl km_X0_becomes kk_X7_193 F2.1 ⟨by decide, rfl⟩ rfl ⟨rfl, by decide⟩ rfl (Nat.le_of_ble_eq_true rfl) (Nat.zero_add _) (Nat.zero_add _) rfl ?_
      refine g_bec (tb := tb) F2 F G (by omega) (by omega) hl13 hC.1.1 hC.1.2.2.1 (fun hp4 F2 fz3 => ?_)
      have O5 := ob_frame O (fz3 0 (by omega)) (fz3 43 (by omega)) (fz3 44 (by omega))
      have F6 := qr_frame F (fun k h1 h2 => fz3 k (by omega))
      have G7 := tt_frame G (fun k hk => fz3 k (by omega))
      refine aw_aload_n (npc := 56) rfl dX7_bought_55 rfl ?_
      refine aw_get (npc := 59) dX7_bought_56 rfl kf_X7_16 O5.1 rfl ?_
      refine aw_get (npc := 62) dX7_bought_59 rfl kf_X7_90 F2.1 rfl ?_
      refine aw_iload (npc := 64) rfl dX7_bought_62 rfl ?_
      refine aw_iconst (npc := 65) (v := 5) (by decide) dX7_bought_64 rfl ?_
      refine aw_iast (npc := 66) (j := i) dX7_bought_65 rfl F2.2.2.2.2.1 (am_ix_nI (by omega)) (by rw [tl_len]; omega) rfl ?_
      have F8 := qr_kind (j := i) (v := 5) F2 (by omega)
      have O9 := ob_out (a := 17) (c := .inl (0, (tl 8 (fun z9 => N (22 + 5 * z9))).set i 5)) (by omega) O5
      have F10 := qr_out (a := 17) (c := .inl (0, (tl 8 (fun z9 => N (22 + 5 * z9))).set i 5)) (by omega) F6
      have G11 := tt_out (k := 17) (c := .inl (0, (tl 8 (fun z9 => N (22 + 5 * z9))).set i 5)) (by omega) G7
      refine aw_aload_n (npc := 67) rfl dX7_bought_66 rfl ?_
      refine aw_get (npc := 70) dX7_bought_67 rfl kf_X7_16 O9.1 rfl ?_
      refine aw_iload_n (npc := 71) rfl dX7_bought_70 rfl ?_
      refine aw_iconst (npc := 72) (v := -1) (by decide) dX7_bought_71 rfl ?_
      refine aw_callV (npc := 75) (N := mX0_runPosts) (b := 13) (mc := 0) (ms := 0) (A := [.int (nI K), .int (-1)]) (S := []) (L0 := [some (.ref 13), some (.int (nI K)), some (.int (-1)), none, none]) dX7_bought_72 rfl km_X0_runPosts kk_X7_163 F8.1 ⟨by decide, rfl⟩ rfl ⟨rfl, by decide⟩ rfl (Nat.le_of_ble_eq_true rfl) (Nat.zero_add _) (Nat.zero_add _) rfl ?_
      have hT21 : TC tb tx lk (upd N (22 + 5 * i) 5) c := (tc_u (by omega) (by omega) hC)
      have hK22 : RK (upd N (22 + 5 * i) 5) fr c := (rk_kind ⟨by decide, by decide⟩ (by omega) hK)
      refine g_run (b := 13) (K := K) (wo := (-1)) F8 G11 hK22.1 hK22.2.1 hK22.2.2.1 hT21.1 (fun f hf => ⟨(hK22.2.2.2.2.1 f hf).1, (hK22.2.2.2.2.1 f hf).2.1⟩) (by omega) (by omega) (fun N912 s913 m914 h915 hr16 F17 G18 fz19 => ?_)
      have er20 := (run_c K _ _ _ _ hT21 hK22 hr16).1
      rw [er20] at F17
      have fy23 : ∀ k, (k < 92 ∧ (k < 13 ∨ 13 + 12 ≤ k)) → h915 k = _ := fun k hk => fz19 k hk.1 hk.2
      have O24 := ob_frame O9 (fy23 0 (by omega)) (fy23 43 (by omega)) (fy23 44 (by omega))
      have F25 := qr_frame F10 (fun k h1 h2 => fy23 k (by omega))
      refine aw_re (S' := [.int s913]) rfl ?_
      refine aw_pop (npc := 76) rfl dX7_bought_75 rfl ?_
      refine aw_aload_n (npc := 77) rfl dX7_bought_76 rfl ?_
      refine aw_get (npc := 80) dX7_bought_77 rfl kf_X7_16 O24.1 rfl ?_
      refine aw_aload_n (npc := 81) rfl dX7_bought_80 rfl ?_
      refine aw_get (npc := 84) dX7_bought_81 rfl kf_X7_16 O24.1 rfl ?_
      refine aw_get (npc := 87) dX7_bought_84 rfl kf_X7_93 F17.1 rfl ?_
      refine aw_iload (npc := 89) rfl dX7_bought_87 rfl ?_
      refine aw_iald (npc := 90) (x := (goF c fr (-1) K (upd N (22 + 5 * i) 5)) (23 + 5 * i)) (j := i) dX7_bought_89 rfl F17.2.2.2.2.2.1 (am_ix_nI (by omega)) (tl_at (by omega)) ?_
      have esd : (goF c fr (-1) K (upd N (22 + 5 * i) 5)) (23 + 5 * i) = N (23 + 5 * i) := (goF_k h8r (by omega) (by omega) (by omega) (by omega) (by omega) (by omega) _ _).trans (pk_un (by omega))
      rcases wi_c0_1 (hK.2.2.2.2.1 i (by omega)).2.1 with eside | eside
      · refine aw_top (y := 0) (esd.trans eside) ?_
        refine aw_callV (npc := 93) (N := mX0_hasOf) (b := 13) (mc := 0) (ms := 0) (A := [.int 0]) (S := []) (L0 := [some (.ref 13), some (.int 0), none, none, none]) dX7_bought_90 rfl km_X0_hasOf kk_X7_166 F17.1 ⟨by decide, rfl⟩ rfl ⟨rfl, by decide⟩ rfl (Nat.le_of_ble_eq_true rfl) (Nat.zero_add _) (Nat.zero_add _) rfl ?_
        refine g_has0 F17 ?_
        refine aw_re (S' := [.int (hs0 (goF c fr (-1) K (upd N (22 + 5 * i) 5)))]) rfl ?_
        refine aw_istore (npc := 95) (L' := [some (.ref 0), some (.int (nI K)), some (.int w), some (.int (-1000000005)), some (.int (-1000000005)), some (.int (nI i)), some (.int (hs0 (goF c fr (-1) K (upd N (22 + 5 * i) 5))))]) dX7_bought_93 rfl (by decide) rfl rfl ?_
        refine aw_iload_n (npc := 96) rfl dX7_bought_95 rfl ?_
        refine aw_ldc (npc := 98) kc_X7_200 dX7_bought_96 rfl ?_
        refine aw_icmp_eq (npc := 101) (tgt := 108) dX7_bought_98 rfl (by decide) (fun _ => ?_) (fun hc => absurd (by decide) hc)
        refine aw_iload (npc := 110) rfl dX7_bought_108 rfl ?_
        refine aw_istore_n (npc := 111) (L' := [some (.ref 0), some (.int (nI K)), some (.int w), some (.int (nI i)), some (.int (-1000000005)), some (.int (nI i)), some (.int (hs0 (goF c fr (-1) K (upd N (22 + 5 * i) 5))))]) dX7_bought_110 rfl (by decide) rfl rfl ?_
        refine aw_iload (npc := 113) rfl dX7_bought_111 rfl ?_
        refine aw_istore (npc := 115) (L' := [some (.ref 0), some (.int (nI K)), some (.int w), some (.int (nI i)), some (.int (hs0 (goF c fr (-1) K (upd N (22 + 5 * i) 5)))), some (.int (nI i)), some (.int (hs0 (goF c fr (-1) K (upd N (22 + 5 * i) 5))))]) dX7_bought_113 rfl (by decide) rfl rfl ?_
        refine aw_iinc (npc := 118) (v := nI (i + 1)) (L' := [some (.ref 0), some (.int (nI K)), some (.int w), some (.int (nI i)), some (.int (hs0 (goF c fr (-1) K (upd N (22 + 5 * i) 5)))), some (.int (nI (i + 1))), some (.int (hs0 (goF c fr (-1) K (upd N (22 + 5 * i) 5))))]) dX7_bought_115 rfl rfl (nI_1 _) (by decide) rfl rfl ?_
        refine aw_goto (npc := 32) dX7_bought_118 (by decide) ?_
        have el : btL c fr K N i = hs0 (goF c fr (-1) K (upd N (22 + 5 * i) 5)) := by unfold btL hsS; rw [eside]; rfl
        have e8 : btS c fr K N i none = some (i, btL c fr K N i) := by
          rfl
        refine aw_locs (L' := [some (.ref 0), some (.int (nI K)), some (.int w), some (.int (bt1 (some (i, btL c fr K N i)))), some (.int (bt2 (some (i, btL c fr K N i)))), some (.int (nI (i + 1))), some (.int (hs0 (goF c fr (-1) K (upd N (22 + 5 * i) 5))))]) (by rw [el]; rfl) ?_
        refine ih (i + 1) (by omega) (some (i, btL c fr K N i)) (e8 ▸ btS_lt (by omega) hp) _ _ O24 F25 ⟨_, _, _, _, F17, hC.1.1⟩ G18 (fun v9 h9 e9 T9 G9 f9 => hq v9 h9 ?_ T9 G9 (am_fpT f9 (am_fpT (fun k (hk : k < 92 ∧ (k < 13 ∨ 25 ≤ k)) => fy23 k (by omega)) (am_fpU (show ¬ (17 < 92 ∧ (17 < 13 ∨ 25 ≤ 17)) by omega) (am_fpT (fun k (hk : k < 92 ∧ (k < 13 ∨ 25 ≤ k)) => fz3 k (by omega)) am_fp0)))))
        rw [e9]; exact congrArg (fun z => cI (w = 0) (bt1 (btM c fr K N m (i + 1) z)) (bt2 (btM c fr K N m (i + 1) z))) e8.symm
      · refine aw_top (y := 1) (esd.trans eside) ?_
        refine aw_callV (npc := 93) (N := mX0_hasOf) (b := 13) (mc := 0) (ms := 0) (A := [.int 1]) (S := []) (L0 := [some (.ref 13), some (.int 1), none, none, none]) dX7_bought_90 rfl km_X0_hasOf kk_X7_166 F17.1 ⟨by decide, rfl⟩ rfl ⟨rfl, by decide⟩ rfl (Nat.le_of_ble_eq_true rfl) (Nat.zero_add _) (Nat.zero_add _) rfl ?_
        refine g_has1 F17 ?_
        refine aw_re (S' := [.int (hs1 (goF c fr (-1) K (upd N (22 + 5 * i) 5)))]) rfl ?_
        refine aw_istore (npc := 95) (L' := [some (.ref 0), some (.int (nI K)), some (.int w), some (.int (-1000000005)), some (.int (-1000000005)), some (.int (nI i)), some (.int (hs1 (goF c fr (-1) K (upd N (22 + 5 * i) 5))))]) dX7_bought_93 rfl (by decide) rfl rfl ?_
        refine aw_iload_n (npc := 96) rfl dX7_bought_95 rfl ?_
        refine aw_ldc (npc := 98) kc_X7_200 dX7_bought_96 rfl ?_
        refine aw_icmp_eq (npc := 101) (tgt := 108) dX7_bought_98 rfl (by decide) (fun _ => ?_) (fun hc => absurd (by decide) hc)
        refine aw_iload (npc := 110) rfl dX7_bought_108 rfl ?_
        refine aw_istore_n (npc := 111) (L' := [some (.ref 0), some (.int (nI K)), some (.int w), some (.int (nI i)), some (.int (-1000000005)), some (.int (nI i)), some (.int (hs1 (goF c fr (-1) K (upd N (22 + 5 * i) 5))))]) dX7_bought_110 rfl (by decide) rfl rfl ?_
        refine aw_iload (npc := 113) rfl dX7_bought_111 rfl ?_
        refine aw_istore (npc := 115) (L' := [some (.ref 0), some (.int (nI K)), some (.int w), some (.int (nI i)), some (.int (hs1 (goF c fr (-1) K (upd N (22 + 5 * i) 5)))), some (.int (nI i)), some (.int (hs1 (goF c fr (-1) K (upd N (22 + 5 * i) 5))))]) dX7_bought_113 rfl (by decide) rfl rfl ?_
        refine aw_iinc (npc := 118) (v := nI (i + 1)) (L' := [some (.ref 0), some (.int (nI K)), some (.int w), some (.int (nI i)), some (.int (hs1 (goF c fr (-1) K (upd N (22 + 5 * i) 5)))), some (.int (nI (i + 1))), some (.int (hs1 (goF c fr (-1) K (upd N (22 + 5 * i) 5))))]) dX7_bought_115 rfl rfl (nI_1 _) (by decide) rfl rfl ?_
        refine aw_goto (npc := 32) dX7_bought_118 (by decide) ?_
        have el : btL c fr K N i = hs1 (goF c fr (-1) K (upd N (22 + 5 * i) 5)) := by unfold btL hsS; rw [eside]; rfl
        have e8 : btS c fr K N i none = some (i, btL c fr K N i) := by
          rfl
        refine aw_locs (L' := [some (.ref 0), some (.int (nI K)), some (.int w), some (.int (bt1 (some (i, btL c fr K N i)))), some (.int (bt2 (some (i, btL c fr K N i)))), some (.int (nI (i + 1))), some (.int (hs1 (goF c fr (-1) K (upd N (22 + 5 * i) 5))))]) (by rw [el]; rfl) ?_
        refine ih (i + 1) (by omega) (some (i, btL c fr K N i)) (e8 ▸ btS_lt (by omega) hp) _ _ O24 F25 ⟨_, _, _, _, F17, hC.1.1⟩ G18 (fun v9 h9 e9 T9 G9 f9 => hq v9 h9 ?_ T9 G9 (am_fpT f9 (am_fpT (fun k (hk : k < 92 ∧ (k < 13 ∨ 25 ≤ k)) => fy23 k (by omega)) (am_fpU (show ¬ (17 < 92 ∧ (17 < 13 ∨ 25 ≤ 17)) by omega) (am_fpT (fun k (hk : k < 92 ∧ (k < 13 ∨ 25 ≤ k)) => fz3 k (by omega)) am_fp0)))))
        rw [e9]; exact congrArg (fun z => cI (w = 0) (bt1 (btM c fr K N m (i + 1) z)) (bt2 (btM c fr K N m (i + 1) z))) e8.symm
    | some p =>
      have hp8 := hp p rfl
      show AW X mX7_bought (d + 40) rc rs 32 [some (.ref 0), some (.int (nI K)), some (.int w), some (.int (nI p.1)), some (.int p.2), some (.int (nI i)), v6] [] n h Q
      refine aw_iload (npc := 34) rfl dX7_bought_32 rfl ?_
      refine aw_aload_n (npc := 35) rfl dX7_bought_34 rfl ?_
      refine aw_get (npc := 38) dX7_bought_35 rfl kf_X7_10 O.1 rfl ?_
      refine aw_get (npc := 41) dX7_bought_38 rfl kf_X7_79 F.1 rfl ?_
      refine aw_top (y := nI fr) (hK.1) ?_
      refine aw_icmp_ge (npc := 44) (tgt := 121) dX7_bought_41 rfl (by decide) (fun hc => absurd hc (nI_ge (a := i) (b := fr) (by omega) (by omega))) (fun _ => ?_)
      refine aw_aload_n (npc := 45) rfl dX7_bought_44 rfl ?_
      refine aw_get (npc := 48) dX7_bought_45 rfl kf_X7_16 O.1 rfl ?_
      refine aw_aload_n (npc := 49) rfl dX7_bought_48 rfl ?_
      refine aw_get (npc := 52) dX7_bought_49 rfl kf_X7_10 O.1 rfl ?_
      refine aw_callV (npc := 55) (N := mX0_becomes) (b := 13) (mc := 0) (ms := 0) (A := [.ref 1]) (S := []) (L0 := [some (.ref 13), some (.ref 1), none]) dX7_bought_52 rfl km_X0_becomes kk_X7_193 F2.1 ⟨by decide, rfl⟩ rfl ⟨rfl, by decide⟩ rfl (Nat.le_of_ble_eq_true rfl) (Nat.zero_add _) (Nat.zero_add _) rfl ?_
      refine g_bec (tb := tb) F2 F G (by omega) (by omega) hl13 hC.1.1 hC.1.2.2.1 (fun hp4 F2 fz3 => ?_)
      have O5 := ob_frame O (fz3 0 (by omega)) (fz3 43 (by omega)) (fz3 44 (by omega))
      have F6 := qr_frame F (fun k h1 h2 => fz3 k (by omega))
      have G7 := tt_frame G (fun k hk => fz3 k (by omega))
      refine aw_aload_n (npc := 56) rfl dX7_bought_55 rfl ?_
      refine aw_get (npc := 59) dX7_bought_56 rfl kf_X7_16 O5.1 rfl ?_
      refine aw_get (npc := 62) dX7_bought_59 rfl kf_X7_90 F2.1 rfl ?_
      refine aw_iload (npc := 64) rfl dX7_bought_62 rfl ?_
      refine aw_iconst (npc := 65) (v := 5) (by decide) dX7_bought_64 rfl ?_
      refine aw_iast (npc := 66) (j := i) dX7_bought_65 rfl F2.2.2.2.2.1 (am_ix_nI (by omega)) (by rw [tl_len]; omega) rfl ?_
      have F8 := qr_kind (j := i) (v := 5) F2 (by omega)
      have O9 := ob_out (a := 17) (c := .inl (0, (tl 8 (fun z9 => N (22 + 5 * z9))).set i 5)) (by omega) O5
      have F10 := qr_out (a := 17) (c := .inl (0, (tl 8 (fun z9 => N (22 + 5 * z9))).set i 5)) (by omega) F6
      have G11 := tt_out (k := 17) (c := .inl (0, (tl 8 (fun z9 => N (22 + 5 * z9))).set i 5)) (by omega) G7
      refine aw_aload_n (npc := 67) rfl dX7_bought_66 rfl ?_
      refine aw_get (npc := 70) dX7_bought_67 rfl kf_X7_16 O9.1 rfl ?_
      refine aw_iload_n (npc := 71) rfl dX7_bought_70 rfl ?_
      refine aw_iconst (npc := 72) (v := -1) (by decide) dX7_bought_71 rfl ?_
      refine aw_callV (npc := 75) (N := mX0_runPosts) (b := 13) (mc := 0) (ms := 0) (A := [.int (nI K), .int (-1)]) (S := []) (L0 := [some (.ref 13), some (.int (nI K)), some (.int (-1)), none, none]) dX7_bought_72 rfl km_X0_runPosts kk_X7_163 F8.1 ⟨by decide, rfl⟩ rfl ⟨rfl, by decide⟩ rfl (Nat.le_of_ble_eq_true rfl) (Nat.zero_add _) (Nat.zero_add _) rfl ?_
      have hT21 : TC tb tx lk (upd N (22 + 5 * i) 5) c := (tc_u (by omega) (by omega) hC)
      have hK22 : RK (upd N (22 + 5 * i) 5) fr c := (rk_kind ⟨by decide, by decide⟩ (by omega) hK)
      refine g_run (b := 13) (K := K) (wo := (-1)) F8 G11 hK22.1 hK22.2.1 hK22.2.2.1 hT21.1 (fun f hf => ⟨(hK22.2.2.2.2.1 f hf).1, (hK22.2.2.2.2.1 f hf).2.1⟩) (by omega) (by omega) (fun N912 s913 m914 h915 hr16 F17 G18 fz19 => ?_)
      have er20 := (run_c K _ _ _ _ hT21 hK22 hr16).1
      rw [er20] at F17
      have fy23 : ∀ k, (k < 92 ∧ (k < 13 ∨ 13 + 12 ≤ k)) → h915 k = _ := fun k hk => fz19 k hk.1 hk.2
      have O24 := ob_frame O9 (fy23 0 (by omega)) (fy23 43 (by omega)) (fy23 44 (by omega))
      have F25 := qr_frame F10 (fun k h1 h2 => fy23 k (by omega))
      refine aw_re (S' := [.int s913]) rfl ?_
      refine aw_pop (npc := 76) rfl dX7_bought_75 rfl ?_
      refine aw_aload_n (npc := 77) rfl dX7_bought_76 rfl ?_
      refine aw_get (npc := 80) dX7_bought_77 rfl kf_X7_16 O24.1 rfl ?_
      refine aw_aload_n (npc := 81) rfl dX7_bought_80 rfl ?_
      refine aw_get (npc := 84) dX7_bought_81 rfl kf_X7_16 O24.1 rfl ?_
      refine aw_get (npc := 87) dX7_bought_84 rfl kf_X7_93 F17.1 rfl ?_
      refine aw_iload (npc := 89) rfl dX7_bought_87 rfl ?_
      refine aw_iald (npc := 90) (x := (goF c fr (-1) K (upd N (22 + 5 * i) 5)) (23 + 5 * i)) (j := i) dX7_bought_89 rfl F17.2.2.2.2.2.1 (am_ix_nI (by omega)) (tl_at (by omega)) ?_
      have esd : (goF c fr (-1) K (upd N (22 + 5 * i) 5)) (23 + 5 * i) = N (23 + 5 * i) := (goF_k h8r (by omega) (by omega) (by omega) (by omega) (by omega) (by omega) _ _).trans (pk_un (by omega))
      rcases wi_c0_1 (hK.2.2.2.2.1 i (by omega)).2.1 with eside | eside
      · refine aw_top (y := 0) (esd.trans eside) ?_
        refine aw_callV (npc := 93) (N := mX0_hasOf) (b := 13) (mc := 0) (ms := 0) (A := [.int 0]) (S := []) (L0 := [some (.ref 13), some (.int 0), none, none, none]) dX7_bought_90 rfl km_X0_hasOf kk_X7_166 F17.1 ⟨by decide, rfl⟩ rfl ⟨rfl, by decide⟩ rfl (Nat.le_of_ble_eq_true rfl) (Nat.zero_add _) (Nat.zero_add _) rfl ?_
        refine g_has0 F17 ?_
        refine aw_re (S' := [.int (hs0 (goF c fr (-1) K (upd N (22 + 5 * i) 5)))]) rfl ?_
        refine aw_istore (npc := 95) (L' := [some (.ref 0), some (.int (nI K)), some (.int w), some (.int (nI p.1)), some (.int p.2), some (.int (nI i)), some (.int (hs0 (goF c fr (-1) K (upd N (22 + 5 * i) 5))))]) dX7_bought_93 rfl (by decide) rfl rfl ?_
        refine aw_iload_n (npc := 96) rfl dX7_bought_95 rfl ?_
        refine aw_ldc (npc := 98) kc_X7_200 dX7_bought_96 rfl ?_
        refine aw_icmp_eq (npc := 101) (tgt := 108) dX7_bought_98 rfl (by decide) (fun hc => absurd hc (bt_ne hp8)) (fun _ => ?_)
        refine aw_iload (npc := 103) rfl dX7_bought_101 rfl ?_
        refine aw_iload (npc := 105) rfl dX7_bought_103 rfl ?_
        refine aw_icmp_ge (npc := 108) (tgt := 115) dX7_bought_105 rfl (by decide) (fun hc27 => ?_) (fun hc27 => ?_)
        · refine aw_iinc (npc := 118) (v := nI (i + 1)) (L' := [some (.ref 0), some (.int (nI K)), some (.int w), some (.int (nI p.1)), some (.int p.2), some (.int (nI (i + 1))), some (.int (hs0 (goF c fr (-1) K (upd N (22 + 5 * i) 5))))]) dX7_bought_115 rfl rfl (nI_1 _) (by decide) rfl rfl ?_
          refine aw_goto (npc := 32) dX7_bought_118 (by decide) ?_
          have el : btL c fr K N i = hs0 (goF c fr (-1) K (upd N (22 + 5 * i) 5)) := by unfold btL hsS; rw [eside]; rfl
          have e8 : btS c fr K N i (some p) = some p := by
            exact if_neg (by rw [el]; exact Int32.not_lt.mpr hc27)
          refine ih (i + 1) (by omega) (some p) (e8 ▸ btS_lt (by omega) hp) _ _ O24 F25 ⟨_, _, _, _, F17, hC.1.1⟩ G18 (fun v9 h9 e9 T9 G9 f9 => hq v9 h9 ?_ T9 G9 (am_fpT f9 (am_fpT (fun k (hk : k < 92 ∧ (k < 13 ∨ 25 ≤ k)) => fy23 k (by omega)) (am_fpU (show ¬ (17 < 92 ∧ (17 < 13 ∨ 25 ≤ 17)) by omega) (am_fpT (fun k (hk : k < 92 ∧ (k < 13 ∨ 25 ≤ k)) => fz3 k (by omega)) am_fp0)))))
          rw [e9]; exact congrArg (fun z => cI (w = 0) (bt1 (btM c fr K N m (i + 1) z)) (bt2 (btM c fr K N m (i + 1) z))) e8.symm
        · refine aw_iload (npc := 110) rfl dX7_bought_108 rfl ?_
          refine aw_istore_n (npc := 111) (L' := [some (.ref 0), some (.int (nI K)), some (.int w), some (.int (nI i)), some (.int p.2), some (.int (nI i)), some (.int (hs0 (goF c fr (-1) K (upd N (22 + 5 * i) 5))))]) dX7_bought_110 rfl (by decide) rfl rfl ?_
          refine aw_iload (npc := 113) rfl dX7_bought_111 rfl ?_
          refine aw_istore (npc := 115) (L' := [some (.ref 0), some (.int (nI K)), some (.int w), some (.int (nI i)), some (.int (hs0 (goF c fr (-1) K (upd N (22 + 5 * i) 5)))), some (.int (nI i)), some (.int (hs0 (goF c fr (-1) K (upd N (22 + 5 * i) 5))))]) dX7_bought_113 rfl (by decide) rfl rfl ?_
          refine aw_iinc (npc := 118) (v := nI (i + 1)) (L' := [some (.ref 0), some (.int (nI K)), some (.int w), some (.int (nI i)), some (.int (hs0 (goF c fr (-1) K (upd N (22 + 5 * i) 5)))), some (.int (nI (i + 1))), some (.int (hs0 (goF c fr (-1) K (upd N (22 + 5 * i) 5))))]) dX7_bought_115 rfl rfl (nI_1 _) (by decide) rfl rfl ?_
          refine aw_goto (npc := 32) dX7_bought_118 (by decide) ?_
          have el : btL c fr K N i = hs0 (goF c fr (-1) K (upd N (22 + 5 * i) 5)) := by unfold btL hsS; rw [eside]; rfl
          have e8 : btS c fr K N i (some p) = some (i, btL c fr K N i) := by
            exact if_pos (by rw [el]; exact Int32.not_le.mp hc27)
          refine aw_locs (L' := [some (.ref 0), some (.int (nI K)), some (.int w), some (.int (bt1 (some (i, btL c fr K N i)))), some (.int (bt2 (some (i, btL c fr K N i)))), some (.int (nI (i + 1))), some (.int (hs0 (goF c fr (-1) K (upd N (22 + 5 * i) 5))))]) (by rw [el]; rfl) ?_
          refine ih (i + 1) (by omega) (some (i, btL c fr K N i)) (e8 ▸ btS_lt (by omega) hp) _ _ O24 F25 ⟨_, _, _, _, F17, hC.1.1⟩ G18 (fun v9 h9 e9 T9 G9 f9 => hq v9 h9 ?_ T9 G9 (am_fpT f9 (am_fpT (fun k (hk : k < 92 ∧ (k < 13 ∨ 25 ≤ k)) => fy23 k (by omega)) (am_fpU (show ¬ (17 < 92 ∧ (17 < 13 ∨ 25 ≤ 17)) by omega) (am_fpT (fun k (hk : k < 92 ∧ (k < 13 ∨ 25 ≤ k)) => fz3 k (by omega)) am_fp0)))))
          rw [e9]; exact congrArg (fun z => cI (w = 0) (bt1 (btM c fr K N m (i + 1) z)) (bt2 (btM c fr K N m (i + 1) z))) e8.symm
      · refine aw_top (y := 1) (esd.trans eside) ?_
        refine aw_callV (npc := 93) (N := mX0_hasOf) (b := 13) (mc := 0) (ms := 0) (A := [.int 1]) (S := []) (L0 := [some (.ref 13), some (.int 1), none, none, none]) dX7_bought_90 rfl km_X0_hasOf kk_X7_166 F17.1 ⟨by decide, rfl⟩ rfl ⟨rfl, by decide⟩ rfl (Nat.le_of_ble_eq_true rfl) (Nat.zero_add _) (Nat.zero_add _) rfl ?_
        refine g_has1 F17 ?_
        refine aw_re (S' := [.int (hs1 (goF c fr (-1) K (upd N (22 + 5 * i) 5)))]) rfl ?_
        refine aw_istore (npc := 95) (L' := [some (.ref 0), some (.int (nI K)), some (.int w), some (.int (nI p.1)), some (.int p.2), some (.int (nI i)), some (.int (hs1 (goF c fr (-1) K (upd N (22 + 5 * i) 5))))]) dX7_bought_93 rfl (by decide) rfl rfl ?_
        refine aw_iload_n (npc := 96) rfl dX7_bought_95 rfl ?_
        refine aw_ldc (npc := 98) kc_X7_200 dX7_bought_96 rfl ?_
        refine aw_icmp_eq (npc := 101) (tgt := 108) dX7_bought_98 rfl (by decide) (fun hc => absurd hc (bt_ne hp8)) (fun _ => ?_)
        refine aw_iload (npc := 103) rfl dX7_bought_101 rfl ?_
        refine aw_iload (npc := 105) rfl dX7_bought_103 rfl ?_
        refine aw_icmp_ge (npc := 108) (tgt := 115) dX7_bought_105 rfl (by decide) (fun hc29 => ?_) (fun hc29 => ?_)
        · refine aw_iinc (npc := 118) (v := nI (i + 1)) (L' := [some (.ref 0), some (.int (nI K)), some (.int w), some (.int (nI p.1)), some (.int p.2), some (.int (nI (i + 1))), some (.int (hs1 (goF c fr (-1) K (upd N (22 + 5 * i) 5))))]) dX7_bought_115 rfl rfl (nI_1 _) (by decide) rfl rfl ?_
          refine aw_goto (npc := 32) dX7_bought_118 (by decide) ?_
          have el : btL c fr K N i = hs1 (goF c fr (-1) K (upd N (22 + 5 * i) 5)) := by unfold btL hsS; rw [eside]; rfl
          have e8 : btS c fr K N i (some p) = some p := by
            exact if_neg (by rw [el]; exact Int32.not_lt.mpr hc29)
          refine ih (i + 1) (by omega) (some p) (e8 ▸ btS_lt (by omega) hp) _ _ O24 F25 ⟨_, _, _, _, F17, hC.1.1⟩ G18 (fun v9 h9 e9 T9 G9 f9 => hq v9 h9 ?_ T9 G9 (am_fpT f9 (am_fpT (fun k (hk : k < 92 ∧ (k < 13 ∨ 25 ≤ k)) => fy23 k (by omega)) (am_fpU (show ¬ (17 < 92 ∧ (17 < 13 ∨ 25 ≤ 17)) by omega) (am_fpT (fun k (hk : k < 92 ∧ (k < 13 ∨ 25 ≤ k)) => fz3 k (by omega)) am_fp0)))))
          rw [e9]; exact congrArg (fun z => cI (w = 0) (bt1 (btM c fr K N m (i + 1) z)) (bt2 (btM c fr K N m (i + 1) z))) e8.symm
        · refine aw_iload (npc := 110) rfl dX7_bought_108 rfl ?_
          refine aw_istore_n (npc := 111) (L' := [some (.ref 0), some (.int (nI K)), some (.int w), some (.int (nI i)), some (.int p.2), some (.int (nI i)), some (.int (hs1 (goF c fr (-1) K (upd N (22 + 5 * i) 5))))]) dX7_bought_110 rfl (by decide) rfl rfl ?_
          refine aw_iload (npc := 113) rfl dX7_bought_111 rfl ?_
          refine aw_istore (npc := 115) (L' := [some (.ref 0), some (.int (nI K)), some (.int w), some (.int (nI i)), some (.int (hs1 (goF c fr (-1) K (upd N (22 + 5 * i) 5)))), some (.int (nI i)), some (.int (hs1 (goF c fr (-1) K (upd N (22 + 5 * i) 5))))]) dX7_bought_113 rfl (by decide) rfl rfl ?_
          refine aw_iinc (npc := 118) (v := nI (i + 1)) (L' := [some (.ref 0), some (.int (nI K)), some (.int w), some (.int (nI i)), some (.int (hs1 (goF c fr (-1) K (upd N (22 + 5 * i) 5)))), some (.int (nI (i + 1))), some (.int (hs1 (goF c fr (-1) K (upd N (22 + 5 * i) 5))))]) dX7_bought_115 rfl rfl (nI_1 _) (by decide) rfl rfl ?_
          refine aw_goto (npc := 32) dX7_bought_118 (by decide) ?_
          have el : btL c fr K N i = hs1 (goF c fr (-1) K (upd N (22 + 5 * i) 5)) := by unfold btL hsS; rw [eside]; rfl
          have e8 : btS c fr K N i (some p) = some (i, btL c fr K N i) := by
            exact if_pos (by rw [el]; exact Int32.not_le.mp hc29)
          refine aw_locs (L' := [some (.ref 0), some (.int (nI K)), some (.int w), some (.int (bt1 (some (i, btL c fr K N i)))), some (.int (bt2 (some (i, btL c fr K N i)))), some (.int (nI (i + 1))), some (.int (hs1 (goF c fr (-1) K (upd N (22 + 5 * i) 5))))]) (by rw [el]; rfl) ?_
          refine ih (i + 1) (by omega) (some (i, btL c fr K N i)) (e8 ▸ btS_lt (by omega) hp) _ _ O24 F25 ⟨_, _, _, _, F17, hC.1.1⟩ G18 (fun v9 h9 e9 T9 G9 f9 => hq v9 h9 ?_ T9 G9 (am_fpT f9 (am_fpT (fun k (hk : k < 92 ∧ (k < 13 ∨ 25 ≤ k)) => fy23 k (by omega)) (am_fpU (show ¬ (17 < 92 ∧ (17 < 13 ∨ 25 ≤ 17)) by omega) (am_fpT (fun k (hk : k < 92 ∧ (k < 13 ∨ 25 ≤ k)) => fz3 k (by omega)) am_fp0)))))
          rw [e9]; exact congrArg (fun z => cI (w = 0) (bt1 (btM c fr K N m (i + 1) z)) (bt2 (btM c fr K N m (i + 1) z))) e8.symm
set_option maxHeartbeats 4000000 in
set_option maxRecDepth 100000 in
theorem C_bought {X : List Int32} {d rc rs n : Nat} {Q : am_Q} {h : am_H} {N : Nat → Int32} {tx : List Value} {lk mv : Nat → Int32} {ik wc : Int32} {fr c : Nat} {v : Int32} {w : Int32} {tb : TB} (O : OB ik wc h) (F : QR 1 N tx lk mv h) (T2 : TQ h) (G : TT tb h) (hR : RG N fr c) (hC : TC tb tx lk N c) (hq : ∀ v9 h9, v9 = buV c fr N v w → TQ h9 → TT tb h9 → am_fp (fun k => k < 92 ∧ (k < 13 ∨ 25 ≤ k)) h9 h → Q (some (.int v9)) n h9) : AW X mX7_bought (d + 40) rc rs 0 [some (.ref 0), some (.int v), some (.int w), none, none, none, none] [] n h Q := by
  have h8r := hR.2.1
  have h14r := hR.2.2.2.1
  refine aw_iload_n (npc := 1) rfl dX7_bought_0 rfl ?_
  refine aw_iconst (npc := 2) (v := 1) (by decide) dX7_bought_1 rfl ?_
  refine aw_bipush (npc := 4) (v := 60) (by decide) dX7_bought_2 rfl ?_
  refine aw_callS (npc := 7) (N := mX7_within) (mc := 0) (ms := 0) (A := [.int v, .int 1, .int 60]) (S := []) (L0 := [some (.int v), some (.int 1), some (.int 60)]) dX7_bought_4 rfl km_X7_within kk_X7_74 rfl ⟨rfl, by decide⟩ rfl (Nat.le_of_ble_eq_true rfl) (Nat.zero_add _) (Nat.zero_add _) rfl ?_
  refine c_X7_within (fun hw1 => ?_) (fun hw1 => ?_)
  · obtain ⟨vn, hvn, evn⟩ := wi_nI (H := 60) (by decide) (by decide) hw1
    subst evn
    have fvn : fN (nI vn) = vn := fN_nI (by omega)
    refine aw_re (S' := [.int 1]) rfl ?_
    refine aw_if_eq (npc := 10) (tgt := 19) dX7_bought_7 rfl (by decide) (fun hc => absurd hc (by decide)) (fun _ => ?_)
    refine aw_iload_n (npc := 11) rfl dX7_bought_10 rfl ?_
    refine aw_iconst (npc := 12) (v := 0) (by decide) dX7_bought_11 rfl ?_
    refine aw_iconst (npc := 13) (v := 1) (by decide) dX7_bought_12 rfl ?_
    refine aw_callS (npc := 16) (N := mX7_within) (mc := 0) (ms := 0) (A := [.int w, .int 0, .int 1]) (S := []) (L0 := [some (.int w), some (.int 0), some (.int 1)]) dX7_bought_13 rfl km_X7_within kk_X7_74 rfl ⟨rfl, by decide⟩ rfl (Nat.le_of_ble_eq_true rfl) (Nat.zero_add _) (Nat.zero_add _) rfl ?_
    refine c_X7_within (fun hw2 => ?_) (fun hw2 => ?_)
    · refine aw_re (S' := [.int 1]) rfl ?_
      refine aw_if_ne (npc := 19) (tgt := 22) dX7_bought_16 rfl (by decide) (fun _ => ?_) (fun hc => absurd hc (by decide))
      refine aw_ldc (npc := 24) kc_X7_200 dX7_bought_22 rfl ?_
      refine aw_istore_n (npc := 25) (L' := [some (.ref 0), some (.int (nI vn)), some (.int w), some (.int (-1000000005)), none, none, none]) dX7_bought_24 rfl (by decide) rfl rfl ?_
      refine aw_ldc (npc := 27) kc_X7_200 dX7_bought_25 rfl ?_
      refine aw_istore (npc := 29) (L' := [some (.ref 0), some (.int (nI vn)), some (.int w), some (.int (-1000000005)), some (.int (-1000000005)), none, none]) dX7_bought_27 rfl (by decide) rfl rfl ?_
      refine aw_iconst (npc := 30) (v := 0) (by decide) dX7_bought_29 rfl ?_
      refine aw_istore (npc := 32) (L' := [some (.ref 0), some (.int (nI vn)), some (.int w), some (.int (-1000000005)), some (.int (-1000000005)), some (.int 0), none]) dX7_bought_30 rfl (by decide) rfl rfl ?_
      refine aw_locs (L' := [some (.ref 0), some (.int (nI vn)), some (.int w), some (.int (bt1 none)), some (.int (bt2 none)), some (.int (nI 0)), none]) rfl ?_
      refine C_boughtL (K := vn) (by omega) hC (rg_rk hR) fr 0 (by omega) none (fun q z => by cases z) none _ O F T2 G (fun v9 h9 e9 T9 G9 f9 => hq v9 h9 ?_ T9 G9 f9)
      rw [e9]; simp [buV, cI, hw1, hw2, fvn]
    · refine aw_re (S' := [.int 0]) rfl ?_
      refine aw_if_ne (npc := 19) (tgt := 22) dX7_bought_16 rfl (by decide) (fun hc => absurd (by decide) hc) (fun _ => ?_)
      refine aw_ldc (npc := 21) kc_X7_78 dX7_bought_19 rfl ?_
      refine aw_iret rfl dX7_bought_21 ?_
      exact hq _ _ (by simp [buV, cI, hw1, hw2, fvn]) T2 G am_fp0
  · refine aw_re (S' := [.int 0]) rfl ?_
    refine aw_if_eq (npc := 10) (tgt := 19) dX7_bought_7 rfl (by decide) (fun _ => ?_) (fun hc => absurd (by decide) hc)
    refine aw_ldc (npc := 21) kc_X7_78 dX7_bought_19 rfl ?_
    refine aw_iret rfl dX7_bought_21 ?_
    exact hq _ _ (by simp [buV, cI, hw1]) T2 G am_fp0
noncomputable def rsM (c fr : Nat) (cl : Nat → Int32) (s : Nat) : Nat → Nat → (Nat → Int32) → Int32
  | 0, _, _ => (-1000000005)
  | m + 1, k, N => cI (cl (24 * s + k) = (-1000000005) ∨ cl (24 * s + k) = snum N) (rsM c fr cl s m (k + 1) (goF c fr (-1) 1 N)) (nI k)
noncomputable def rsV (c fr : Nat) (sr sz cl N : Nat → Int32) (s : Int32) : Int32 := cI (wi s 0 3) (cI (sr (fN s) = -1) (-1000000011) (rsM c fr cl (fN s) (fN (sz (fN s))) 0 N)) (-1000000001)
set_option maxHeartbeats 4000000 in
set_option maxRecDepth 100000 in
theorem C_readsL {X : List Int32} {d rc rs n : Nat} {Q : am_Q} {tx : List Value} {lk : Nat → Int32} {ik wc : Int32} {fr c : Nat} {tb : TB} {sr sz cl : Nat → Int32} {s z : Nat} (hs : s < 4) (hz : z ≤ 24) (ez : sz s = nI z) : ∀ (m k : Nat), k + m = z → ∀ (NA mv1 : Nat → Int32) (h : am_H), OB ik wc h → QR 13 NA tx lk mv1 h → RW sr sz cl h → TT tb h → TC tb tx lk NA c → RK NA fr c → (∀ v9 h9, v9 = rsM c fr cl s m k NA → TQ h9 → TT tb h9 → am_fp (fun k => k < 92 ∧ (k < 13 ∨ 25 ≤ k)) h9 h → Q (some (.int v9)) n h9) → AW X mX7_reads (d + 40) rc rs 40 [some (.ref 0), some (.int (nI s)), some (.ref (46 + 2 * s)), some (.int (nI k))] [] n h Q := by
  intro m
  induction m with
  | zero =>
    intro k hk NA mv1 h O F2 Rw G hCA hKA hq
    obtain rfl : k = z := by omega
    refine aw_iload_n (npc := 41) rfl dX7_reads_40 rfl ?_
    refine aw_aload_n (npc := 42) rfl dX7_reads_41 rfl ?_
    refine aw_get (npc := 45) dX7_reads_42 rfl kf_X7_287 (Rw s (by omega)).1 rfl ?_
    refine aw_top (y := nI k) ez ?_
    refine aw_icmp_ge (npc := 48) (tgt := 90) dX7_reads_45 rfl (by decide) (fun _ => ?_) (fun hc => absurd (nI_le (a := k) (b := k) (by omega) (by omega)) hc)
    refine aw_ldc (npc := 92) kc_X7_200 dX7_reads_90 rfl ?_
    refine aw_iret rfl dX7_reads_92 ?_
    exact hq _ _ (by simp [rsM, cI]) ⟨_, _, _, _, F2, hCA.1.1⟩ G am_fp0
  | succ m ih =>
    intro k hk NA mv1 h O F2 Rw G hCA hKA hq
    refine aw_iload_n (npc := 41) rfl dX7_reads_40 rfl ?_
    refine aw_aload_n (npc := 42) rfl dX7_reads_41 rfl ?_
    refine aw_get (npc := 45) dX7_reads_42 rfl kf_X7_287 (Rw s (by omega)).1 rfl ?_
    refine aw_top (y := nI z) ez ?_
    refine aw_icmp_ge (npc := 48) (tgt := 90) dX7_reads_45 rfl (by decide) (fun hc => absurd hc (nI_ge (a := k) (b := z) (by omega) (by omega))) (fun _ => ?_)
    refine aw_aload_n (npc := 49) rfl dX7_reads_48 rfl ?_
    refine aw_iload_n (npc := 50) rfl dX7_reads_49 rfl ?_
    refine aw_callV (npc := 53) (N := mX2_isNumber) (b := 46 + 2 * s) (mc := 0) (ms := 0) (A := [.int (nI k)]) (S := []) (L0 := [some (.ref (46 + 2 * s)), some (.int (nI k))]) dX7_reads_50 rfl km_X2_isNumber kk_X7_215 (Rw s (by omega)).1 ⟨by decide, rfl⟩ rfl ⟨rfl, by decide⟩ rfl (Nat.le_of_ble_eq_true rfl) (Nat.zero_add _) (Nat.zero_add _) rfl ?_
    refine aw_aload_n (npc := 1) rfl dX2_isNumber_0 rfl ?_
    refine aw_iload_n (npc := 2) rfl dX2_isNumber_1 rfl ?_
    refine aw_callV (npc := 5) (N := mX2_isPlace) (b := 46 + 2 * s) (mc := 0) (ms := 0) (A := [.int (nI k)]) (S := []) (L0 := [some (.ref (46 + 2 * s)), some (.int (nI k))]) dX2_isNumber_2 rfl km_X2_isPlace kk_X2_38 (Rw s (by omega)).1 ⟨by decide, rfl⟩ rfl ⟨rfl, by decide⟩ rfl (Nat.le_of_ble_eq_true rfl) (Nat.zero_add _) (Nat.zero_add _) rfl ?_
    refine aw_iload_n (npc := 1) rfl dX2_isPlace_0 rfl ?_
    refine aw_iconst (npc := 2) (v := 0) (by decide) dX2_isPlace_1 rfl ?_
    refine aw_aload_n (npc := 3) rfl dX2_isPlace_2 rfl ?_
    refine aw_get (npc := 6) dX2_isPlace_3 rfl kf_X2_15 (Rw s (by omega)).1 rfl ?_
    refine aw_iconst (npc := 7) (v := 1) (by decide) dX2_isPlace_6 rfl ?_
    refine aw_isub (npc := 8) dX2_isPlace_7 rfl ?_
    refine aw_callSN (npc := 11) (N := mX7_within) (mc := 0) (ms := 0) (A := [.int (nI k), .int 0, .int ((sz s) - 1)]) (S := []) (L0 := [some (.int (nI k)), some (.int 0), some (.int ((sz s) - 1))]) dX2_isPlace_8 rfl km_X7_within kk_X2_34 rfl ⟨rfl, by decide⟩ rfl (Nat.le_of_ble_eq_true rfl) (Nat.zero_add _) (Nat.zero_add _) rfl ?_
    refine c_X7_within (fun _ => ?_) (fun hw9 => absurd (wi_idx' ez (by omega) (show k < z by omega) rfl) hw9)
    refine aw_re (S' := [.int 1]) rfl ?_
    refine aw_zret rfl rfl dX2_isPlace_11 ?_
    refine aw_re (S' := [.int 1]) rfl ?_
    refine aw_if_eq (npc := 8) (tgt := 23) dX2_isNumber_5 rfl (by decide) (fun hc => absurd hc (by decide)) (fun _ => ?_)
    refine aw_aload_n (npc := 9) rfl dX2_isNumber_8 rfl ?_
    refine aw_get (npc := 12) dX2_isNumber_9 rfl kf_X2_18 (Rw s (by omega)).1 rfl ?_
    refine aw_iload_n (npc := 13) rfl dX2_isNumber_12 rfl ?_
    refine aw_iald (npc := 14) (x := cl (24 * s + k)) (j := k) dX2_isNumber_13 rfl (Rw s (by omega)).2 (am_ix_nI (by omega)) (tl_at (by omega)) ?_
    refine aw_ldc (npc := 16) kc_X2_42 dX2_isNumber_14 rfl ?_
    refine aw_icmp_eq (npc := 19) (tgt := 23) dX2_isNumber_16 rfl (by decide) (fun hc2 => ?_) (fun hc2 => ?_)
    · refine aw_iconst (npc := 24) (v := 0) (by decide) dX2_isNumber_23 rfl ?_
      refine aw_zret rfl rfl dX2_isNumber_24 ?_
      refine aw_re (S' := [.int 0]) rfl ?_
      refine aw_if_eq (npc := 56) (tgt := 74) dX7_reads_53 rfl (by decide) (fun _ => ?_) (fun hc => absurd (by decide) hc)
      refine aw_aload_n (npc := 75) rfl dX7_reads_74 rfl ?_
      refine aw_get (npc := 78) dX7_reads_75 rfl kf_X7_16 O.1 rfl ?_
      refine aw_iconst (npc := 79) (v := 1) (by decide) dX7_reads_78 rfl ?_
      refine aw_iconst (npc := 80) (v := -1) (by decide) dX7_reads_79 rfl ?_
      refine aw_callV (npc := 83) (N := mX0_runPosts) (b := 13) (mc := 0) (ms := 0) (A := [.int 1, .int (-1)]) (S := []) (L0 := [some (.ref 13), some (.int 1), some (.int (-1)), none, none]) dX7_reads_80 rfl km_X0_runPosts kk_X7_163 F2.1 ⟨by decide, rfl⟩ rfl ⟨rfl, by decide⟩ rfl (Nat.le_of_ble_eq_true rfl) (Nat.zero_add _) (Nat.zero_add _) rfl ?_
      refine g_run (b := 13) (K := 1) (wo := (-1)) F2 G hKA.1 hKA.2.1 hKA.2.2.1 hCA.1 (fun f hf => ⟨(hKA.2.2.2.2.1 f hf).1, (hKA.2.2.2.2.1 f hf).2.1⟩) (by omega) (by omega) (fun N93 s94 m95 h96 hr7 F8 G9 fz10 => ?_)
      have er11 := (run_c 1 _ _ _ _ hCA hKA hr7).1
      rw [er11] at F8
      have fy12 : ∀ k, (k < 92 ∧ (k < 13 ∨ 13 + 12 ≤ k)) → h96 k = _ := fun k hk => fz10 k hk.1 hk.2
      have O13 := ob_frame O (fy12 0 (by omega)) (fy12 43 (by omega)) (fy12 44 (by omega))
      have Rw14 := rw_frame Rw (fun k h1 h2 => fy12 k (by omega))
      refine aw_re (S' := [.int s94]) rfl ?_
      refine aw_pop (npc := 84) rfl dX7_reads_83 rfl ?_
      refine aw_iinc (npc := 87) (v := nI (k + 1)) (L' := [some (.ref 0), some (.int (nI s)), some (.ref (46 + 2 * s)), some (.int (nI (k + 1)))]) dX7_reads_84 rfl rfl (nI_1 _) (by decide) rfl rfl ?_
      refine aw_goto (npc := 40) dX7_reads_87 (by decide) ?_
      refine ih (k + 1) (by omega) _ _ _ O13 F8 Rw14 G9 (tc_go hKA.2.1 hCA) (rk_go _ _ hKA) (fun v9 h9 e9 T9 G9 f9 => hq v9 h9 ?_ T9 G9 (am_fpT f9 (am_fpT (fun k (hk : k < 92 ∧ (k < 13 ∨ 25 ≤ k)) => fy12 k (by omega)) am_fp0)))
      rw [e9]; simp [rsM, cI, hc2]
    · refine aw_iconst (npc := 20) (v := 1) (by decide) dX2_isNumber_19 rfl ?_
      refine aw_goto (npc := 24) dX2_isNumber_20 (by decide) ?_
      refine aw_zret rfl rfl dX2_isNumber_24 ?_
      refine aw_re (S' := [.int 1]) rfl ?_
      refine aw_if_eq (npc := 56) (tgt := 74) dX7_reads_53 rfl (by decide) (fun hc => absurd hc (by decide)) (fun _ => ?_)
      refine aw_aload_n (npc := 57) rfl dX7_reads_56 rfl ?_
      refine aw_get (npc := 60) dX7_reads_57 rfl kf_X7_218 (Rw s (by omega)).1 rfl ?_
      refine aw_iload_n (npc := 61) rfl dX7_reads_60 rfl ?_
      refine aw_iald (npc := 62) (x := cl (24 * s + k)) (j := k) dX7_reads_61 rfl (Rw s (by omega)).2 (am_ix_nI (by omega)) (tl_at (by omega)) ?_
      refine aw_aload_n (npc := 63) rfl dX7_reads_62 rfl ?_
      refine aw_get (npc := 66) dX7_reads_63 rfl kf_X7_16 O.1 rfl ?_
      refine aw_callV (npc := 69) (N := mX0_standsAsNumber) (b := 13) (mc := 0) (ms := 0) (A := []) (S := [.int (cl (24 * s + k))]) (L0 := [some (.ref 13), none, none]) dX7_reads_66 rfl km_X0_standsAsNumber kk_X7_173 F2.1 ⟨by decide, rfl⟩ rfl ⟨rfl, by decide⟩ rfl (Nat.le_of_ble_eq_true rfl) (Nat.zero_add _) (Nat.zero_add _) rfl ?_
      refine g_snum F2 ?_
      refine aw_re (S' := [.int (snum NA), .int (cl (24 * s + k))]) rfl ?_
      refine aw_icmp_eq (npc := 72) (tgt := 74) dX7_reads_69 rfl (by decide) (fun hc15 => ?_) (fun hc15 => ?_)
      · refine aw_aload_n (npc := 75) rfl dX7_reads_74 rfl ?_
        refine aw_get (npc := 78) dX7_reads_75 rfl kf_X7_16 O.1 rfl ?_
        refine aw_iconst (npc := 79) (v := 1) (by decide) dX7_reads_78 rfl ?_
        refine aw_iconst (npc := 80) (v := -1) (by decide) dX7_reads_79 rfl ?_
        refine aw_callV (npc := 83) (N := mX0_runPosts) (b := 13) (mc := 0) (ms := 0) (A := [.int 1, .int (-1)]) (S := []) (L0 := [some (.ref 13), some (.int 1), some (.int (-1)), none, none]) dX7_reads_80 rfl km_X0_runPosts kk_X7_163 F2.1 ⟨by decide, rfl⟩ rfl ⟨rfl, by decide⟩ rfl (Nat.le_of_ble_eq_true rfl) (Nat.zero_add _) (Nat.zero_add _) rfl ?_
        refine g_run (b := 13) (K := 1) (wo := (-1)) F2 G hKA.1 hKA.2.1 hKA.2.2.1 hCA.1 (fun f hf => ⟨(hKA.2.2.2.2.1 f hf).1, (hKA.2.2.2.2.1 f hf).2.1⟩) (by omega) (by omega) (fun N916 s917 m918 h919 hr20 F21 G22 fz23 => ?_)
        have er24 := (run_c 1 _ _ _ _ hCA hKA hr20).1
        rw [er24] at F21
        have fy25 : ∀ k, (k < 92 ∧ (k < 13 ∨ 13 + 12 ≤ k)) → h919 k = _ := fun k hk => fz23 k hk.1 hk.2
        have O26 := ob_frame O (fy25 0 (by omega)) (fy25 43 (by omega)) (fy25 44 (by omega))
        have Rw27 := rw_frame Rw (fun k h1 h2 => fy25 k (by omega))
        refine aw_re (S' := [.int s917]) rfl ?_
        refine aw_pop (npc := 84) rfl dX7_reads_83 rfl ?_
        refine aw_iinc (npc := 87) (v := nI (k + 1)) (L' := [some (.ref 0), some (.int (nI s)), some (.ref (46 + 2 * s)), some (.int (nI (k + 1)))]) dX7_reads_84 rfl rfl (nI_1 _) (by decide) rfl rfl ?_
        refine aw_goto (npc := 40) dX7_reads_87 (by decide) ?_
        refine ih (k + 1) (by omega) _ _ _ O26 F21 Rw27 G22 (tc_go hKA.2.1 hCA) (rk_go _ _ hKA) (fun v9 h9 e9 T9 G9 f9 => hq v9 h9 ?_ T9 G9 (am_fpT f9 (am_fpT (fun k (hk : k < 92 ∧ (k < 13 ∨ 25 ≤ k)) => fy25 k (by omega)) am_fp0)))
        rw [e9]; simp [rsM, cI, hc2, hc15]
      · refine aw_iload_n (npc := 73) rfl dX7_reads_72 rfl ?_
        refine aw_iret rfl dX7_reads_73 ?_
        exact hq _ _ (by simp [rsM, cI, hc2, hc15]) ⟨_, _, _, _, F2, hCA.1.1⟩ G am_fp0
set_option maxHeartbeats 4000000 in
set_option maxRecDepth 100000 in
theorem C_reads {X : List Int32} {d rc rs n : Nat} {Q : am_Q} {h : am_H} {N : Nat → Int32} {tx : List Value} {lk mv : Nat → Int32} {ik wc : Int32} {fr c : Nat} {s : Int32} {sr sz cl : Nat → Int32} (Rw : RW sr sz cl h) (hI : RI sr sz) {tb : TB} (O : OB ik wc h) (F : QR 1 N tx lk mv h) (T2 : TQ h) (G : TT tb h) (hR : RG N fr c) (hC : TC tb tx lk N c) (hq : ∀ v9 h9, v9 = rsV c fr sr sz cl N s → TQ h9 → TT tb h9 → am_fp (fun k => k < 92 ∧ (k < 13 ∨ 25 ≤ k)) h9 h → Q (some (.int v9)) n h9) : AW X mX7_reads (d + 40) rc rs 0 [some (.ref 0), some (.int s), none, none] [] n h Q := by
  have h8r := hR.2.1
  have h14r := hR.2.2.2.1
  have hK := rg_rk hR
  obtain ⟨N1, tx1, lk1, mv1, F2, hl13⟩ := T2
  refine aw_iload_n (npc := 1) rfl dX7_reads_0 rfl ?_
  refine aw_callS (npc := 4) (N := mX7_isSheet) (mc := 0) (ms := 0) (A := [.int s]) (S := []) (L0 := [some (.int s)]) dX7_reads_1 rfl km_X7_isSheet kk_X7_204 rfl ⟨rfl, by decide⟩ rfl (Nat.le_of_ble_eq_true rfl) (Nat.zero_add _) (Nat.zero_add _) rfl ?_
  refine c_X7_isSheet (fun hw1 => ?_) (fun hw1 => ?_)
  · obtain ⟨sn, hsn, esn⟩ := wi_nI (H := 3) (by decide) (by decide) hw1
    subst esn
    have fsn : fN (nI sn) = sn := fN_nI (by omega)
    obtain ⟨hsr, z9, hz24, ez9⟩ := hI sn (by omega)
    have fz9 : fN (nI z9) = z9 := fN_nI (by omega)
    refine aw_re (S' := [.int 1]) rfl ?_
    refine aw_if_ne (npc := 7) (tgt := 10) dX7_reads_4 rfl (by decide) (fun _ => ?_) (fun hc => absurd hc (by decide))
    refine aw_aload_n (npc := 11) rfl dX7_reads_10 rfl ?_
    refine aw_get (npc := 14) dX7_reads_11 rfl kf_X7_47 O.1 rfl ?_
    refine aw_iload_n (npc := 15) rfl dX7_reads_14 rfl ?_
    refine aw_aald (npc := 16) (j := sn) dX7_reads_15 rfl (by decide) O.2.1 (am_ix_nI (by omega)) (sh_at (by omega)) ?_
    refine aw_astore_n (npc := 17) (L' := [some (.ref 0), some (.int (nI sn)), some (.ref (46 + 2 * sn)), none]) dX7_reads_16 rfl (by decide) rfl rfl ?_
    refine aw_aload_n (npc := 18) rfl dX7_reads_17 rfl ?_
    refine aw_callV (npc := 21) (N := mX2_isMissing) (b := 46 + 2 * sn) (mc := 0) (ms := 0) (A := []) (S := []) (L0 := [some (.ref (46 + 2 * sn))]) dX7_reads_18 rfl km_X2_isMissing kk_X7_207 (Rw sn (by omega)).1 ⟨by decide, rfl⟩ rfl ⟨rfl, by decide⟩ rfl (Nat.le_of_ble_eq_true rfl) (Nat.zero_add _) (Nat.zero_add _) rfl ?_
    refine aw_aload_n (npc := 1) rfl dX2_isMissing_0 rfl ?_
    refine aw_get (npc := 4) dX2_isMissing_1 rfl kf_X2_9 (Rw sn (by omega)).1 rfl ?_
    rcases wi_cm1_1 hsr with esr | esr | esr
    · refine aw_top (y := -1) esr ?_
      refine aw_iconst (npc := 5) (v := -1) (by decide) dX2_isMissing_4 rfl ?_
      refine aw_icmp_ne (npc := 8) (tgt := 12) dX2_isMissing_5 rfl (by decide) (fun hc => absurd (by decide) hc) (fun _ => ?_)
      refine aw_iconst (npc := 9) (v := 1) (by decide) dX2_isMissing_8 rfl ?_
      refine aw_goto (npc := 13) dX2_isMissing_9 (by decide) ?_
      refine aw_zret rfl rfl dX2_isMissing_13 ?_
      refine aw_re (S' := [.int 1]) rfl ?_
      refine aw_if_eq (npc := 24) (tgt := 27) dX7_reads_21 rfl (by decide) (fun hc => absurd hc (by decide)) (fun _ => ?_)
      refine aw_ldc (npc := 26) kc_X7_210 dX7_reads_24 rfl ?_
      refine aw_iret rfl dX7_reads_26 ?_
      exact hq _ _ (by simp [rsV, cI, hw1, fsn, esr]) ⟨_, _, _, _, F2, hl13⟩ G am_fp0
    · refine aw_top (y := 0) esr ?_
      refine aw_iconst (npc := 5) (v := -1) (by decide) dX2_isMissing_4 rfl ?_
      refine aw_icmp_ne (npc := 8) (tgt := 12) dX2_isMissing_5 rfl (by decide) (fun _ => ?_) (fun hc => absurd hc (by decide))
      refine aw_iconst (npc := 13) (v := 0) (by decide) dX2_isMissing_12 rfl ?_
      refine aw_zret rfl rfl dX2_isMissing_13 ?_
      refine aw_re (S' := [.int 0]) rfl ?_
      refine aw_if_eq (npc := 24) (tgt := 27) dX7_reads_21 rfl (by decide) (fun _ => ?_) (fun hc => absurd (by decide) hc)
      refine aw_aload_n (npc := 28) rfl dX7_reads_27 rfl ?_
      refine aw_get (npc := 31) dX7_reads_28 rfl kf_X7_16 O.1 rfl ?_
      refine aw_aload_n (npc := 32) rfl dX7_reads_31 rfl ?_
      refine aw_get (npc := 35) dX7_reads_32 rfl kf_X7_10 O.1 rfl ?_
      refine aw_callV (npc := 38) (N := mX0_becomes) (b := 13) (mc := 0) (ms := 0) (A := [.ref 1]) (S := []) (L0 := [some (.ref 13), some (.ref 1), none]) dX7_reads_35 rfl km_X0_becomes kk_X7_193 F2.1 ⟨by decide, rfl⟩ rfl ⟨rfl, by decide⟩ rfl (Nat.le_of_ble_eq_true rfl) (Nat.zero_add _) (Nat.zero_add _) rfl ?_
      refine g_bec (tb := tb) F2 F G (by omega) (by omega) hl13 hC.1.1 hC.1.2.2.1 (fun hp4 F2 fz3 => ?_)
      have O5 := ob_frame O (fz3 0 (by omega)) (fz3 43 (by omega)) (fz3 44 (by omega))
      have F6 := qr_frame F (fun k h1 h2 => fz3 k (by omega))
      have Rw7 := rw_frame Rw (fun k h1 h2 => fz3 k (by omega))
      have G8 := tt_frame G (fun k hk => fz3 k (by omega))
      refine aw_iconst (npc := 39) (v := 0) (by decide) dX7_reads_38 rfl ?_
      refine aw_istore_n (npc := 40) (L' := [some (.ref 0), some (.int (nI sn)), some (.ref (46 + 2 * sn)), some (.int 0)]) dX7_reads_39 rfl (by decide) rfl rfl ?_
      refine aw_locs (L' := [some (.ref 0), some (.int (nI sn)), some (.ref (46 + 2 * sn)), some (.int (nI 0))]) rfl ?_
      refine C_readsL (by omega) hz24 ez9 z9 0 (by omega) _ _ _ O5 F2 Rw7 G8 hC hK (fun v9 h9 e9 T9 G9 f9 => hq v9 h9 ?_ T9 G9 (am_fpT f9 (am_fpT (fun k (hk : k < 92 ∧ (k < 13 ∨ 25 ≤ k)) => fz3 k (by omega)) am_fp0)))
      rw [e9]; simp [rsV, cI, hw1, fsn, esr, ez9, fz9]
    · refine aw_top (y := 1) esr ?_
      refine aw_iconst (npc := 5) (v := -1) (by decide) dX2_isMissing_4 rfl ?_
      refine aw_icmp_ne (npc := 8) (tgt := 12) dX2_isMissing_5 rfl (by decide) (fun _ => ?_) (fun hc => absurd hc (by decide))
      refine aw_iconst (npc := 13) (v := 0) (by decide) dX2_isMissing_12 rfl ?_
      refine aw_zret rfl rfl dX2_isMissing_13 ?_
      refine aw_re (S' := [.int 0]) rfl ?_
      refine aw_if_eq (npc := 24) (tgt := 27) dX7_reads_21 rfl (by decide) (fun _ => ?_) (fun hc => absurd (by decide) hc)
      refine aw_aload_n (npc := 28) rfl dX7_reads_27 rfl ?_
      refine aw_get (npc := 31) dX7_reads_28 rfl kf_X7_16 O.1 rfl ?_
      refine aw_aload_n (npc := 32) rfl dX7_reads_31 rfl ?_
      refine aw_get (npc := 35) dX7_reads_32 rfl kf_X7_10 O.1 rfl ?_
      refine aw_callV (npc := 38) (N := mX0_becomes) (b := 13) (mc := 0) (ms := 0) (A := [.ref 1]) (S := []) (L0 := [some (.ref 13), some (.ref 1), none]) dX7_reads_35 rfl km_X0_becomes kk_X7_193 F2.1 ⟨by decide, rfl⟩ rfl ⟨rfl, by decide⟩ rfl (Nat.le_of_ble_eq_true rfl) (Nat.zero_add _) (Nat.zero_add _) rfl ?_
      refine g_bec (tb := tb) F2 F G (by omega) (by omega) hl13 hC.1.1 hC.1.2.2.1 (fun hp11 F9 fz10 => ?_)
      have O12 := ob_frame O (fz10 0 (by omega)) (fz10 43 (by omega)) (fz10 44 (by omega))
      have F13 := qr_frame F (fun k h1 h2 => fz10 k (by omega))
      have Rw14 := rw_frame Rw (fun k h1 h2 => fz10 k (by omega))
      have G15 := tt_frame G (fun k hk => fz10 k (by omega))
      refine aw_iconst (npc := 39) (v := 0) (by decide) dX7_reads_38 rfl ?_
      refine aw_istore_n (npc := 40) (L' := [some (.ref 0), some (.int (nI sn)), some (.ref (46 + 2 * sn)), some (.int 0)]) dX7_reads_39 rfl (by decide) rfl rfl ?_
      refine aw_locs (L' := [some (.ref 0), some (.int (nI sn)), some (.ref (46 + 2 * sn)), some (.int (nI 0))]) rfl ?_
      refine C_readsL (by omega) hz24 ez9 z9 0 (by omega) _ _ _ O12 F9 Rw14 G15 hC hK (fun v9 h9 e9 T9 G9 f9 => hq v9 h9 ?_ T9 G9 (am_fpT f9 (am_fpT (fun k (hk : k < 92 ∧ (k < 13 ∨ 25 ≤ k)) => fz10 k (by omega)) am_fp0)))
      rw [e9]; simp [rsV, cI, hw1, fsn, esr, ez9, fz9]
  · refine aw_re (S' := [.int 0]) rfl ?_
    refine aw_if_ne (npc := 7) (tgt := 10) dX7_reads_4 rfl (by decide) (fun hc => absurd (by decide) hc) (fun _ => ?_)
    refine aw_ldc (npc := 9) kc_X7_78 dX7_reads_7 rfl ?_
    refine aw_iret rfl dX7_reads_9 ?_
    exact hq _ _ (by simp [rsV, cI, hw1]) ⟨_, _, _, _, F2, hl13⟩ G am_fp0
