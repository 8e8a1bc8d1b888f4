theorem orN_n {v : Nat} (h : v < 1000) : orN (nI v) = nI v := if_neg (nI_pos (by omega))
set_option maxHeartbeats 4000000 in
set_option maxRecDepth 100000 in
theorem M_coolL {X : List Int32} {d rc rs n : Nat} {Q : am_Q} {fr c : Nat} {tb : TB} {tx : List Value} {lk : Nat → Int32} {N : Nat → Int32} {K : Nat} (hK40 : K < 1000) (hC : TC tb tx lk N c) (hK : RK N fr c) : ∀ (m : Nat), m ≤ 100 → ∀ (o : Nat → Int32) (a : Nat → Nat → Int32) (h : am_H), MR o N a h → (∀ j, j < 62 → a 74 j = N j) → o 4 = -1 → (∀ v9 o9 a9 h9, v9 = clM c fr K N m → MR o9 N a9 h9 → olT o9 o → o9 4 = -1 → alT a9 a → am_fp (fun k => k < 69 ∨ 92 ≤ k) h9 h → Q (some (.int v9)) n h9) → AW X mX8_cool (d + 40) rc rs 22 [some (.ref 69), some (.int (nI K)), some (.int (-1)), some (.int (nI m - 1))] [] n h Q := by
  have h8r := hK.2.1
  intro m
  induction m with
  | zero =>
    intro hm o a h F h74 ho4 hq
    rw [show nI 0 - 1 = (-1 : Int32) by decide]
    refine aw_iload_n (npc := 23) rfl dX8_cool_22 rfl ?_
    refine aw_if_lt (npc := 26) (tgt := 57) dX8_cool_23 rfl (by decide) (fun _ => ?_) (fun hc => absurd (by decide) hc)
    refine aw_iload_n (npc := 58) rfl dX8_cool_57 rfl ?_
    refine aw_callS (npc := 61) (N := mX8_told0) (mc := 0) (ms := 0) (A := [.int (-1)]) (S := []) (L0 := [some (.int (-1))]) dX8_cool_58 rfl km_X8_told0 kk_X8_124 rfl ⟨rfl, by decide⟩ rfl (Nat.le_of_ble_eq_true rfl) (Nat.zero_add _) (Nat.zero_add _) rfl ?_
    refine c_X8_told0 ?_
    refine aw_re (S' := [.int (orN (-1))]) rfl ?_
    refine aw_iret rfl dX8_cool_61 ?_
    exact hq _ _ _ _ (by simp [clM, orN]) F olT_0 ho4 alT_0 am_fp0
  | succ m ih =>
    intro hm o a h F h74 ho4 hq
    rw [nIs1 m (by omega)]
    refine aw_iload_n (npc := 23) rfl dX8_cool_22 rfl ?_
    refine aw_if_lt (npc := 26) (tgt := 57) dX8_cool_23 rfl (by decide) (fun hc => absurd hc (nI_pos (by omega))) (fun _ => ?_)
    refine aw_iload_n (npc := 27) rfl dX8_cool_26 rfl ?_
    refine aw_if_ge (npc := 30) (tgt := 57) dX8_cool_27 rfl (by decide) (fun hc => absurd hc (by decide)) (fun _ => ?_)
    refine aw_aload_n (npc := 31) rfl dX8_cool_30 rfl ?_
    refine aw_get (npc := 34) dX8_cool_31 rfl kf_X8_9 F.1 rfl ?_
    refine aw_iconst (npc := 35) (v := 3) (by decide) dX8_cool_34 rfl ?_
    refine aw_iload_n (npc := 36) rfl dX8_cool_35 rfl ?_
    refine aw_iast (npc := 37) (j := 3) dX8_cool_36 rfl F.2.1 ⟨by decide, by decide⟩ (by rw [tl_len]; omega) rfl ?_
    have F2 := mr_70 (j := 3) (v := nI m) F
    refine aw_aload_n (npc := 38) rfl dX8_cool_37 rfl ?_
    refine aw_iload_n (npc := 39) rfl dX8_cool_38 rfl ?_
    refine aw_callV (npc := 42) (N := mX8_endsWell) (b := 69) (mc := 0) (ms := 0) (A := [.int (nI K)]) (S := []) (L0 := [some (.ref 69), some (.int (nI K)), none]) dX8_cool_39 rfl km_X8_endsWell kk_X8_181 F2.1 ⟨by decide, rfl⟩ rfl ⟨rfl, by decide⟩ rfl (Nat.le_of_ble_eq_true rfl) (Nat.zero_add _) (Nat.zero_add _) rfl ?_
    refine m_ew (N0 := N) (K := K) (wo := (-1)) (by omega) F2 (tc_u (by omega) (by omega) hC) (rk_heat (wi_n0 (c := 99) (by omega) (by omega)) hK) h74 (fun j hj => ((pk_un (by omega)).trans rfl)) ho4 (fun hp3 oE4 aE5 h9x6 Fx7 o4x8 olx9 alx10 fzx11 => ?_) (fun hp3 oE4 aE5 h9x6 Fx7 o4x8 olx9 alx10 fzx11 => ?_)
    · have h7h9x6 : ∀ j, j < 62 → aE5 74 j = N j := fun j hj => (congrFun (alx10 74 (by decide) (by decide) (by decide)) j).trans (h74 j hj)
      have fyfzx11 : ∀ k, (k < 69 ∨ 92 ≤ k) → h9x6 k = _ := fun k hk => fzx11 k hk
      refine aw_re (S' := [.int 1]) rfl ?_
      refine aw_if_eq (npc := 45) (tgt := 49) dX8_cool_42 rfl (by decide) (fun hc => absurd hc (by decide)) (fun _ => ?_)
      refine aw_iload_n (npc := 46) rfl dX8_cool_45 rfl ?_
      refine aw_goto (npc := 50) dX8_cool_46 (by decide) ?_
      refine aw_istore_n (npc := 51) (L' := [some (.ref 69), some (.int (nI K)), some (.int (nI m)), some (.int (nI m))]) dX8_cool_50 rfl (by decide) rfl rfl ?_
      refine aw_iinc (npc := 54) (v := (nI m - 1)) (L' := [some (.ref 69), some (.int (nI K)), some (.int (nI m)), some (.int (nI m - 1))]) dX8_cool_51 rfl rfl (m1_m1 _) (by decide) rfl rfl ?_
      refine aw_goto (npc := 22) dX8_cool_54 (by decide) ?_
      refine aw_iload_n (npc := 23) rfl dX8_cool_22 rfl ?_
      refine aw_if_lt (npc := 26) (tgt := 57) dX8_cool_23 rfl (by decide) (fun hc12 => ?_) (fun hc12 => ?_)
      · refine aw_iload_n (npc := 58) rfl dX8_cool_57 rfl ?_
        refine aw_callS (npc := 61) (N := mX8_told0) (mc := 0) (ms := 0) (A := [.int (nI m)]) (S := []) (L0 := [some (.int (nI m))]) dX8_cool_58 rfl km_X8_told0 kk_X8_124 rfl ⟨rfl, by decide⟩ rfl (Nat.le_of_ble_eq_true rfl) (Nat.zero_add _) (Nat.zero_add _) rfl ?_
        refine c_X8_told0 ?_
        refine aw_re (S' := [.int (orN (nI m))]) rfl ?_
        refine aw_iret rfl dX8_cool_61 ?_
        exact hq _ _ _ _ (by simp [clM, cI, hp3, hc12, orN_n (show m < 1000 by omega)]) Fx7 (olT_t olx9 olT_0) o4x8 (alT_t (alT_3 alx10) alT_0) (am_fpT (fun k (hk : k < 69 ∨ 92 ≤ k) => fyfzx11 k (by omega)) (am_fpU (show ¬ (70 < 69 ∨ 92 ≤ 70) by omega) am_fp0))
      · refine aw_iload_n (npc := 27) rfl dX8_cool_26 rfl ?_
        refine aw_if_ge (npc := 30) (tgt := 57) dX8_cool_27 rfl (by decide) (fun _ => ?_) (fun hc => absurd (nI_pos' (by omega)) hc)
        refine aw_iload_n (npc := 58) rfl dX8_cool_57 rfl ?_
        refine aw_callS (npc := 61) (N := mX8_told0) (mc := 0) (ms := 0) (A := [.int (nI m)]) (S := []) (L0 := [some (.int (nI m))]) dX8_cool_58 rfl km_X8_told0 kk_X8_124 rfl ⟨rfl, by decide⟩ rfl (Nat.le_of_ble_eq_true rfl) (Nat.zero_add _) (Nat.zero_add _) rfl ?_
        refine c_X8_told0 ?_
        refine aw_re (S' := [.int (orN (nI m))]) rfl ?_
        refine aw_iret rfl dX8_cool_61 ?_
        exact hq _ _ _ _ (by simp [clM, cI, hp3, hc12, orN_n (show m < 1000 by omega)]) Fx7 (olT_t olx9 olT_0) o4x8 (alT_t (alT_3 alx10) alT_0) (am_fpT (fun k (hk : k < 69 ∨ 92 ≤ k) => fyfzx11 k (by omega)) (am_fpU (show ¬ (70 < 69 ∨ 92 ≤ 70) by omega) am_fp0))
    · have h7h9x6 : ∀ j, j < 62 → aE5 74 j = N j := fun j hj => (congrFun (alx10 74 (by decide) (by decide) (by decide)) j).trans (h74 j hj)
      have fyfzx11 : ∀ k, (k < 69 ∨ 92 ≤ k) → h9x6 k = _ := fun k hk => fzx11 k hk
      refine aw_re (S' := [.int 0]) rfl ?_
      refine aw_if_eq (npc := 45) (tgt := 49) dX8_cool_42 rfl (by decide) (fun _ => ?_) (fun hc => absurd (by decide) hc)
      refine aw_iconst (npc := 50) (v := -1) (by decide) dX8_cool_49 rfl ?_
      refine aw_istore_n (npc := 51) (L' := [some (.ref 69), some (.int (nI K)), some (.int (-1)), some (.int (nI m))]) dX8_cool_50 rfl (by decide) rfl rfl ?_
      refine aw_iinc (npc := 54) (v := (nI m - 1)) (L' := [some (.ref 69), some (.int (nI K)), some (.int (-1)), some (.int (nI m - 1))]) dX8_cool_51 rfl rfl (m1_m1 _) (by decide) rfl rfl ?_
      refine aw_goto (npc := 22) dX8_cool_54 (by decide) ?_
      refine ih (by omega) _ _ _ Fx7 h7h9x6 o4x8 (fun v9 o9 a9 h9 e9 F9 ol9 o49 al9 f9 => hq v9 o9 a9 h9 ?_ F9 (olT_t ol9 (olT_t olx9 olT_0)) o49 (alT_t al9 (alT_t (alT_3 alx10) alT_0)) (am_fpT f9 (am_fpT (fun k (hk : k < 69 ∨ 92 ≤ k) => fyfzx11 k (by omega)) (am_fpU (show ¬ (70 < 69 ∨ 92 ≤ 70) by omega) am_fp0))))
      rw [e9]; simp [clM, cI, hp3]
set_option maxHeartbeats 4000000 in
set_option maxRecDepth 100000 in
theorem M_cool {X : List Int32} {d rc rs n : Nat} {Q : am_Q} {h : am_H} {o N : Nat → Int32} {a : Nat → Nat → Int32} {fr c : Nat} {v : Int32} {tb : TB} {tx : List Value} {lk : Nat → Int32} (F : MR o N a h) (hR : RG N fr c) (hC : TC tb tx lk N c) (ho4 : o 4 = -1) (hq : ∀ v9 o9 a9 h9, v9 = coolV c fr N v → MR o9 N a9 h9 → ol6 o9 o → alT a9 a → am_fp (fun k => k < 69 ∨ 92 ≤ k) h9 h → Q (some (.int v9)) n h9) : AW X mX8_cool (d + 40) rc rs 0 [some (.ref 69), some (.int v), none, none] [] n h Q := by
  have h8r := hR.2.1
  have h14r := hR.2.2.2.1
  have hK := rg_rk hR
  refine aw_iload_n (npc := 1) rfl dX8_cool_0 rfl ?_
  refine aw_iconst (npc := 2) (v := 1) (by decide) dX8_cool_1 rfl ?_
  refine aw_bipush (npc := 4) (v := 40) (by decide) dX8_cool_2 rfl ?_
  refine aw_callS (npc := 7) (N := mX8_in) (mc := 0) (ms := 0) (A := [.int v, .int 1, .int 40]) (S := []) (L0 := [some (.int v), some (.int 1), some (.int 40)]) dX8_cool_4 rfl km_X8_in kk_X8_83 rfl ⟨rfl, by decide⟩ rfl (Nat.le_of_ble_eq_true rfl) (Nat.zero_add _) (Nat.zero_add _) rfl ?_
  refine c_X8_in (fun hw1 => ?_) (fun hw1 => ?_)
  · obtain ⟨vn, hvn, evn⟩ := wi_nI (H := 40) (by decide) (by decide) hw1
    subst evn
    have fvn : fN (nI vn) = vn := fN_nI (by omega)
    refine aw_re (S' := [.int 1]) rfl ?_
    refine aw_if_ne (npc := 10) (tgt := 13) dX8_cool_7 rfl (by decide) (fun _ => ?_) (fun hc => absurd hc (by decide))
    refine aw_aload_n (npc := 14) rfl dX8_cool_13 rfl ?_
    refine aw_callV (npc := 17) (N := mX8_thinks) (b := 69) (mc := 0) (ms := 0) (A := []) (S := []) (L0 := [some (.ref 69), none]) dX8_cool_14 rfl km_X8_thinks kk_X8_169 F.1 ⟨by decide, rfl⟩ rfl ⟨rfl, by decide⟩ rfl (Nat.le_of_ble_eq_true rfl) (Nat.zero_add _) (Nat.zero_add _) rfl ?_
    refine m_thinks F (fun aT2 hp3 F4 eT5 cT6 fz7 => ?_)
    refine aw_iconst (npc := 18) (v := -1) (by decide) dX8_cool_17 rfl ?_
    refine aw_istore_n (npc := 19) (L' := [some (.ref 69), some (.int (nI vn)), some (.int (-1)), none]) dX8_cool_18 rfl (by decide) rfl rfl ?_
    refine aw_bipush (npc := 21) (v := 99) (by decide) dX8_cool_19 rfl ?_
    refine aw_istore_n (npc := 22) (L' := [some (.ref 69), some (.int (nI vn)), some (.int (-1)), some (.int 99)]) dX8_cool_21 rfl (by decide) rfl rfl ?_
    refine aw_locs (L' := [some (.ref 69), some (.int (nI vn)), some (.int (-1)), some (.int (nI 100 - 1))]) rfl ?_
    refine M_coolL (K := vn) (by omega) hC hK 100 (by omega) _ _ _ F4 eT5 ho4 (fun v9 o9 a9 h9 e9 F9 ol9 o49 al9 f9 => hq v9 o9 a9 h9 ?_ F9 (ol_end ol9 (o49.trans ho4.symm)) (alT_t al9 (alT_t (alT_4 cT6) alT_0)) (am_fpT f9 (am_fpT (fun k (hk : k < 69 ∨ 92 ≤ k) => fz7 k (by omega)) am_fp0)))
    rw [e9]; simp [coolV, cI, hw1, fvn]
  · refine aw_re (S' := [.int 0]) rfl ?_
    refine aw_if_ne (npc := 10) (tgt := 13) dX8_cool_7 rfl (by decide) (fun hc => absurd (by decide) hc) (fun _ => ?_)
    refine aw_ldc (npc := 12) kc_X8_91 dX8_cool_10 rfl ?_
    refine aw_iret rfl dX8_cool_12 ?_
    exact hq _ _ _ _ (by simp [coolV, cI, hw1]) F (ol_end olT_0 (Eq.trans ho4 ho4.symm)) alT_0 am_fp0
def mb1 : Option (Nat × Int32) → Int32
  | none => -1
  | some p => nI p.1
def mb2 : Option (Nat × Int32) → Int32
  | none => 0
  | some p => p.2
set_option maxHeartbeats 4000000 in
set_option maxRecDepth 100000 in
theorem M_boughtL {X : List Int32} {d rc rs n : Nat} {Q : am_Q} {fr c : Nat} {tb : TB} {tx : List Value} {lk : Nat → Int32} {N : Nat → Int32} {K : Nat} {w : Int32} (hK60 : K < 1000) (hC : TC tb tx lk N c) (hK : RK N fr c) : ∀ (m i : Nat), i + m = fr → ∀ (p : Option (Nat × Int32)), (∀ q, p = some q → q.1 < 8) → ∀ (v6 : Option Value) (o : Nat → Int32) (a : Nat → Nat → Int32) (h : am_H), MR o N a h → (∀ j, j < 62 → a 74 j = N j) → o 4 = -1 → (∀ v9 o9 a9 h9, v9 = cI (w = 0) (bt1 (btM c fr K N m i p)) (bt2 (btM c fr K N m i p)) → MR o9 N a9 h9 → olT o9 o → o9 4 = -1 → alT a9 a → am_fp (fun k => k < 69 ∨ 92 ≤ k) h9 h → Q (some (.int v9)) n h9) → AW X mX8_bought (d + 40) rc rs 34 [some (.ref 69), some (.int (nI K)), some (.int w), some (.int (mb1 p)), some (.int (mb2 p)), some (.int (nI i)), v6] [] n h Q := by
  have h8r := hK.2.1
  intro m
  induction m with
  | zero =>
    intro i hi p hp v6 o a h F h74 ho4 hq
    obtain rfl : i = fr := by omega
    cases p with
    | none =>
      show AW X mX8_bought (d + 40) rc rs 34 [some (.ref 69), some (.int (nI K)), some (.int w), some (.int (-1)), some (.int 0), some (.int (nI i)), v6] [] n h Q
      refine aw_iload (npc := 36) rfl dX8_bought_34 rfl ?_
      refine aw_aload_n (npc := 37) rfl dX8_bought_36 rfl ?_
      refine aw_get (npc := 40) dX8_bought_37 rfl kf_X8_9 F.1 rfl ?_
      refine aw_iconst (npc := 41) (v := 1) (by decide) dX8_bought_40 rfl ?_
      refine aw_iald (npc := 42) (x := N 1) (j := 1) dX8_bought_41 rfl F.2.1 ⟨by decide, by decide⟩ (tl_at (by omega)) ?_
      refine aw_top (y := nI i) (hK.1) ?_
      refine aw_icmp_ge (npc := 45) (tgt := 99) dX8_bought_42 rfl (by decide) (fun _ => ?_) (fun hc => absurd (nI_le (a := i) (b := i) (by omega) (by omega)) hc)
      refine aw_iload_n (npc := 100) rfl dX8_bought_99 rfl ?_
      refine aw_if_ge (npc := 103) (tgt := 108) dX8_bought_100 rfl (by decide) (fun hc => absurd hc (by decide)) (fun _ => ?_)
      refine aw_ldc (npc := 105) kc_X8_82 dX8_bought_103 rfl ?_
      refine aw_goto (npc := 118) dX8_bought_105 (by decide) ?_
      refine aw_iret rfl dX8_bought_118 ?_
      exact hq _ _ _ _ (by simp [cI, btM, bt1, bt2]) F olT_0 ho4 alT_0 am_fp0
    | some p =>
      have hp8 := hp p rfl
      show AW X mX8_bought (d + 40) rc rs 34 [some (.ref 69), some (.int (nI K)), some (.int w), some (.int (nI p.1)), some (.int p.2), some (.int (nI i)), v6] [] n h Q
      refine aw_iload (npc := 36) rfl dX8_bought_34 rfl ?_
      refine aw_aload_n (npc := 37) rfl dX8_bought_36 rfl ?_
      refine aw_get (npc := 40) dX8_bought_37 rfl kf_X8_9 F.1 rfl ?_
      refine aw_iconst (npc := 41) (v := 1) (by decide) dX8_bought_40 rfl ?_
      refine aw_iald (npc := 42) (x := N 1) (j := 1) dX8_bought_41 rfl F.2.1 ⟨by decide, by decide⟩ (tl_at (by omega)) ?_
      refine aw_top (y := nI i) (hK.1) ?_
      refine aw_icmp_ge (npc := 45) (tgt := 99) dX8_bought_42 rfl (by decide) (fun _ => ?_) (fun hc => absurd (nI_le (a := i) (b := i) (by omega) (by omega)) hc)
      refine aw_iload_n (npc := 100) rfl dX8_bought_99 rfl ?_
      refine aw_if_ge (npc := 103) (tgt := 108) dX8_bought_100 rfl (by decide) (fun _ => ?_) (fun hc => absurd (nI_pos' (by omega)) hc)
      refine aw_iload_n (npc := 109) rfl dX8_bought_108 rfl ?_
      refine aw_if_ne (npc := 112) (tgt := 116) dX8_bought_109 rfl (by decide) (fun hc3 => ?_) (fun hc3 => ?_)
      · refine aw_iload (npc := 118) rfl dX8_bought_116 rfl ?_
        refine aw_iret rfl dX8_bought_118 ?_
        exact hq _ _ _ _ (by simp [cI, btM, bt1, bt2, hc3]) F olT_0 ho4 alT_0 am_fp0
      · refine aw_iload_n (npc := 113) rfl dX8_bought_112 rfl ?_
        refine aw_goto (npc := 118) dX8_bought_113 (by decide) ?_
        refine aw_iret rfl dX8_bought_118 ?_
        exact hq _ _ _ _ (by simp [cI, btM, bt1, bt2, hc3]) F olT_0 ho4 alT_0 am_fp0
  | succ m ih =>
    intro i hi p hp v6 o a h F h74 ho4 hq
    cases p with
    | none =>
      show AW X mX8_bought (d + 40) rc rs 34 [some (.ref 69), some (.int (nI K)), some (.int w), some (.int (-1)), some (.int 0), some (.int (nI i)), v6] [] n h Q
      refine aw_iload (npc := 36) rfl dX8_bought_34 rfl ?_
      refine aw_aload_n (npc := 37) rfl dX8_bought_36 rfl ?_
      refine aw_get (npc := 40) dX8_bought_37 rfl kf_X8_9 F.1 rfl ?_
      refine aw_iconst (npc := 41) (v := 1) (by decide) dX8_bought_40 rfl ?_
      refine aw_iald (npc := 42) (x := N 1) (j := 1) dX8_bought_41 rfl F.2.1 ⟨by decide, by decide⟩ (tl_at (by omega)) ?_
      refine aw_top (y := nI fr) (hK.1) ?_
      refine aw_icmp_ge (npc := 45) (tgt := 99) dX8_bought_42 rfl (by decide) (fun hc => absurd hc (nI_ge (a := i) (b := fr) (by omega) (by omega))) (fun _ => ?_)
      refine aw_aload_n (npc := 46) rfl dX8_bought_45 rfl ?_
      refine aw_iload (npc := 48) rfl dX8_bought_46 rfl ?_
      refine aw_iconst (npc := 49) (v := 0) (by decide) dX8_bought_48 rfl ?_
      refine aw_iconst (npc := 50) (v := 5) (by decide) dX8_bought_49 rfl ?_
      refine aw_callV (npc := 53) (N := mX8_put) (b := 69) (mc := 0) (ms := 0) (A := [.int (nI i), .int 0, .int 5]) (S := []) (L0 := [some (.ref 69), some (.int (nI i)), some (.int 0), some (.int 5)]) dX8_bought_50 rfl km_X8_put kk_X8_87 F.1 ⟨by decide, rfl⟩ rfl ⟨rfl, by decide⟩ rfl (Nat.le_of_ble_eq_true rfl) (Nat.zero_add _) (Nat.zero_add _) rfl ?_
      refine m_put0 (f := i) (v := 5) F (by omega) (fun hp4 F2 fb3 => ?_)
      refine aw_aload_n (npc := 54) rfl dX8_bought_53 rfl ?_
      refine aw_iload_n (npc := 55) rfl dX8_bought_54 rfl ?_
      refine aw_callV (npc := 58) (N := mX8_goesOn) (b := 69) (mc := 0) (ms := 0) (A := [.int (nI K)]) (S := []) (L0 := [some (.ref 69), some (.int (nI K)), none]) dX8_bought_55 rfl km_X8_goesOn kk_X8_163 F2.1 ⟨by decide, rfl⟩ rfl ⟨rfl, by decide⟩ rfl (Nat.le_of_ble_eq_true rfl) (Nat.zero_add _) (Nat.zero_add _) rfl ?_
      have hT5 : TC tb tx lk (upd N (22 + 5 * i) 5) c := (tc_u (by omega) (by omega) hC)
      have hK6 : RK (upd N (22 + 5 * i) 5) fr c := (rk_kind ⟨by decide, by decide⟩ (by omega) hK)
      have o4x := ho4
      refine m_go (p := K) (c := c) (fr := fr) (by omega) F2 (mi_rk hK6 (tc_txm hT5)) (fun o9x7 N9x8 a9x9 h9x10 hrx11 Fx12 olx13 alx14 fzx15 => ?_)
      have eNx16 : N9x8 = goF c fr (-1) K (upd N (22 + 5 * i) 5) := go_m _ _ _ hT5 hK6 (o4x ▸ hrx11)
      subst eNx16
      have o417 := ((olx13 4 (by decide)).trans o4x)
      have h7418 : ∀ j, j < 62 → a9x9 74 j = N j := (fun j hj => (congrFun (alx14 74 (by decide) (by decide) (by decide)) j).trans (h74 j hj))
      refine aw_aload_n (npc := 59) rfl dX8_bought_58 rfl ?_
      refine aw_aload_n (npc := 60) rfl dX8_bought_59 rfl ?_
      refine aw_iload (npc := 62) rfl dX8_bought_60 rfl ?_
      refine aw_iconst (npc := 63) (v := 1) (by decide) dX8_bought_62 rfl ?_
      refine aw_callV (npc := 66) (N := mX8_of) (b := 69) (mc := 0) (ms := 0) (A := [.int (nI i), .int 1]) (S := [.ref 69]) (L0 := [some (.ref 69), some (.int (nI i)), some (.int 1)]) dX8_bought_63 rfl km_X8_of kk_X8_101 Fx12.1 ⟨by decide, rfl⟩ rfl ⟨rfl, by decide⟩ rfl (Nat.le_of_ble_eq_true rfl) (Nat.zero_add _) (Nat.zero_add _) rfl ?_
      refine m_of1 (f := i) Fx12 (by omega) ?_
      refine aw_re (S' := [.int ((goF c fr (-1) K (upd N (22 + 5 * i) 5)) (23 + 5 * i)), .ref 69]) rfl ?_
      have esd : (goF c fr (-1) K (upd N (22 + 5 * i) 5)) (23 + 5 * i) = N (23 + 5 * i) := (goF_k h8r (by omega) (by omega) (by omega) (by omega) (by omega) (by omega) _ _).trans (pk_un (by omega))
      rcases wi_c0_1 (hK.2.2.2.2.1 i (by omega)).2.1 with eside | eside
      · refine aw_top (y := 0) (esd.trans eside) ?_
        refine aw_callV (npc := 69) (N := mX8_has) (b := 69) (mc := 0) (ms := 0) (A := [.int 0]) (S := []) (L0 := [some (.ref 69), some (.int 0), none, none, none]) dX8_bought_66 rfl km_X8_has kk_X8_143 Fx12.1 ⟨by decide, rfl⟩ rfl ⟨rfl, by decide⟩ rfl (Nat.le_of_ble_eq_true rfl) (Nat.zero_add _) (Nat.zero_add _) rfl ?_
        refine m_has0 Fx12 ?_
        refine aw_re (S' := [.int (hs0 (goF c fr (-1) K (upd N (22 + 5 * i) 5)))]) rfl ?_
        refine aw_istore (npc := 71) (L' := [some (.ref 69), some (.int (nI K)), some (.int w), some (.int (-1)), some (.int 0), some (.int (nI i)), some (.int (hs0 (goF c fr (-1) K (upd N (22 + 5 * i) 5))))]) dX8_bought_69 rfl (by decide) rfl rfl ?_
        refine aw_aload_n (npc := 72) rfl dX8_bought_71 rfl ?_
        refine aw_callV (npc := 75) (N := mX8_putsBack) (b := 69) (mc := 0) (ms := 0) (A := []) (S := []) (L0 := [some (.ref 69), none]) dX8_bought_72 rfl km_X8_putsBack kk_X8_175 Fx12.1 ⟨by decide, rfl⟩ rfl ⟨rfl, by decide⟩ rfl (Nat.le_of_ble_eq_true rfl) (Nat.zero_add _) (Nat.zero_add _) rfl ?_
        refine m_puts Fx12 (fun N819 hp20 F21 e822 c823 fz24 => ?_)
        have eN25 : N819 = N := funext (fun j => by
          by_cases hj : j < 62
          · exact (e822 j hj).trans (h7418 j hj)
          · have hj : 62 ≤ j := by omega
            exact (c823 j hj).trans ((goF_62 hK6.2.1 hj).trans ((pk_un (by omega)).trans rfl)))
        rw [eN25] at F21
        refine aw_iload_n (npc := 76) rfl dX8_bought_75 rfl ?_
        refine aw_if_lt (npc := 79) (tgt := 86) dX8_bought_76 rfl (by decide) (fun _ => ?_) (fun hc => absurd (by decide) hc)
        refine aw_iload (npc := 88) rfl dX8_bought_86 rfl ?_
        refine aw_istore_n (npc := 89) (L' := [some (.ref 69), some (.int (nI K)), some (.int w), some (.int (nI i)), some (.int 0), some (.int (nI i)), some (.int (hs0 (goF c fr (-1) K (upd N (22 + 5 * i) 5))))]) dX8_bought_88 rfl (by decide) rfl rfl ?_
        refine aw_iload (npc := 91) rfl dX8_bought_89 rfl ?_
        refine aw_istore (npc := 93) (L' := [some (.ref 69), some (.int (nI K)), some (.int w), some (.int (nI i)), some (.int (hs0 (goF c fr (-1) K (upd N (22 + 5 * i) 5)))), some (.int (nI i)), some (.int (hs0 (goF c fr (-1) K (upd N (22 + 5 * i) 5))))]) dX8_bought_91 rfl (by decide) rfl rfl ?_
        refine aw_iinc (npc := 96) (v := nI (i + 1)) (L' := [some (.ref 69), some (.int (nI K)), some (.int w), some (.int (nI i)), some (.int (hs0 (goF c fr (-1) K (upd N (22 + 5 * i) 5)))), some (.int (nI (i + 1))), some (.int (hs0 (goF c fr (-1) K (upd N (22 + 5 * i) 5))))]) dX8_bought_93 rfl rfl (nI_1 _) (by decide) rfl rfl ?_
        refine aw_goto (npc := 34) dX8_bought_96 (by decide) ?_
        have el : btL c fr K N i = hs0 (goF c fr (-1) K (upd N (22 + 5 * i) 5)) := by unfold btL hsS; rw [eside]; rfl
        have e8 : btS c fr K N i none = some (i, btL c fr K N i) := by
          rfl
        refine aw_locs (L' := [some (.ref 69), some (.int (nI K)), some (.int w), some (.int (mb1 (some (i, btL c fr K N i)))), some (.int (mb2 (some (i, btL c fr K N i)))), some (.int (nI (i + 1))), some (.int (hs0 (goF c fr (-1) K (upd N (22 + 5 * i) 5))))]) (by rw [el]; rfl) ?_
        refine ih (i + 1) (by omega) (some (i, btL c fr K N i)) (e8 ▸ btS_lt (by omega) hp) _ _ _ _ F21 h7418 pk_us (fun v9 o9 a9 h9 e9 F9 ol9 o49 al9 f9 => hq v9 o9 a9 h9 ?_ F9 (olT_t ol9 (olT_u (olT_t (olT_6 olx13) olT_0))) o49 (alT_t al9 (alT_t (alT_3 alx14) alT_0)) (am_fpT f9 (am_fpT (fun k (hk : k < 69 ∨ 92 ≤ k) => fz24 k (by omega)) (am_fpT (fun k (hk : k < 69 ∨ 92 ≤ k) => fzx15 k (by omega)) (am_fpT (fun k (hk : k < 69 ∨ 92 ≤ k) => fb3 k (by omega)) am_fp0)))))
        rw [e9]; exact congrArg (fun z => cI (w = 0) (bt1 (btM c fr K N m (i + 1) z)) (bt2 (btM c fr K N m (i + 1) z))) e8.symm
      · refine aw_top (y := 1) (esd.trans eside) ?_
        refine aw_callV (npc := 69) (N := mX8_has) (b := 69) (mc := 0) (ms := 0) (A := [.int 1]) (S := []) (L0 := [some (.ref 69), some (.int 1), none, none, none]) dX8_bought_66 rfl km_X8_has kk_X8_143 Fx12.1 ⟨by decide, rfl⟩ rfl ⟨rfl, by decide⟩ rfl (Nat.le_of_ble_eq_true rfl) (Nat.zero_add _) (Nat.zero_add _) rfl ?_
        refine m_has1 Fx12 ?_
        refine aw_re (S' := [.int (hs1 (goF c fr (-1) K (upd N (22 + 5 * i) 5)))]) rfl ?_
        refine aw_istore (npc := 71) (L' := [some (.ref 69), some (.int (nI K)), some (.int w), some (.int (-1)), some (.int 0), some (.int (nI i)), some (.int (hs1 (goF c fr (-1) K (upd N (22 + 5 * i) 5))))]) dX8_bought_69 rfl (by decide) rfl rfl ?_
        refine aw_aload_n (npc := 72) rfl dX8_bought_71 rfl ?_
        refine aw_callV (npc := 75) (N := mX8_putsBack) (b := 69) (mc := 0) (ms := 0) (A := []) (S := []) (L0 := [some (.ref 69), none]) dX8_bought_72 rfl km_X8_putsBack kk_X8_175 Fx12.1 ⟨by decide, rfl⟩ rfl ⟨rfl, by decide⟩ rfl (Nat.le_of_ble_eq_true rfl) (Nat.zero_add _) (Nat.zero_add _) rfl ?_
        refine m_puts Fx12 (fun N826 hp27 F28 e829 c830 fz31 => ?_)
        have eN32 : N826 = N := funext (fun j => by
          by_cases hj : j < 62
          · exact (e829 j hj).trans (h7418 j hj)
          · have hj : 62 ≤ j := by omega
            exact (c830 j hj).trans ((goF_62 hK6.2.1 hj).trans ((pk_un (by omega)).trans rfl)))
        rw [eN32] at F28
        refine aw_iload_n (npc := 76) rfl dX8_bought_75 rfl ?_
        refine aw_if_lt (npc := 79) (tgt := 86) dX8_bought_76 rfl (by decide) (fun _ => ?_) (fun hc => absurd (by decide) hc)
        refine aw_iload (npc := 88) rfl dX8_bought_86 rfl ?_
        refine aw_istore_n (npc := 89) (L' := [some (.ref 69), some (.int (nI K)), some (.int w), some (.int (nI i)), some (.int 0), some (.int (nI i)), some (.int (hs1 (goF c fr (-1) K (upd N (22 + 5 * i) 5))))]) dX8_bought_88 rfl (by decide) rfl rfl ?_
        refine aw_iload (npc := 91) rfl dX8_bought_89 rfl ?_
        refine aw_istore (npc := 93) (L' := [some (.ref 69), some (.int (nI K)), some (.int w), some (.int (nI i)), some (.int (hs1 (goF c fr (-1) K (upd N (22 + 5 * i) 5)))), some (.int (nI i)), some (.int (hs1 (goF c fr (-1) K (upd N (22 + 5 * i) 5))))]) dX8_bought_91 rfl (by decide) rfl rfl ?_
        refine aw_iinc (npc := 96) (v := nI (i + 1)) (L' := [some (.ref 69), some (.int (nI K)), some (.int w), some (.int (nI i)), some (.int (hs1 (goF c fr (-1) K (upd N (22 + 5 * i) 5)))), some (.int (nI (i + 1))), some (.int (hs1 (goF c fr (-1) K (upd N (22 + 5 * i) 5))))]) dX8_bought_93 rfl rfl (nI_1 _) (by decide) rfl rfl ?_
        refine aw_goto (npc := 34) dX8_bought_96 (by decide) ?_
        have el : btL c fr K N i = hs1 (goF c fr (-1) K (upd N (22 + 5 * i) 5)) := by unfold btL hsS; rw [eside]; rfl
        have e8 : btS c fr K N i none = some (i, btL c fr K N i) := by
          rfl
        refine aw_locs (L' := [some (.ref 69), some (.int (nI K)), some (.int w), some (.int (mb1 (some (i, btL c fr K N i)))), some (.int (mb2 (some (i, btL c fr K N i)))), some (.int (nI (i + 1))), some (.int (hs1 (goF c fr (-1) K (upd N (22 + 5 * i) 5))))]) (by rw [el]; rfl) ?_
        refine ih (i + 1) (by omega) (some (i, btL c fr K N i)) (e8 ▸ btS_lt (by omega) hp) _ _ _ _ F28 h7418 pk_us (fun v9 o9 a9 h9 e9 F9 ol9 o49 al9 f9 => hq v9 o9 a9 h9 ?_ F9 (olT_t ol9 (olT_u (olT_t (olT_6 olx13) olT_0))) o49 (alT_t al9 (alT_t (alT_3 alx14) alT_0)) (am_fpT f9 (am_fpT (fun k (hk : k < 69 ∨ 92 ≤ k) => fz31 k (by omega)) (am_fpT (fun k (hk : k < 69 ∨ 92 ≤ k) => fzx15 k (by omega)) (am_fpT (fun k (hk : k < 69 ∨ 92 ≤ k) => fb3 k (by omega)) am_fp0)))))
        rw [e9]; exact congrArg (fun z => cI (w = 0) (bt1 (btM c fr K N m (i + 1) z)) (bt2 (btM c fr K N m (i + 1) z))) e8.symm
    | some p =>
      have hp8 := hp p rfl
      show AW X mX8_bought (d + 40) rc rs 34 [some (.ref 69), some (.int (nI K)), some (.int w), some (.int (nI p.1)), some (.int p.2), some (.int (nI i)), v6] [] n h Q
      refine aw_iload (npc := 36) rfl dX8_bought_34 rfl ?_
      refine aw_aload_n (npc := 37) rfl dX8_bought_36 rfl ?_
      refine aw_get (npc := 40) dX8_bought_37 rfl kf_X8_9 F.1 rfl ?_
      refine aw_iconst (npc := 41) (v := 1) (by decide) dX8_bought_40 rfl ?_
      refine aw_iald (npc := 42) (x := N 1) (j := 1) dX8_bought_41 rfl F.2.1 ⟨by decide, by decide⟩ (tl_at (by omega)) ?_
      refine aw_top (y := nI fr) (hK.1) ?_
      refine aw_icmp_ge (npc := 45) (tgt := 99) dX8_bought_42 rfl (by decide) (fun hc => absurd hc (nI_ge (a := i) (b := fr) (by omega) (by omega))) (fun _ => ?_)
      refine aw_aload_n (npc := 46) rfl dX8_bought_45 rfl ?_
      refine aw_iload (npc := 48) rfl dX8_bought_46 rfl ?_
      refine aw_iconst (npc := 49) (v := 0) (by decide) dX8_bought_48 rfl ?_
      refine aw_iconst (npc := 50) (v := 5) (by decide) dX8_bought_49 rfl ?_
      refine aw_callV (npc := 53) (N := mX8_put) (b := 69) (mc := 0) (ms := 0) (A := [.int (nI i), .int 0, .int 5]) (S := []) (L0 := [some (.ref 69), some (.int (nI i)), some (.int 0), some (.int 5)]) dX8_bought_50 rfl km_X8_put kk_X8_87 F.1 ⟨by decide, rfl⟩ rfl ⟨rfl, by decide⟩ rfl (Nat.le_of_ble_eq_true rfl) (Nat.zero_add _) (Nat.zero_add _) rfl ?_
      refine m_put0 (f := i) (v := 5) F (by omega) (fun hp4 F2 fb3 => ?_)
      refine aw_aload_n (npc := 54) rfl dX8_bought_53 rfl ?_
      refine aw_iload_n (npc := 55) rfl dX8_bought_54 rfl ?_
      refine aw_callV (npc := 58) (N := mX8_goesOn) (b := 69) (mc := 0) (ms := 0) (A := [.int (nI K)]) (S := []) (L0 := [some (.ref 69), some (.int (nI K)), none]) dX8_bought_55 rfl km_X8_goesOn kk_X8_163 F2.1 ⟨by decide, rfl⟩ rfl ⟨rfl, by decide⟩ rfl (Nat.le_of_ble_eq_true rfl) (Nat.zero_add _) (Nat.zero_add _) rfl ?_
      have hT5 : TC tb tx lk (upd N (22 + 5 * i) 5) c := (tc_u (by omega) (by omega) hC)
      have hK6 : RK (upd N (22 + 5 * i) 5) fr c := (rk_kind ⟨by decide, by decide⟩ (by omega) hK)
      have o4x := ho4
      refine m_go (p := K) (c := c) (fr := fr) (by omega) F2 (mi_rk hK6 (tc_txm hT5)) (fun o9x7 N9x8 a9x9 h9x10 hrx11 Fx12 olx13 alx14 fzx15 => ?_)
      have eNx16 : N9x8 = goF c fr (-1) K (upd N (22 + 5 * i) 5) := go_m _ _ _ hT5 hK6 (o4x ▸ hrx11)
      subst eNx16
      have o417 := ((olx13 4 (by decide)).trans o4x)
      have h7418 : ∀ j, j < 62 → a9x9 74 j = N j := (fun j hj => (congrFun (alx14 74 (by decide) (by decide) (by decide)) j).trans (h74 j hj))
      refine aw_aload_n (npc := 59) rfl dX8_bought_58 rfl ?_
      refine aw_aload_n (npc := 60) rfl dX8_bought_59 rfl ?_
      refine aw_iload (npc := 62) rfl dX8_bought_60 rfl ?_
      refine aw_iconst (npc := 63) (v := 1) (by decide) dX8_bought_62 rfl ?_
      refine aw_callV (npc := 66) (N := mX8_of) (b := 69) (mc := 0) (ms := 0) (A := [.int (nI i), .int 1]) (S := [.ref 69]) (L0 := [some (.ref 69), some (.int (nI i)), some (.int 1)]) dX8_bought_63 rfl km_X8_of kk_X8_101 Fx12.1 ⟨by decide, rfl⟩ rfl ⟨rfl, by decide⟩ rfl (Nat.le_of_ble_eq_true rfl) (Nat.zero_add _) (Nat.zero_add _) rfl ?_
      refine m_of1 (f := i) Fx12 (by omega) ?_
      refine aw_re (S' := [.int ((goF c fr (-1) K (upd N (22 + 5 * i) 5)) (23 + 5 * i)), .ref 69]) rfl ?_
      have esd : (goF c fr (-1) K (upd N (22 + 5 * i) 5)) (23 + 5 * i) = N (23 + 5 * i) := (goF_k h8r (by omega) (by omega) (by omega) (by omega) (by omega) (by omega) _ _).trans (pk_un (by omega))
      rcases wi_c0_1 (hK.2.2.2.2.1 i (by omega)).2.1 with eside | eside
      · refine aw_top (y := 0) (esd.trans eside) ?_
        refine aw_callV (npc := 69) (N := mX8_has) (b := 69) (mc := 0) (ms := 0) (A := [.int 0]) (S := []) (L0 := [some (.ref 69), some (.int 0), none, none, none]) dX8_bought_66 rfl km_X8_has kk_X8_143 Fx12.1 ⟨by decide, rfl⟩ rfl ⟨rfl, by decide⟩ rfl (Nat.le_of_ble_eq_true rfl) (Nat.zero_add _) (Nat.zero_add _) rfl ?_
        refine m_has0 Fx12 ?_
        refine aw_re (S' := [.int (hs0 (goF c fr (-1) K (upd N (22 + 5 * i) 5)))]) rfl ?_
        refine aw_istore (npc := 71) (L' := [some (.ref 69), some (.int (nI K)), some (.int w), some (.int (nI p.1)), some (.int p.2), some (.int (nI i)), some (.int (hs0 (goF c fr (-1) K (upd N (22 + 5 * i) 5))))]) dX8_bought_69 rfl (by decide) rfl rfl ?_
        refine aw_aload_n (npc := 72) rfl dX8_bought_71 rfl ?_
        refine aw_callV (npc := 75) (N := mX8_putsBack) (b := 69) (mc := 0) (ms := 0) (A := []) (S := []) (L0 := [some (.ref 69), none]) dX8_bought_72 rfl km_X8_putsBack kk_X8_175 Fx12.1 ⟨by decide, rfl⟩ rfl ⟨rfl, by decide⟩ rfl (Nat.le_of_ble_eq_true rfl) (Nat.zero_add _) (Nat.zero_add _) rfl ?_
        refine m_puts Fx12 (fun N819 hp20 F21 e822 c823 fz24 => ?_)
        have eN25 : N819 = N := funext (fun j => by
          by_cases hj : j < 62
          · exact (e822 j hj).trans (h7418 j hj)
          · have hj : 62 ≤ j := by omega
            exact (c823 j hj).trans ((goF_62 hK6.2.1 hj).trans ((pk_un (by omega)).trans rfl)))
        rw [eN25] at F21
        refine aw_iload_n (npc := 76) rfl dX8_bought_75 rfl ?_
        refine aw_if_lt (npc := 79) (tgt := 86) dX8_bought_76 rfl (by decide) (fun hc => absurd hc (nI_pos (by omega))) (fun _ => ?_)
        refine aw_iload (npc := 81) rfl dX8_bought_79 rfl ?_
        refine aw_iload (npc := 83) rfl dX8_bought_81 rfl ?_
        refine aw_icmp_ge (npc := 86) (tgt := 93) dX8_bought_83 rfl (by decide) (fun hc27 => ?_) (fun hc27 => ?_)
        · refine aw_iinc (npc := 96) (v := nI (i + 1)) (L' := [some (.ref 69), some (.int (nI K)), some (.int w), some (.int (nI p.1)), some (.int p.2), some (.int (nI (i + 1))), some (.int (hs0 (goF c fr (-1) K (upd N (22 + 5 * i) 5))))]) dX8_bought_93 rfl rfl (nI_1 _) (by decide) rfl rfl ?_
          refine aw_goto (npc := 34) dX8_bought_96 (by decide) ?_
          have el : btL c fr K N i = hs0 (goF c fr (-1) K (upd N (22 + 5 * i) 5)) := by unfold btL hsS; rw [eside]; rfl
          have e8 : btS c fr K N i (some p) = some p := by
            exact if_neg (by rw [el]; exact Int32.not_lt.mpr hc27)
          refine ih (i + 1) (by omega) (some p) (e8 ▸ btS_lt (by omega) hp) _ _ _ _ F21 h7418 pk_us (fun v9 o9 a9 h9 e9 F9 ol9 o49 al9 f9 => hq v9 o9 a9 h9 ?_ F9 (olT_t ol9 (olT_u (olT_t (olT_6 olx13) olT_0))) o49 (alT_t al9 (alT_t (alT_3 alx14) alT_0)) (am_fpT f9 (am_fpT (fun k (hk : k < 69 ∨ 92 ≤ k) => fz24 k (by omega)) (am_fpT (fun k (hk : k < 69 ∨ 92 ≤ k) => fzx15 k (by omega)) (am_fpT (fun k (hk : k < 69 ∨ 92 ≤ k) => fb3 k (by omega)) am_fp0)))))
          rw [e9]; exact congrArg (fun z => cI (w = 0) (bt1 (btM c fr K N m (i + 1) z)) (bt2 (btM c fr K N m (i + 1) z))) e8.symm
        · refine aw_iload (npc := 88) rfl dX8_bought_86 rfl ?_
          refine aw_istore_n (npc := 89) (L' := [some (.ref 69), some (.int (nI K)), some (.int w), some (.int (nI i)), some (.int p.2), some (.int (nI i)), some (.int (hs0 (goF c fr (-1) K (upd N (22 + 5 * i) 5))))]) dX8_bought_88 rfl (by decide) rfl rfl ?_
          refine aw_iload (npc := 91) rfl dX8_bought_89 rfl ?_
          refine aw_istore (npc := 93) (L' := [some (.ref 69), some (.int (nI K)), some (.int w), some (.int (nI i)), some (.int (hs0 (goF c fr (-1) K (upd N (22 + 5 * i) 5)))), some (.int (nI i)), some (.int (hs0 (goF c fr (-1) K (upd N (22 + 5 * i) 5))))]) dX8_bought_91 rfl (by decide) rfl rfl ?_
          refine aw_iinc (npc := 96) (v := nI (i + 1)) (L' := [some (.ref 69), some (.int (nI K)), some (.int w), some (.int (nI i)), some (.int (hs0 (goF c fr (-1) K (upd N (22 + 5 * i) 5)))), some (.int (nI (i + 1))), some (.int (hs0 (goF c fr (-1) K (upd N (22 + 5 * i) 5))))]) dX8_bought_93 rfl rfl (nI_1 _) (by decide) rfl rfl ?_
          refine aw_goto (npc := 34) dX8_bought_96 (by decide) ?_
          have el : btL c fr K N i = hs0 (goF c fr (-1) K (upd N (22 + 5 * i) 5)) := by unfold btL hsS; rw [eside]; rfl
          have e8 : btS c fr K N i (some p) = some (i, btL c fr K N i) := by
            exact if_pos (by rw [el]; exact Int32.not_le.mp hc27)
          refine aw_locs (L' := [some (.ref 69), some (.int (nI K)), some (.int w), some (.int (mb1 (some (i, btL c fr K N i)))), some (.int (mb2 (some (i, btL c fr K N i)))), some (.int (nI (i + 1))), some (.int (hs0 (goF c fr (-1) K (upd N (22 + 5 * i) 5))))]) (by rw [el]; rfl) ?_
          refine ih (i + 1) (by omega) (some (i, btL c fr K N i)) (e8 ▸ btS_lt (by omega) hp) _ _ _ _ F21 h7418 pk_us (fun v9 o9 a9 h9 e9 F9 ol9 o49 al9 f9 => hq v9 o9 a9 h9 ?_ F9 (olT_t ol9 (olT_u (olT_t (olT_6 olx13) olT_0))) o49 (alT_t al9 (alT_t (alT_3 alx14) alT_0)) (am_fpT f9 (am_fpT (fun k (hk : k < 69 ∨ 92 ≤ k) => fz24 k (by omega)) (am_fpT (fun k (hk : k < 69 ∨ 92 ≤ k) => fzx15 k (by omega)) (am_fpT (fun k (hk : k < 69 ∨ 92 ≤ k) => fb3 k (by omega)) am_fp0)))))
          rw [e9]; exact congrArg (fun z => cI (w = 0) (bt1 (btM c fr K N m (i + 1) z)) (bt2 (btM c fr K N m (i + 1) z))) e8.symm
      · refine aw_top (y := 1) (esd.trans eside) ?_
        refine aw_callV (npc := 69) (N := mX8_has) (b := 69) (mc := 0) (ms := 0) (A := [.int 1]) (S := []) (L0 := [some (.ref 69), some (.int 1), none, none, none]) dX8_bought_66 rfl km_X8_has kk_X8_143 Fx12.1 ⟨by decide, rfl⟩ rfl ⟨rfl, by decide⟩ rfl (Nat.le_of_ble_eq_true rfl) (Nat.zero_add _) (Nat.zero_add _) rfl ?_
        refine m_has1 Fx12 ?_
        refine aw_re (S' := [.int (hs1 (goF c fr (-1) K (upd N (22 + 5 * i) 5)))]) rfl ?_
        refine aw_istore (npc := 71) (L' := [some (.ref 69), some (.int (nI K)), some (.int w), some (.int (nI p.1)), some (.int p.2), some (.int (nI i)), some (.int (hs1 (goF c fr (-1) K (upd N (22 + 5 * i) 5))))]) dX8_bought_69 rfl (by decide) rfl rfl ?_
        refine aw_aload_n (npc := 72) rfl dX8_bought_71 rfl ?_
        refine aw_callV (npc := 75) (N := mX8_putsBack) (b := 69) (mc := 0) (ms := 0) (A := []) (S := []) (L0 := [some (.ref 69), none]) dX8_bought_72 rfl km_X8_putsBack kk_X8_175 Fx12.1 ⟨by decide, rfl⟩ rfl ⟨rfl, by decide⟩ rfl (Nat.le_of_ble_eq_true rfl) (Nat.zero_add _) (Nat.zero_add _) rfl ?_
        refine m_puts Fx12 (fun N828 hp29 F30 e831 c832 fz33 => ?_)
        have eN34 : N828 = N := funext (fun j => by
          by_cases hj : j < 62
          · exact (e831 j hj).trans (h7418 j hj)
          · have hj : 62 ≤ j := by omega
            exact (c832 j hj).trans ((goF_62 hK6.2.1 hj).trans ((pk_un (by omega)).trans rfl)))
        rw [eN34] at F30
        refine aw_iload_n (npc := 76) rfl dX8_bought_75 rfl ?_
        refine aw_if_lt (npc := 79) (tgt := 86) dX8_bought_76 rfl (by decide) (fun hc => absurd hc (nI_pos (by omega))) (fun _ => ?_)
        refine aw_iload (npc := 81) rfl dX8_bought_79 rfl ?_
        refine aw_iload (npc := 83) rfl dX8_bought_81 rfl ?_
        refine aw_icmp_ge (npc := 86) (tgt := 93) dX8_bought_83 rfl (by decide) (fun hc36 => ?_) (fun hc36 => ?_)
        · refine aw_iinc (npc := 96) (v := nI (i + 1)) (L' := [some (.ref 69), some (.int (nI K)), some (.int w), some (.int (nI p.1)), some (.int p.2), some (.int (nI (i + 1))), some (.int (hs1 (goF c fr (-1) K (upd N (22 + 5 * i) 5))))]) dX8_bought_93 rfl rfl (nI_1 _) (by decide) rfl rfl ?_
          refine aw_goto (npc := 34) dX8_bought_96 (by decide) ?_
          have el : btL c fr K N i = hs1 (goF c fr (-1) K (upd N (22 + 5 * i) 5)) := by unfold btL hsS; rw [eside]; rfl
          have e8 : btS c fr K N i (some p) = some p := by
            exact if_neg (by rw [el]; exact Int32.not_lt.mpr hc36)
          refine ih (i + 1) (by omega) (some p) (e8 ▸ btS_lt (by omega) hp) _ _ _ _ F30 h7418 pk_us (fun v9 o9 a9 h9 e9 F9 ol9 o49 al9 f9 => hq v9 o9 a9 h9 ?_ F9 (olT_t ol9 (olT_u (olT_t (olT_6 olx13) olT_0))) o49 (alT_t al9 (alT_t (alT_3 alx14) alT_0)) (am_fpT f9 (am_fpT (fun k (hk : k < 69 ∨ 92 ≤ k) => fz33 k (by omega)) (am_fpT (fun k (hk : k < 69 ∨ 92 ≤ k) => fzx15 k (by omega)) (am_fpT (fun k (hk : k < 69 ∨ 92 ≤ k) => fb3 k (by omega)) am_fp0)))))
          rw [e9]; exact congrArg (fun z => cI (w = 0) (bt1 (btM c fr K N m (i + 1) z)) (bt2 (btM c fr K N m (i + 1) z))) e8.symm
        · refine aw_iload (npc := 88) rfl dX8_bought_86 rfl ?_
          refine aw_istore_n (npc := 89) (L' := [some (.ref 69), some (.int (nI K)), some (.int w), some (.int (nI i)), some (.int p.2), some (.int (nI i)), some (.int (hs1 (goF c fr (-1) K (upd N (22 + 5 * i) 5))))]) dX8_bought_88 rfl (by decide) rfl rfl ?_
          refine aw_iload (npc := 91) rfl dX8_bought_89 rfl ?_
          refine aw_istore (npc := 93) (L' := [some (.ref 69), some (.int (nI K)), some (.int w), some (.int (nI i)), some (.int (hs1 (goF c fr (-1) K (upd N (22 + 5 * i) 5)))), some (.int (nI i)), some (.int (hs1 (goF c fr (-1) K (upd N (22 + 5 * i) 5))))]) dX8_bought_91 rfl (by decide) rfl rfl ?_
          refine aw_iinc (npc := 96) (v := nI (i + 1)) (L' := [some (.ref 69), some (.int (nI K)), some (.int w), some (.int (nI i)), some (.int (hs1 (goF c fr (-1) K (upd N (22 + 5 * i) 5)))), some (.int (nI (i + 1))), some (.int (hs1 (goF c fr (-1) K (upd N (22 + 5 * i) 5))))]) dX8_bought_93 rfl rfl (nI_1 _) (by decide) rfl rfl ?_
          refine aw_goto (npc := 34) dX8_bought_96 (by decide) ?_
          have el : btL c fr K N i = hs1 (goF c fr (-1) K (upd N (22 + 5 * i) 5)) := by unfold btL hsS; rw [eside]; rfl
          have e8 : btS c fr K N i (some p) = some (i, btL c fr K N i) := by
            exact if_pos (by rw [el]; exact Int32.not_le.mp hc36)
          refine aw_locs (L' := [some (.ref 69), some (.int (nI K)), some (.int w), some (.int (mb1 (some (i, btL c fr K N i)))), some (.int (mb2 (some (i, btL c fr K N i)))), some (.int (nI (i + 1))), some (.int (hs1 (goF c fr (-1) K (upd N (22 + 5 * i) 5))))]) (by rw [el]; rfl) ?_
          refine ih (i + 1) (by omega) (some (i, btL c fr K N i)) (e8 ▸ btS_lt (by omega) hp) _ _ _ _ F30 h7418 pk_us (fun v9 o9 a9 h9 e9 F9 ol9 o49 al9 f9 => hq v9 o9 a9 h9 ?_ F9 (olT_t ol9 (olT_u (olT_t (olT_6 olx13) olT_0))) o49 (alT_t al9 (alT_t (alT_3 alx14) alT_0)) (am_fpT f9 (am_fpT (fun k (hk : k < 69 ∨ 92 ≤ k) => fz33 k (by omega)) (am_fpT (fun k (hk : k < 69 ∨ 92 ≤ k) => fzx15 k (by omega)) (am_fpT (fun k (hk : k < 69 ∨ 92 ≤ k) => fb3 k (by omega)) am_fp0)))))
          rw [e9]; exact congrArg (fun z => cI (w = 0) (bt1 (btM c fr K N m (i + 1) z)) (bt2 (btM c fr K N m (i + 1) z))) e8.symm
set_option maxHeartbeats 4000000 in
set_option maxRecDepth 100000 in
theorem M_bought {X : List Int32} {d rc rs n : Nat} {Q : am_Q} {h : am_H} {o N : Nat → Int32} {a : Nat → Nat → Int32} {fr c : Nat} {v : Int32} {w : Int32} {tb : TB} {tx : List Value} {lk : Nat → Int32} (F : MR o N a h) (hR : RG N fr c) (hC : TC tb tx lk N c) (ho4 : o 4 = -1) (hq : ∀ v9 o9 a9 h9, v9 = buV c fr N v w → MR o9 N a9 h9 → ol6 o9 o → alT a9 a → am_fp (fun k => k < 69 ∨ 92 ≤ k) h9 h → Q (some (.int v9)) n h9) : AW X mX8_bought (d + 40) rc rs 0 [some (.ref 69), some (.int v), some (.int w), none, none, none, none] [] n h Q := by
  have h8r := hR.2.1
  have h14r := hR.2.2.2.1
  have hK := rg_rk hR
  refine aw_iload_n (npc := 1) rfl dX8_bought_0 rfl ?_
  refine aw_iconst (npc := 2) (v := 1) (by decide) dX8_bought_1 rfl ?_
  refine aw_bipush (npc := 4) (v := 60) (by decide) dX8_bought_2 rfl ?_
  refine aw_callS (npc := 7) (N := mX8_in) (mc := 0) (ms := 0) (A := [.int v, .int 1, .int 60]) (S := []) (L0 := [some (.int v), some (.int 1), some (.int 60)]) dX8_bought_4 rfl km_X8_in kk_X8_83 rfl ⟨rfl, by decide⟩ rfl (Nat.le_of_ble_eq_true rfl) (Nat.zero_add _) (Nat.zero_add _) rfl ?_
  refine c_X8_in (fun hw1 => ?_) (fun hw1 => ?_)
  · obtain ⟨vn, hvn, evn⟩ := wi_nI (H := 60) (by decide) (by decide) hw1
    subst evn
    have fvn : fN (nI vn) = vn := fN_nI (by omega)
    refine aw_re (S' := [.int 1]) rfl ?_
    refine aw_if_eq (npc := 10) (tgt := 19) dX8_bought_7 rfl (by decide) (fun hc => absurd hc (by decide)) (fun _ => ?_)
    refine aw_iload_n (npc := 11) rfl dX8_bought_10 rfl ?_
    refine aw_iconst (npc := 12) (v := 0) (by decide) dX8_bought_11 rfl ?_
    refine aw_iconst (npc := 13) (v := 1) (by decide) dX8_bought_12 rfl ?_
    refine aw_callS (npc := 16) (N := mX8_in) (mc := 0) (ms := 0) (A := [.int w, .int 0, .int 1]) (S := []) (L0 := [some (.int w), some (.int 0), some (.int 1)]) dX8_bought_13 rfl km_X8_in kk_X8_83 rfl ⟨rfl, by decide⟩ rfl (Nat.le_of_ble_eq_true rfl) (Nat.zero_add _) (Nat.zero_add _) rfl ?_
    refine c_X8_in (fun hw2 => ?_) (fun hw2 => ?_)
    · refine aw_re (S' := [.int 1]) rfl ?_
      refine aw_if_ne (npc := 19) (tgt := 22) dX8_bought_16 rfl (by decide) (fun _ => ?_) (fun hc => absurd hc (by decide))
      refine aw_aload_n (npc := 23) rfl dX8_bought_22 rfl ?_
      refine aw_callV (npc := 26) (N := mX8_thinks) (b := 69) (mc := 0) (ms := 0) (A := []) (S := []) (L0 := [some (.ref 69), none]) dX8_bought_23 rfl km_X8_thinks kk_X8_169 F.1 ⟨by decide, rfl⟩ rfl ⟨rfl, by decide⟩ rfl (Nat.le_of_ble_eq_true rfl) (Nat.zero_add _) (Nat.zero_add _) rfl ?_
      refine m_thinks F (fun aT3 hp4 F5 eT6 cT7 fz8 => ?_)
      refine aw_iconst (npc := 27) (v := -1) (by decide) dX8_bought_26 rfl ?_
      refine aw_istore_n (npc := 28) (L' := [some (.ref 69), some (.int (nI vn)), some (.int w), some (.int (-1)), none, none, none]) dX8_bought_27 rfl (by decide) rfl rfl ?_
      refine aw_iconst (npc := 29) (v := 0) (by decide) dX8_bought_28 rfl ?_
      refine aw_istore (npc := 31) (L' := [some (.ref 69), some (.int (nI vn)), some (.int w), some (.int (-1)), some (.int 0), none, none]) dX8_bought_29 rfl (by decide) rfl rfl ?_
      refine aw_iconst (npc := 32) (v := 0) (by decide) dX8_bought_31 rfl ?_
      refine aw_istore (npc := 34) (L' := [some (.ref 69), some (.int (nI vn)), some (.int w), some (.int (-1)), some (.int 0), some (.int 0), none]) dX8_bought_32 rfl (by decide) rfl rfl ?_
      refine aw_locs (L' := [some (.ref 69), some (.int (nI vn)), some (.int w), some (.int (mb1 none)), some (.int (mb2 none)), some (.int (nI 0)), none]) rfl ?_
      refine M_boughtL (K := vn) (by omega) hC hK fr 0 (by omega) none (fun q z => by cases z) none _ _ _ F5 eT6 ho4 (fun v9 o9 a9 h9 e9 F9 ol9 o49 al9 f9 => hq v9 o9 a9 h9 ?_ F9 (ol_end ol9 (o49.trans ho4.symm)) (alT_t al9 (alT_t (alT_4 cT7) alT_0)) (am_fpT f9 (am_fpT (fun k (hk : k < 69 ∨ 92 ≤ k) => fz8 k (by omega)) am_fp0)))
      rw [e9]; simp [buV, cI, hw1, hw2, fvn]
    · refine aw_re (S' := [.int 0]) rfl ?_
      refine aw_if_ne (npc := 19) (tgt := 22) dX8_bought_16 rfl (by decide) (fun hc => absurd (by decide) hc) (fun _ => ?_)
      refine aw_ldc (npc := 21) kc_X8_91 dX8_bought_19 rfl ?_
      refine aw_iret rfl dX8_bought_21 ?_
      exact hq _ _ _ _ (by simp [buV, cI, hw1, hw2, fvn]) F (ol_end olT_0 (Eq.trans ho4 ho4.symm)) alT_0 am_fp0
  · refine aw_re (S' := [.int 0]) rfl ?_
    refine aw_if_eq (npc := 10) (tgt := 19) dX8_bought_7 rfl (by decide) (fun _ => ?_) (fun hc => absurd (by decide) hc)
    refine aw_ldc (npc := 21) kc_X8_91 dX8_bought_19 rfl ?_
    refine aw_iret rfl dX8_bought_21 ?_
    exact hq _ _ _ _ (by simp [buV, cI, hw1]) F (ol_end olT_0 (Eq.trans ho4 ho4.symm)) alT_0 am_fp0
theorem alrd {a9 a : Nat → Nat → Int32} {s : Nat} (h : alT a9 a) : a9 84 s = a 84 s := congrFun (h 84 (by decide) (by decide) (by decide) (by decide)) s
set_option maxHeartbeats 4000000 in
set_option maxRecDepth 100000 in
theorem M_readsL {X : List Int32} {d rc rs n : Nat} {Q : am_Q} {fr c : Nat} {tb : TB} {tx : List Value} {lk : Nat → Int32} {N : Nat → Int32} {s z : Nat} (hs : s < 4) (hz : z ≤ 24) : ∀ (m k : Nat), k + m = z → ∀ (NA o : Nat → Int32) (a : Nat → Nat → Int32) (h : am_H), MR o NA a h → TC tb tx lk NA c → RK NA fr c → (∀ j, j < 62 → a 74 j = N j) → (∀ j, 62 ≤ j → NA j = N j) → o 4 = -1 → a 84 s = nI z → (∀ v9 o9 a9 h9, v9 = rsM c fr (a 85) s m k NA → MR o9 N a9 h9 → olT o9 o → o9 4 = -1 → alT a9 a → am_fp (fun k => k < 69 ∨ 92 ≤ k) h9 h → Q (some (.int v9)) n h9) → AW X mX8_reads (d + 40) rc rs 28 [some (.ref 69), some (.int (nI s)), some (.int (nI k))] [] n h Q := by
  intro m
  induction m with
  | zero =>
    intro k hk NA o a h F hCA hKA h74 h62 ho4 ez hq
    obtain rfl : k = z := by omega
    refine aw_iload_n (npc := 29) rfl dX8_reads_28 rfl ?_
    refine aw_aload_n (npc := 30) rfl dX8_reads_29 rfl ?_
    refine aw_get (npc := 33) dX8_reads_30 rfl kf_X8_58 F.1 rfl ?_
    refine aw_iload_n (npc := 34) rfl dX8_reads_33 rfl ?_
    refine aw_iald (npc := 35) (x := (a 84) s) (j := s) dX8_reads_34 rfl F.2.2.2.2.2.2.2.2.2.2.2.2.2.2.2.1 (am_ix_nI (by omega)) (tl_at (by omega)) ?_
    refine aw_top (y := nI k) (ez) ?_
    refine aw_icmp_ge (npc := 38) (tgt := 82) dX8_reads_35 rfl (by decide) (fun _ => ?_) (fun hc => absurd (nI_le (a := k) (b := k) (by omega) (by omega)) hc)
    refine aw_aload_n (npc := 83) rfl dX8_reads_82 rfl ?_
    refine aw_callV (npc := 86) (N := mX8_putsBack) (b := 69) (mc := 0) (ms := 0) (A := []) (S := []) (L0 := [some (.ref 69), none]) dX8_reads_83 rfl km_X8_putsBack kk_X8_175 F.1 ⟨by decide, rfl⟩ rfl ⟨rfl, by decide⟩ rfl (Nat.le_of_ble_eq_true rfl) (Nat.zero_add _) (Nat.zero_add _) rfl ?_
    refine m_puts F (fun N82 hp3 F4 e85 c86 fz7 => ?_)
    have eN8 : N82 = N := funext (fun j => by
      by_cases hj : j < 62
      · exact (e85 j hj).trans (h74 j hj)
      · have hj : 62 ≤ j := by omega
        exact (c86 j hj).trans (h62 j hj))
    rw [eN8] at F4
    refine aw_iload_n (npc := 87) rfl dX8_reads_86 rfl ?_
    refine aw_aload_n (npc := 88) rfl dX8_reads_87 rfl ?_
    refine aw_get (npc := 91) dX8_reads_88 rfl kf_X8_58 F4.1 rfl ?_
    refine aw_iload_n (npc := 92) rfl dX8_reads_91 rfl ?_
    refine aw_iald (npc := 93) (x := (a 84) s) (j := s) dX8_reads_92 rfl F4.2.2.2.2.2.2.2.2.2.2.2.2.2.2.2.1 (am_ix_nI (by omega)) (tl_at (by omega)) ?_
    refine aw_top (y := nI k) (ez) ?_
    refine aw_icmp_ge (npc := 96) (tgt := 100) dX8_reads_93 rfl (by decide) (fun _ => ?_) (fun hc => absurd (nI_le (a := k) (b := k) (by omega) (by omega)) hc)
    refine aw_ldc (npc := 102) kc_X8_82 dX8_reads_100 rfl ?_
    refine aw_iret rfl dX8_reads_102 ?_
    exact hq _ _ _ _ (by simp [rsM, cI]) F4 (olT_u olT_0) pk_us alT_0 (am_fpT (fun k (hk : k < 69 ∨ 92 ≤ k) => fz7 k (by omega)) am_fp0)
  | succ m ih =>
    intro k hk NA o a h F hCA hKA h74 h62 ho4 ez hq
    refine aw_iload_n (npc := 29) rfl dX8_reads_28 rfl ?_
    refine aw_aload_n (npc := 30) rfl dX8_reads_29 rfl ?_
    refine aw_get (npc := 33) dX8_reads_30 rfl kf_X8_58 F.1 rfl ?_
    refine aw_iload_n (npc := 34) rfl dX8_reads_33 rfl ?_
    refine aw_iald (npc := 35) (x := (a 84) s) (j := s) dX8_reads_34 rfl F.2.2.2.2.2.2.2.2.2.2.2.2.2.2.2.1 (am_ix_nI (by omega)) (tl_at (by omega)) ?_
    refine aw_top (y := nI z) (ez) ?_
    refine aw_icmp_ge (npc := 38) (tgt := 82) dX8_reads_35 rfl (by decide) (fun hc => absurd hc (nI_ge (a := k) (b := z) (by omega) (by omega))) (fun _ => ?_)
    refine aw_aload_n (npc := 39) rfl dX8_reads_38 rfl ?_
    refine aw_get (npc := 42) dX8_reads_39 rfl kf_X8_61 F.1 rfl ?_
    refine aw_bipush (npc := 44) (v := 24) (by decide) dX8_reads_42 rfl ?_
    refine aw_iload_n (npc := 45) rfl dX8_reads_44 rfl ?_
    refine aw_imulV (npc := 46) (v := nI (24 * s)) dX8_reads_45 rfl (pk_mul 24 _) ?_
    refine aw_iload_n (npc := 47) rfl dX8_reads_46 rfl ?_
    refine aw_iaddV (npc := 48) (v := nI ((24 * s) + k)) dX8_reads_47 rfl (nI_add _ _) ?_
    refine aw_iald (npc := 49) (x := (a 85) ((24 * s) + k)) (j := ((24 * s) + k)) dX8_reads_48 rfl F.2.2.2.2.2.2.2.2.2.2.2.2.2.2.2.2.1 (am_ix_nI (by omega)) (tl_at (by omega)) ?_
    refine aw_ldc (npc := 51) kc_X8_82 dX8_reads_49 rfl ?_
    refine aw_icmp_eq (npc := 54) (tgt := 72) dX8_reads_51 rfl (by decide) (fun hc2 => ?_) (fun hc2 => ?_)
    · refine aw_aload_n (npc := 73) rfl dX8_reads_72 rfl ?_
      refine aw_callV (npc := 76) (N := mX8_post) (b := 69) (mc := 0) (ms := 0) (A := []) (S := []) (L0 := [some (.ref 69), none]) dX8_reads_73 rfl km_X8_post kk_X8_157 F.1 ⟨by decide, rfl⟩ rfl ⟨rfl, by decide⟩ rfl (Nat.le_of_ble_eq_true rfl) (Nat.zero_add _) (Nat.zero_add _) rfl ?_
      have o4x := ho4
      refine m_post (c := c) (fr := fr) F (mi_rk hKA (tc_txm hCA)) (fun o9x3 N9x4 a9x5 h9x6 hrx7 Fx8 olx9 alx10 fzx11 => ?_)
      have eNx12 : N9x4 = goF c fr (-1) 1 NA := post_m hCA hKA (o4x ▸ hrx7)
      subst eNx12
      have o413 := ((olx9 4 (by decide)).trans o4x)
      have h7414 : ∀ j, j < 62 → a9x5 74 j = N j := (fun j hj => (congrFun (alx10 74 (by decide) (by decide) (by decide)) j).trans (h74 j hj))
      refine aw_iinc (npc := 79) (v := nI (k + 1)) (L' := [some (.ref 69), some (.int (nI s)), some (.int (nI (k + 1)))]) dX8_reads_76 rfl rfl (nI_1 _) (by decide) rfl rfl ?_
      refine aw_goto (npc := 28) dX8_reads_79 (by decide) ?_
      refine ih (k + 1) (by omega) _ _ _ _ Fx8 (tc_go hKA.2.1 hCA) (rk_go _ _ hKA) h7414 (fun j hj => ((goF_62 hKA.2.1 hj).trans (h62 j hj))) o413 ((alrd (alT_t (alT_3 alx10) alT_0)).trans ez) (fun v9 o9 a9 h9 e9 F9 ol9 o49 al9 f9 => hq v9 o9 a9 h9 ?_ F9 (olT_t ol9 (olT_t (olT_6 olx9) olT_0)) o49 (alT_t al9 (alT_t (alT_3 alx10) alT_0)) (am_fpT f9 (am_fpT (fun k (hk : k < 69 ∨ 92 ≤ k) => fzx11 k (by omega)) am_fp0)))
      rw [e9, (alT_t (alT_3 alx10) alT_0) 85 (by decide) (by decide) (by decide) (by decide)]; simp [rsM, cI, hc2]
    · refine aw_aload_n (npc := 55) rfl dX8_reads_54 rfl ?_
      refine aw_get (npc := 58) dX8_reads_55 rfl kf_X8_61 F.1 rfl ?_
      refine aw_bipush (npc := 60) (v := 24) (by decide) dX8_reads_58 rfl ?_
      refine aw_iload_n (npc := 61) rfl dX8_reads_60 rfl ?_
      refine aw_imulV (npc := 62) (v := nI (24 * s)) dX8_reads_61 rfl (pk_mul 24 _) ?_
      refine aw_iload_n (npc := 63) rfl dX8_reads_62 rfl ?_
      refine aw_iaddV (npc := 64) (v := nI ((24 * s) + k)) dX8_reads_63 rfl (nI_add _ _) ?_
      refine aw_iald (npc := 65) (x := (a 85) ((24 * s) + k)) (j := ((24 * s) + k)) dX8_reads_64 rfl F.2.2.2.2.2.2.2.2.2.2.2.2.2.2.2.2.1 (am_ix_nI (by omega)) (tl_at (by omega)) ?_
      refine aw_aload_n (npc := 66) rfl dX8_reads_65 rfl ?_
      refine aw_callV (npc := 69) (N := mX8_stands) (b := 69) (mc := 0) (ms := 0) (A := []) (S := [.int ((a 85) ((24 * s) + k))]) (L0 := [some (.ref 69), none, none]) dX8_reads_66 rfl km_X8_stands kk_X8_166 F.1 ⟨by decide, rfl⟩ rfl ⟨rfl, by decide⟩ rfl (Nat.le_of_ble_eq_true rfl) (Nat.zero_add _) (Nat.zero_add _) rfl ?_
      refine m_stands F ?_
      refine aw_re (S' := [.int (snum NA), .int ((a 85) ((24 * s) + k))]) rfl ?_
      refine aw_icmp_ne (npc := 72) (tgt := 82) dX8_reads_69 rfl (by decide) (fun hc15 => ?_) (fun hc15 => ?_)
      · refine aw_aload_n (npc := 83) rfl dX8_reads_82 rfl ?_
        refine aw_callV (npc := 86) (N := mX8_putsBack) (b := 69) (mc := 0) (ms := 0) (A := []) (S := []) (L0 := [some (.ref 69), none]) dX8_reads_83 rfl km_X8_putsBack kk_X8_175 F.1 ⟨by decide, rfl⟩ rfl ⟨rfl, by decide⟩ rfl (Nat.le_of_ble_eq_true rfl) (Nat.zero_add _) (Nat.zero_add _) rfl ?_
        refine m_puts F (fun N816 hp17 F18 e819 c820 fz21 => ?_)
        have eN22 : N816 = N := funext (fun j => by
          by_cases hj : j < 62
          · exact (e819 j hj).trans (h74 j hj)
          · have hj : 62 ≤ j := by omega
            exact (c820 j hj).trans (h62 j hj))
        rw [eN22] at F18
        refine aw_iload_n (npc := 87) rfl dX8_reads_86 rfl ?_
        refine aw_aload_n (npc := 88) rfl dX8_reads_87 rfl ?_
        refine aw_get (npc := 91) dX8_reads_88 rfl kf_X8_58 F18.1 rfl ?_
        refine aw_iload_n (npc := 92) rfl dX8_reads_91 rfl ?_
        refine aw_iald (npc := 93) (x := (a 84) s) (j := s) dX8_reads_92 rfl F18.2.2.2.2.2.2.2.2.2.2.2.2.2.2.2.1 (am_ix_nI (by omega)) (tl_at (by omega)) ?_
        refine aw_top (y := nI z) (ez) ?_
        refine aw_icmp_ge (npc := 96) (tgt := 100) dX8_reads_93 rfl (by decide) (fun hc => absurd hc (nI_ge (a := k) (b := z) (by omega) (by omega))) (fun _ => ?_)
        refine aw_iload_n (npc := 97) rfl dX8_reads_96 rfl ?_
        refine aw_goto (npc := 102) dX8_reads_97 (by decide) ?_
        refine aw_iret rfl dX8_reads_102 ?_
        exact hq _ _ _ _ (by simp [rsM, cI, hc2, hc15]) F18 (olT_u olT_0) pk_us alT_0 (am_fpT (fun k (hk : k < 69 ∨ 92 ≤ k) => fz21 k (by omega)) am_fp0)
      · refine aw_aload_n (npc := 73) rfl dX8_reads_72 rfl ?_
        refine aw_callV (npc := 76) (N := mX8_post) (b := 69) (mc := 0) (ms := 0) (A := []) (S := []) (L0 := [some (.ref 69), none]) dX8_reads_73 rfl km_X8_post kk_X8_157 F.1 ⟨by decide, rfl⟩ rfl ⟨rfl, by decide⟩ rfl (Nat.le_of_ble_eq_true rfl) (Nat.zero_add _) (Nat.zero_add _) rfl ?_
        have o4x := ho4
        refine m_post (c := c) (fr := fr) F (mi_rk hKA (tc_txm hCA)) (fun o9x24 N9x25 a9x26 h9x27 hrx28 Fx29 olx30 alx31 fzx32 => ?_)
        have eNx33 : N9x25 = goF c fr (-1) 1 NA := post_m hCA hKA (o4x ▸ hrx28)
        subst eNx33
        have o434 := ((olx30 4 (by decide)).trans o4x)
        have h7435 : ∀ j, j < 62 → a9x26 74 j = N j := (fun j hj => (congrFun (alx31 74 (by decide) (by decide) (by decide)) j).trans (h74 j hj))
        refine aw_iinc (npc := 79) (v := nI (k + 1)) (L' := [some (.ref 69), some (.int (nI s)), some (.int (nI (k + 1)))]) dX8_reads_76 rfl rfl (nI_1 _) (by decide) rfl rfl ?_
        refine aw_goto (npc := 28) dX8_reads_79 (by decide) ?_
        refine ih (k + 1) (by omega) _ _ _ _ Fx29 (tc_go hKA.2.1 hCA) (rk_go _ _ hKA) h7435 (fun j hj => ((goF_62 hKA.2.1 hj).trans (h62 j hj))) o434 ((alrd (alT_t (alT_3 alx31) alT_0)).trans ez) (fun v9 o9 a9 h9 e9 F9 ol9 o49 al9 f9 => hq v9 o9 a9 h9 ?_ F9 (olT_t ol9 (olT_t (olT_6 olx30) olT_0)) o49 (alT_t al9 (alT_t (alT_3 alx31) alT_0)) (am_fpT f9 (am_fpT (fun k (hk : k < 69 ∨ 92 ≤ k) => fzx32 k (by omega)) am_fp0)))
        rw [e9, (alT_t (alT_3 alx31) alT_0) 85 (by decide) (by decide) (by decide) (by decide)]; simp [rsM, cI, hc2, hc15]
set_option maxHeartbeats 4000000 in
set_option maxRecDepth 100000 in
theorem M_reads {X : List Int32} {d rc rs n : Nat} {Q : am_Q} {h : am_H} {o N : Nat → Int32} {a : Nat → Nat → Int32} {fr c : Nat} {s : Int32} {tb : TB} {tx : List Value} {lk : Nat → Int32} (F : MR o N a h) (hR : RG N fr c) (hC : TC tb tx lk N c) (ho4 : o 4 = -1) (hI : RI (a 83) (a 84)) (hq : ∀ v9 o9 a9 h9, v9 = rsV c fr (a 83) (a 84) (a 85) N s → MR o9 N a9 h9 → ol6 o9 o → alT a9 a → am_fp (fun k => k < 69 ∨ 92 ≤ k) h9 h → Q (some (.int v9)) n h9) : AW X mX8_reads (d + 40) rc rs 0 [some (.ref 69), some (.int s), none] [] n h Q := by
  have h8r := hR.2.1
  have h14r := hR.2.2.2.1
  have hK := rg_rk hR
  refine aw_iload_n (npc := 1) rfl dX8_reads_0 rfl ?_
  refine aw_callS (npc := 4) (N := mX8_isSheet) (mc := 0) (ms := 0) (A := [.int s]) (S := []) (L0 := [some (.int s)]) dX8_reads_1 rfl km_X8_isSheet kk_X8_184 rfl ⟨rfl, by decide⟩ rfl (Nat.le_of_ble_eq_true rfl) (Nat.zero_add _) (Nat.zero_add _) rfl ?_
  refine c_X8_isSheet (fun hw1 => ?_) (fun hw1 => ?_)
  · obtain ⟨sn, hsn, esn⟩ := wi_nI (H := 3) (by decide) (by decide) hw1
    subst esn
    have fsn : fN (nI sn) = sn := fN_nI (by omega)
    obtain ⟨hsr, z9, hz24, ez9⟩ := hI sn (by omega)
    have fz9 : fN (nI z9) = z9 := fN_nI (by omega)
    refine aw_re (S' := [.int 1]) rfl ?_
    refine aw_if_ne (npc := 7) (tgt := 10) dX8_reads_4 rfl (by decide) (fun _ => ?_) (fun hc => absurd hc (by decide))
    refine aw_aload_n (npc := 11) rfl dX8_reads_10 rfl ?_
    refine aw_get (npc := 14) dX8_reads_11 rfl kf_X8_55 F.1 rfl ?_
    refine aw_iload_n (npc := 15) rfl dX8_reads_14 rfl ?_
    refine aw_iald (npc := 16) (x := (a 83) sn) (j := sn) dX8_reads_15 rfl F.2.2.2.2.2.2.2.2.2.2.2.2.2.2.1 (am_ix_nI (by omega)) (tl_at (by omega)) ?_
    rcases wi_cm1_1 hsr with esr | esr | esr
    · refine aw_top (y := -1) esr ?_
      refine aw_if_ge (npc := 19) (tgt := 22) dX8_reads_16 rfl (by decide) (fun hc => absurd hc (by decide)) (fun _ => ?_)
      refine aw_ldc (npc := 21) kc_X8_187 dX8_reads_19 rfl ?_
      refine aw_iret rfl dX8_reads_21 ?_
      exact hq _ _ _ _ (by simp [rsV, cI, hw1, fsn, esr]) F (ol_end olT_0 (Eq.trans ho4 ho4.symm)) alT_0 am_fp0
    · refine aw_top (y := 0) esr ?_
      refine aw_if_ge (npc := 19) (tgt := 22) dX8_reads_16 rfl (by decide) (fun _ => ?_) (fun hc => absurd (by decide) hc)
      refine aw_aload_n (npc := 23) rfl dX8_reads_22 rfl ?_
      refine aw_callV (npc := 26) (N := mX8_thinks) (b := 69) (mc := 0) (ms := 0) (A := []) (S := []) (L0 := [some (.ref 69), none]) dX8_reads_23 rfl km_X8_thinks kk_X8_169 F.1 ⟨by decide, rfl⟩ rfl ⟨rfl, by decide⟩ rfl (Nat.le_of_ble_eq_true rfl) (Nat.zero_add _) (Nat.zero_add _) rfl ?_
      refine m_thinks F (fun aT2 hp3 F4 eT5 cT6 fz7 => ?_)
      refine aw_iconst (npc := 27) (v := 0) (by decide) dX8_reads_26 rfl ?_
      refine aw_istore_n (npc := 28) (L' := [some (.ref 69), some (.int (nI sn)), some (.int 0)]) dX8_reads_27 rfl (by decide) rfl rfl ?_
      refine aw_locs (L' := [some (.ref 69), some (.int (nI sn)), some (.int (nI 0))]) rfl ?_
      refine M_readsL (N := N) (s := sn) (by omega) hz24 z9 0 (by omega) _ _ _ _ F4 hC hK eT5 (fun _ _ => rfl) ho4 ((alrd (alT_t (alT_4 cT6) alT_0)).trans ez9) (fun v9 o9 a9 h9 e9 F9 ol9 o49 al9 f9 => hq v9 o9 a9 h9 ?_ F9 (ol_end ol9 (o49.trans ho4.symm)) (alT_t al9 (alT_t (alT_4 cT6) alT_0)) (am_fpT f9 (am_fpT (fun k (hk : k < 69 ∨ 92 ≤ k) => fz7 k (by omega)) am_fp0)))
      rw [e9, (alT_t (alT_4 cT6) alT_0) 85 (by decide) (by decide) (by decide) (by decide)]; simp [rsV, cI, hw1, fsn, esr, ez9, fz9]
    · refine aw_top (y := 1) esr ?_
      refine aw_if_ge (npc := 19) (tgt := 22) dX8_reads_16 rfl (by decide) (fun _ => ?_) (fun hc => absurd (by decide) hc)
      refine aw_aload_n (npc := 23) rfl dX8_reads_22 rfl ?_
      refine aw_callV (npc := 26) (N := mX8_thinks) (b := 69) (mc := 0) (ms := 0) (A := []) (S := []) (L0 := [some (.ref 69), none]) dX8_reads_23 rfl km_X8_thinks kk_X8_169 F.1 ⟨by decide, rfl⟩ rfl ⟨rfl, by decide⟩ rfl (Nat.le_of_ble_eq_true rfl) (Nat.zero_add _) (Nat.zero_add _) rfl ?_
      refine m_thinks F (fun aT8 hp9 F10 eT11 cT12 fz13 => ?_)
      refine aw_iconst (npc := 27) (v := 0) (by decide) dX8_reads_26 rfl ?_
      refine aw_istore_n (npc := 28) (L' := [some (.ref 69), some (.int (nI sn)), some (.int 0)]) dX8_reads_27 rfl (by decide) rfl rfl ?_
      refine aw_locs (L' := [some (.ref 69), some (.int (nI sn)), some (.int (nI 0))]) rfl ?_
      refine M_readsL (N := N) (s := sn) (by omega) hz24 z9 0 (by omega) _ _ _ _ F10 hC hK eT11 (fun _ _ => rfl) ho4 ((alrd (alT_t (alT_4 cT12) alT_0)).trans ez9) (fun v9 o9 a9 h9 e9 F9 ol9 o49 al9 f9 => hq v9 o9 a9 h9 ?_ F9 (ol_end ol9 (o49.trans ho4.symm)) (alT_t al9 (alT_t (alT_4 cT12) alT_0)) (am_fpT f9 (am_fpT (fun k (hk : k < 69 ∨ 92 ≤ k) => fz13 k (by omega)) am_fp0)))
      rw [e9, (alT_t (alT_4 cT12) alT_0) 85 (by decide) (by decide) (by decide) (by decide)]; simp [rsV, cI, hw1, fsn, esr, ez9, fz9]
  · refine aw_re (S' := [.int 0]) rfl ?_
    refine aw_if_ne (npc := 7) (tgt := 10) dX8_reads_4 rfl (by decide) (fun hc => absurd (by decide) hc) (fun _ => ?_)
    refine aw_ldc (npc := 9) kc_X8_91 dX8_reads_7 rfl ?_
    refine aw_iret rfl dX8_reads_9 ?_
    exact hq _ _ _ _ (by simp [rsV, cI, hw1]) F (ol_end olT_0 (Eq.trans ho4 ho4.symm)) alT_0 am_fp0
