theorem dD_62 {N : Nat → Int32} {V j : Nat} (h : 62 ≤ j) : dD N V j = N j := by
  unfold dD dN
  rw [pk_un (by omega), pk_un (by omega), pk_un (by omega), pk_un (by omega)]
set_option maxHeartbeats 4000000 in
set_option maxRecDepth 100000 in
theorem M_takenL {X : List Int32} {d rc rs n : Nat} {Q : am_Q} {fr c : Nat} {N : Nat → Int32} {a : Nat → Nat → Int32} (h74 : ∀ j, j < 62 → a 74 j = N j) : ∀ (m V : Nat), V + m = 10000 → ∀ (s : Int32) (NA o : Nat → Int32) (h : am_H), MR o NA a h → (∀ V, saN NA V = dD N V) → (∀ j, 62 ≤ j → NA j = N j) → o 4 = -1 → (∀ v9 o9 h9, v9 = tkM N m V s → MR o9 N a h9 → olT o9 o → o9 4 = -1 → am_fp (fun k => k < 69 ∨ 92 ≤ k) h9 h → Q (some (.int v9)) n h9) → AW X mX8_taken (d + 12) rc rs 8 [some (.ref 69), some (.int s), some (.int (nI V))] [] n h Q := by
  intro m
  induction m with
  | zero =>
    intro V hV s NA o h F hsa h62 ho4 hq
    obtain rfl : V = 10000 := by omega
    refine aw_iload_n (npc := 9) rfl dX8_taken_8 rfl ?_
    refine aw_sipush (npc := 12) (v := 10000) (by decide) dX8_taken_9 rfl ?_
    refine aw_icmp_ge (npc := 15) (tgt := 41) dX8_taken_12 rfl (by decide) (fun _ => ?_) (fun hc => absurd (nI_le (a := 10000) (b := 10000) (by omega) (by omega)) hc)
    refine aw_aload_n (npc := 42) rfl dX8_taken_41 rfl ?_
    refine aw_callV (npc := 45) (N := mX8_putsBack) (b := 69) (mc := 0) (ms := 0) (A := []) (S := []) (L0 := [some (.ref 69), none]) dX8_taken_42 rfl km_X8_putsBack kk_X8_175 F.1 ⟨by decide, rfl⟩ rfl ⟨rfl, by decide⟩ rfl (Nat.le_of_ble_eq_true rfl) (Nat.zero_add _) (Nat.zero_add _) rfl ?_
    refine m_puts F (fun N82 hp3 F4 e85 c86 fz7 => ?_)
    have eN8 : N82 = N := funext (fun j => by
      by_cases hj : j < 62
      · exact (e85 j hj).trans (h74 j hj)
      · have hj : 62 ≤ j := by omega
        exact (c86 j hj).trans (h62 j hj))
    rw [eN8] at F4
    refine aw_iload_n (npc := 46) rfl dX8_taken_45 rfl ?_
    refine aw_iret rfl dX8_taken_46 ?_
    exact hq _ _ _ rfl F4 (olT_u olT_0) pk_us (am_fpT (fun k (hk : k < 69 ∨ 92 ≤ k) => fz7 k (by omega)) am_fp0)
  | succ m ih =>
    intro V hV s NA o h F hsa h62 ho4 hq
    refine aw_iload_n (npc := 9) rfl dX8_taken_8 rfl ?_
    refine aw_sipush (npc := 12) (v := 10000) (by decide) dX8_taken_9 rfl ?_
    refine aw_icmp_ge (npc := 15) (tgt := 41) dX8_taken_12 rfl (by decide) (fun hc => absurd hc (nI_ge (a := V) (b := 10000) (by omega) (by omega))) (fun _ => ?_)
    refine aw_aload_n (npc := 16) rfl dX8_taken_15 rfl ?_
    refine aw_iload_n (npc := 17) rfl dX8_taken_16 rfl ?_
    refine aw_callV (npc := 20) (N := mX8_standAs) (b := 69) (mc := 0) (ms := 0) (A := [.int (nI V)]) (S := []) (L0 := [some (.ref 69), some (.int (nI V)), none, none]) dX8_taken_17 rfl km_X8_standAs kk_X8_172 F.1 ⟨by decide, rfl⟩ rfl ⟨rfl, by decide⟩ rfl (Nat.le_of_ble_eq_true rfl) (Nat.zero_add _) (Nat.zero_add _) rfl ?_
    refine m_standAs (V := V) (by omega) F (fun hp2 Fs3 fz4 => ?_)
    rw [hsa] at Fs3
    refine aw_iload_n (npc := 21) rfl dX8_taken_20 rfl ?_
    refine aw_aload_n (npc := 22) rfl dX8_taken_21 rfl ?_
    refine aw_callV (npc := 25) (N := mX8_isPeace) (b := 69) (mc := 0) (ms := 0) (A := []) (S := [.int s]) (L0 := [some (.ref 69)]) dX8_taken_22 rfl km_X8_isPeace kk_X8_149 Fs3.1 ⟨by decide, rfl⟩ rfl ⟨rfl, by decide⟩ rfl (Nat.le_of_ble_eq_true rfl) (Nat.zero_add _) (Nat.zero_add _) rfl ?_
    refine m_peace Fs3 (fun hp5 => ?_) (fun hp5 => ?_)
    · refine aw_re (S' := [.int 1, .int s]) rfl ?_
      refine aw_if_eq (npc := 28) (tgt := 32) dX8_taken_25 rfl (by decide) (fun hc => absurd hc (by decide)) (fun _ => ?_)
      refine aw_iconst (npc := 29) (v := 1) (by decide) dX8_taken_28 rfl ?_
      refine aw_goto (npc := 33) dX8_taken_29 (by decide) ?_
      refine aw_iadd (npc := 34) dX8_taken_33 rfl ?_
      refine aw_istore_n (npc := 35) (L' := [some (.ref 69), some (.int (s + 1)), some (.int (nI V))]) dX8_taken_34 rfl (by decide) rfl rfl ?_
      refine aw_iinc (npc := 38) (v := nI (V + 1)) (L' := [some (.ref 69), some (.int (s + 1)), some (.int (nI (V + 1)))]) dX8_taken_35 rfl rfl (nI_1 _) (by decide) rfl rfl ?_
      refine aw_goto (npc := 8) dX8_taken_38 (by decide) ?_
      refine ih (V + 1) (by omega) (s + 1) _ _ _ Fs3 (fun U => sa_sa) (fun j hj => dD_62 hj) ho4 (fun v9 o9 h9 e9 F9 ol9 o49 f9 => hq v9 o9 h9 ?_ F9 ol9 o49 (am_fpT f9 (am_fpT (fun k (hk : k < 69 ∨ 92 ≤ k) => fz4 k (by omega)) am_fp0)))
      rw [e9]; simp [tkM, cI, hp5]
    · refine aw_re (S' := [.int 0, .int s]) rfl ?_
      refine aw_if_eq (npc := 28) (tgt := 32) dX8_taken_25 rfl (by decide) (fun _ => ?_) (fun hc => absurd (by decide) hc)
      refine aw_iconst (npc := 33) (v := 0) (by decide) dX8_taken_32 rfl ?_
      refine aw_iaddV (npc := 34) (v := s) dX8_taken_33 rfl (Int32.add_zero _) ?_
      refine aw_istore_n (npc := 35) (L' := [some (.ref 69), some (.int s), some (.int (nI V))]) dX8_taken_34 rfl (by decide) rfl rfl ?_
      refine aw_iinc (npc := 38) (v := nI (V + 1)) (L' := [some (.ref 69), some (.int s), some (.int (nI (V + 1)))]) dX8_taken_35 rfl rfl (nI_1 _) (by decide) rfl rfl ?_
      refine aw_goto (npc := 8) dX8_taken_38 (by decide) ?_
      refine ih (V + 1) (by omega) s _ _ _ Fs3 (fun U => sa_sa) (fun j hj => dD_62 hj) ho4 (fun v9 o9 h9 e9 F9 ol9 o49 f9 => hq v9 o9 h9 ?_ F9 ol9 o49 (am_fpT f9 (am_fpT (fun k (hk : k < 69 ∨ 92 ≤ k) => fz4 k (by omega)) am_fp0)))
      rw [e9]; simp [tkM, cI, hp5]
set_option maxHeartbeats 4000000 in
set_option maxRecDepth 100000 in
theorem M_taken {X : List Int32} {d rc rs n : Nat} {Q : am_Q} {h : am_H} {o N : Nat → Int32} {a : Nat → Nat → Int32} {fr c : Nat} (F : MR o N a h) (hR : RG N fr c) (ho4 : o 4 = -1) (hq : ∀ v9 o9 a9 h9, v9 = tkM N 10000 0 0 → MR o9 N a9 h9 → ol6 o9 o → alT a9 a → am_fp (fun k => k < 69 ∨ 92 ≤ k) h9 h → Q (some (.int v9)) n h9) : AW X mX8_taken (d + 13) rc rs 0 [some (.ref 69), none, none] [] n h Q := by
  have h8r := hR.2.1
  have h14r := hR.2.2.2.1
  refine aw_aload_n (npc := 1) rfl dX8_taken_0 rfl ?_
  refine aw_callV (npc := 4) (N := mX8_thinks) (b := 69) (mc := 0) (ms := 0) (A := []) (S := []) (L0 := [some (.ref 69), none]) dX8_taken_1 rfl km_X8_thinks kk_X8_169 F.1 ⟨by decide, rfl⟩ rfl ⟨rfl, by decide⟩ rfl (Nat.le_of_ble_eq_true rfl) (Nat.zero_add _) (Nat.zero_add _) rfl ?_
  refine m_thinks F (fun aT1 hp2 F3 eT4 cT5 fz6 => ?_)
  refine aw_iconst (npc := 5) (v := 0) (by decide) dX8_taken_4 rfl ?_
  refine aw_istore_n (npc := 6) (L' := [some (.ref 69), some (.int 0), none]) dX8_taken_5 rfl (by decide) rfl rfl ?_
  refine aw_iconst (npc := 7) (v := 0) (by decide) dX8_taken_6 rfl ?_
  refine aw_istore_n (npc := 8) (L' := [some (.ref 69), some (.int 0), some (.int 0)]) dX8_taken_7 rfl (by decide) rfl rfl ?_
  refine aw_locs (L' := [some (.ref 69), some (.int 0), some (.int (nI 0))]) rfl ?_
  refine M_takenL (N := N) (fr := 0) (c := 0) eT4 10000 0 (by omega) 0 _ _ _ F3 (fun _ => sa_d) (fun _ _ => rfl) ho4 (fun v9 o9 h9 e9 F9 ol9 o49 f9 => hq v9 o9 _ h9 e9 F9 (ol_end ol9 (o49.trans ho4.symm)) (alT_t (alT_4 cT5) alT_0) (am_fpT f9 (am_fpT (fun k (hk : k < 69 ∨ 92 ≤ k) => fz6 k (by omega)) am_fp0)))
theorem sp_alt {N X : Nat → Int32} (h0 : X 20 = N 20) (h1 : X 21 = N 21) : (hs0 X - X 20 < hs1 X - X 21 → hs0 X - X 20 = spF N X) ∧ (¬ hs0 X - X 20 < hs1 X - X 21 → hs1 X - X 21 = spF N X) := by
  rw [h0, h1]
  unfold spF
  refine ⟨fun h => ?_, fun h => ?_⟩
  · rw [if_neg (fun q => Int32.lt_irrefl (Int32.lt_trans h q))]
  · by_cases q : hs1 X - N 21 < hs0 X - N 20
    · rw [if_pos q]
    · rw [if_neg q]; exact Int32.le_antisymm (Int32.not_lt.mp h) (Int32.not_lt.mp q)
theorem ab_p {x y : Int32} (h : 0 ≤ x - y) : x - y = abD x y := (if_pos h).symm
theorem ab_n {x y : Int32} (h : ¬ 0 ≤ x - y) : -(x - y) = abD x y := by
  unfold abD
  rw [if_neg h, Int32.zero_sub]
set_option maxHeartbeats 4000000 in
set_option maxRecDepth 100000 in
theorem m_well0 {X : List Int32} {d rc rs n : Nat} {Q : am_Q} {h : am_H} {o N NA : Nat → Int32} {a : Nat → Nat → Int32} (F : MR o NA a h) (h20 : NA 20 = N 20) (h21 : NA 21 = N 21) (hq : Q (some (.int (spF N NA))) n h) : AW X mX8_wellBy (d + 6) rc rs 0 [some (.ref 69), some (.int 0), none, none, none] [] n h Q := by
  refine aw_iload_n (npc := 1) rfl dX8_wellBy_0 rfl ?_
  refine aw_if_ne (npc := 4) (tgt := 43) dX8_wellBy_1 rfl (by decide) (fun hc => absurd (by decide) hc) (fun _ => ?_)
  refine aw_aload_n (npc := 5) rfl dX8_wellBy_4 rfl ?_
  refine aw_iconst (npc := 6) (v := 0) (by decide) dX8_wellBy_5 rfl ?_
  refine aw_callV (npc := 9) (N := mX8_has) (b := 69) (mc := 0) (ms := 0) (A := [.int 0]) (S := []) (L0 := [some (.ref 69), some (.int 0), none, none, none]) dX8_wellBy_6 rfl km_X8_has kk_X8_143 F.1 ⟨by decide, rfl⟩ rfl ⟨rfl, by decide⟩ rfl (Nat.le_of_ble_eq_true rfl) (Nat.zero_add _) (Nat.zero_add _) rfl ?_
  refine m_has0 F ?_
  refine aw_re (S' := [.int (hs0 NA)]) rfl ?_
  refine aw_aload_n (npc := 10) rfl dX8_wellBy_9 rfl ?_
  refine aw_get (npc := 13) dX8_wellBy_10 rfl kf_X8_9 F.1 rfl ?_
  refine aw_bipush (npc := 15) (v := 20) (by decide) dX8_wellBy_13 rfl ?_
  refine aw_iald (npc := 16) (x := NA 20) (j := 20) dX8_wellBy_15 rfl F.2.1 ⟨by decide, by decide⟩ (tl_at (by omega)) ?_
  refine aw_isub (npc := 17) dX8_wellBy_16 rfl ?_
  refine aw_istore_n (npc := 18) (L' := [some (.ref 69), some (.int 0), some (.int ((hs0 NA) - (NA 20))), none, none]) dX8_wellBy_17 rfl (by decide) rfl rfl ?_
  refine aw_aload_n (npc := 19) rfl dX8_wellBy_18 rfl ?_
  refine aw_iconst (npc := 20) (v := 1) (by decide) dX8_wellBy_19 rfl ?_
  refine aw_callV (npc := 23) (N := mX8_has) (b := 69) (mc := 0) (ms := 0) (A := [.int 1]) (S := []) (L0 := [some (.ref 69), some (.int 1), none, none, none]) dX8_wellBy_20 rfl km_X8_has kk_X8_143 F.1 ⟨by decide, rfl⟩ rfl ⟨rfl, by decide⟩ rfl (Nat.le_of_ble_eq_true rfl) (Nat.zero_add _) (Nat.zero_add _) rfl ?_
  refine m_has1 F ?_
  refine aw_re (S' := [.int (hs1 NA)]) rfl ?_
  refine aw_aload_n (npc := 24) rfl dX8_wellBy_23 rfl ?_
  refine aw_get (npc := 27) dX8_wellBy_24 rfl kf_X8_9 F.1 rfl ?_
  refine aw_bipush (npc := 29) (v := 21) (by decide) dX8_wellBy_27 rfl ?_
  refine aw_iald (npc := 30) (x := NA 21) (j := 21) dX8_wellBy_29 rfl F.2.1 ⟨by decide, by decide⟩ (tl_at (by omega)) ?_
  refine aw_isub (npc := 31) dX8_wellBy_30 rfl ?_
  refine aw_istore_n (npc := 32) (L' := [some (.ref 69), some (.int 0), some (.int ((hs0 NA) - (NA 20))), some (.int ((hs1 NA) - (NA 21))), none]) dX8_wellBy_31 rfl (by decide) rfl rfl ?_
  refine aw_iload_n (npc := 33) rfl dX8_wellBy_32 rfl ?_
  refine aw_iload_n (npc := 34) rfl dX8_wellBy_33 rfl ?_
  refine aw_icmp_ge (npc := 37) (tgt := 41) dX8_wellBy_34 rfl (by decide) (fun hc1 => ?_) (fun hc1 => ?_)
  · refine aw_iload_n (npc := 42) rfl dX8_wellBy_41 rfl ?_
    refine aw_iret rfl dX8_wellBy_42 ?_
    exact (show ((hs1 NA) - (NA 21)) = spF N NA from (sp_alt h20 h21).2 (Int32.not_lt.mpr hc1)) ▸ hq
  · refine aw_iload_n (npc := 38) rfl dX8_wellBy_37 rfl ?_
    refine aw_goto (npc := 42) dX8_wellBy_38 (by decide) ?_
    refine aw_iret rfl dX8_wellBy_42 ?_
    exact (show ((hs0 NA) - (NA 20)) = spF N NA from (sp_alt h20 h21).1 (Int32.not_le.mp hc1)) ▸ hq
def dsum (N NA : Nat → Int32) : Nat → Nat → Int32 → Int32
  | 0, _, s => s
  | m + 1, t, s => dsum N NA m (t + 1) (s + abD (NA (8 + t)) (N (8 + t)))
theorem dsum_di {N NA : Nat → Int32} : dsum N NA 4 0 0 = diF N NA := rfl
set_option maxHeartbeats 4000000 in
set_option maxRecDepth 100000 in
theorem m_well1L {X : List Int32} {d rc rs n : Nat} {Q : am_Q} {h : am_H} {o N NA : Nat → Int32} {a : Nat → Nat → Int32} (F : MR o NA a h) (h74 : ∀ j, j < 62 → a 74 j = N j) : ∀ (m t : Nat), t + m = 4 → ∀ (s : Int32) (v4 : Option Value), Q (some (.int (-(dsum N NA m t s)))) n h → AW X mX8_wellBy (d + 6) rc rs 47 [some (.ref 69), some (.int 1), some (.int s), some (.int (nI t)), v4] [] n h Q := by
  intro m
  induction m with
  | zero =>
    intro t ht s v4 hq
    obtain rfl : t = 4 := by omega
    refine aw_iload_n (npc := 48) rfl dX8_wellBy_47 rfl ?_
    refine aw_iconst (npc := 49) (v := 4) (by decide) dX8_wellBy_48 rfl ?_
    refine aw_icmp_ge (npc := 52) (tgt := 95) dX8_wellBy_49 rfl (by decide) (fun _ => ?_) (fun hc => absurd (nI_le (a := 4) (b := 4) (by omega) (by omega)) hc)
    refine aw_iload_n (npc := 96) rfl dX8_wellBy_95 rfl ?_
    refine aw_ineg (npc := 97) dX8_wellBy_96 rfl ?_
    refine aw_iret rfl dX8_wellBy_97 ?_
    exact hq
  | succ m ih =>
    intro t ht s v4 hq
    refine aw_iload_n (npc := 48) rfl dX8_wellBy_47 rfl ?_
    refine aw_iconst (npc := 49) (v := 4) (by decide) dX8_wellBy_48 rfl ?_
    refine aw_icmp_ge (npc := 52) (tgt := 95) dX8_wellBy_49 rfl (by decide) (fun hc => absurd hc (nI_ge (a := t) (b := 4) (by omega) (by omega))) (fun _ => ?_)
    refine aw_aload_n (npc := 53) rfl dX8_wellBy_52 rfl ?_
    refine aw_get (npc := 56) dX8_wellBy_53 rfl kf_X8_9 F.1 rfl ?_
    refine aw_bipush (npc := 58) (v := 8) (by decide) dX8_wellBy_56 rfl ?_
    refine aw_iload_n (npc := 59) rfl dX8_wellBy_58 rfl ?_
    refine aw_iaddV (npc := 60) (v := nI (8 + t)) dX8_wellBy_59 rfl (nI_add 8 _) ?_
    refine aw_iald (npc := 61) (x := NA (8 + t)) (j := (8 + t)) dX8_wellBy_60 rfl F.2.1 (am_ix_nI (by omega)) (tl_at (by omega)) ?_
    refine aw_aload_n (npc := 62) rfl dX8_wellBy_61 rfl ?_
    refine aw_get (npc := 65) dX8_wellBy_62 rfl kf_X8_26 F.1 rfl ?_
    refine aw_bipush (npc := 67) (v := 8) (by decide) dX8_wellBy_65 rfl ?_
    refine aw_iload_n (npc := 68) rfl dX8_wellBy_67 rfl ?_
    refine aw_iaddV (npc := 69) (v := nI (8 + t)) dX8_wellBy_68 rfl (nI_add 8 _) ?_
    refine aw_iald (npc := 70) (x := (a 74) (8 + t)) (j := (8 + t)) dX8_wellBy_69 rfl F.2.2.2.2.2.1 (am_ix_nI (by omega)) (tl_at (by omega)) ?_
    refine aw_isub (npc := 71) dX8_wellBy_70 rfl ?_
    refine aw_istore (npc := 73) (L' := [some (.ref 69), some (.int 1), some (.int s), some (.int (nI t)), some (.int ((NA (8 + t)) - ((a 74) (8 + t))))]) dX8_wellBy_71 rfl (by decide) rfl rfl ?_
    refine aw_iload_n (npc := 74) rfl dX8_wellBy_73 rfl ?_
    refine aw_iload (npc := 76) rfl dX8_wellBy_74 rfl ?_
    refine aw_if_ge (npc := 79) (tgt := 85) dX8_wellBy_76 rfl (by decide) (fun hc2 => ?_) (fun hc2 => ?_)
    · refine aw_iload (npc := 87) rfl dX8_wellBy_85 rfl ?_
      refine aw_top (y := abD (NA (8 + t)) (a 74 (8 + t))) (ab_p hc2) ?_
      refine aw_iadd (npc := 88) dX8_wellBy_87 rfl ?_
      refine aw_istore_n (npc := 89) (L' := [some (.ref 69), some (.int 1), some (.int (s + (abD (NA (8 + t)) (a 74 (8 + t))))), some (.int (nI t)), some (.int ((NA (8 + t)) - ((a 74) (8 + t))))]) dX8_wellBy_88 rfl (by decide) rfl rfl ?_
      refine aw_iinc (npc := 92) (v := nI (t + 1)) (L' := [some (.ref 69), some (.int 1), some (.int (s + (abD (NA (8 + t)) (a 74 (8 + t))))), some (.int (nI (t + 1))), some (.int ((NA (8 + t)) - ((a 74) (8 + t))))]) dX8_wellBy_89 rfl rfl (nI_1 _) (by decide) rfl rfl ?_
      refine aw_goto (npc := 47) dX8_wellBy_92 (by decide) ?_
      exact ih (t + 1) (by omega) _ _ ((h74 (8 + t) (by omega)) ▸ hq)
    · refine aw_iload (npc := 81) rfl dX8_wellBy_79 rfl ?_
      refine aw_ineg (npc := 82) dX8_wellBy_81 rfl ?_
      refine aw_goto (npc := 87) dX8_wellBy_82 (by decide) ?_
      refine aw_top (y := abD (NA (8 + t)) (a 74 (8 + t))) (ab_n hc2) ?_
      refine aw_iadd (npc := 88) dX8_wellBy_87 rfl ?_
      refine aw_istore_n (npc := 89) (L' := [some (.ref 69), some (.int 1), some (.int (s + (abD (NA (8 + t)) (a 74 (8 + t))))), some (.int (nI t)), some (.int ((NA (8 + t)) - ((a 74) (8 + t))))]) dX8_wellBy_88 rfl (by decide) rfl rfl ?_
      refine aw_iinc (npc := 92) (v := nI (t + 1)) (L' := [some (.ref 69), some (.int 1), some (.int (s + (abD (NA (8 + t)) (a 74 (8 + t))))), some (.int (nI (t + 1))), some (.int ((NA (8 + t)) - ((a 74) (8 + t))))]) dX8_wellBy_89 rfl rfl (nI_1 _) (by decide) rfl rfl ?_
      refine aw_goto (npc := 47) dX8_wellBy_92 (by decide) ?_
      exact ih (t + 1) (by omega) _ _ ((h74 (8 + t) (by omega)) ▸ hq)
set_option maxHeartbeats 4000000 in
set_option maxRecDepth 100000 in
theorem m_well1 {X : List Int32} {d rc rs n : Nat} {Q : am_Q} {h : am_H} {o N NA : Nat → Int32} {a : Nat → Nat → Int32} (F : MR o NA a h) (h74 : ∀ j, j < 62 → a 74 j = N j) (hq : Q (some (.int (-(diF N NA)))) n h) : AW X mX8_wellBy (d + 6) rc rs 0 [some (.ref 69), some (.int 1), none, none, none] [] n h Q := by
  refine aw_iload_n (npc := 1) rfl dX8_wellBy_0 rfl ?_
  refine aw_if_ne (npc := 4) (tgt := 43) dX8_wellBy_1 rfl (by decide) (fun _ => ?_) (fun hc => absurd hc (by decide))
  refine aw_iconst (npc := 44) (v := 0) (by decide) dX8_wellBy_43 rfl ?_
  refine aw_istore_n (npc := 45) (L' := [some (.ref 69), some (.int 1), some (.int 0), none, none]) dX8_wellBy_44 rfl (by decide) rfl rfl ?_
  refine aw_iconst (npc := 46) (v := 0) (by decide) dX8_wellBy_45 rfl ?_
  refine aw_istore_n (npc := 47) (L' := [some (.ref 69), some (.int 1), some (.int 0), some (.int 0), none]) dX8_wellBy_46 rfl (by decide) rfl rfl ?_
  refine aw_locs (L' := [some (.ref 69), some (.int 1), some (.int 0), some (.int (nI 0)), none]) rfl ?_
  exact m_well1L F h74 4 0 (by omega) 0 none (dsum_di.symm ▸ hq)
def g2N : Option (Nat × Int32) → Int32
  | none => 0
  | some p => p.2
def k2N : Option (Nat × Int32) → Int32
  | none => 0
  | some p => -p.2
theorem neg_nI {p : Nat} (h : p ≤ 36) : (-(nI p)).toInt = -(p : Int) := by
  rw [Int32.toInt_neg, nI_toInt (by omega)]
  exact Int.bmod_eq_of_le (by omega) (by omega)
theorem neg36 {p q : Nat} (hp : p ≤ 36) (hq : q ≤ 36) : (-(nI p) ≤ -(nI q)) ↔ (nI q ≤ nI p) := by
  rw [Int32.le_iff_toInt_le, neg_nI hp, neg_nI hq, nI_leI (by omega) (by omega)]
  omega
theorem ne_cmp {N : Nat → Int32} {fr c V : Nat} {y : Int32} (hR : RG N fr c) (hy : ∃ k, k ≤ 36 ∧ y = nI k) : (-(diF N (dD N V)) ≤ -y) ↔ (y ≤ diF N (dD N V)) := by
  obtain ⟨k, lk, rfl⟩ := hy
  obtain ⟨j, lj, e⟩ := diF_nat (V := V) hR
  rw [e]
  exact neg36 lj lk
theorem neS_ok2 {N : Nat → Int32} {fr c V : Nat} {p : Option (Nat × Int32)} (hR : RG N fr c) (hV : V < 10000) (hp : ∀ q, p = some q → q.1 < 10000 ∧ ∃ k, k ≤ 36 ∧ q.2 = nI k) : ∀ q, neS N V p = some q → q.1 < 10000 ∧ ∃ k, k ≤ 36 ∧ q.2 = nI k := by
  intro q hq
  unfold neS at hq
  have hd := diF_nat (V := V) hR
  by_cases pe : peace (dD N V)
  · rw [cI_t pe] at hq
    cases p with
    | none => have z := Option.some.inj hq; rw [← z]; exact ⟨hV, hd⟩
    | some r =>
      simp only at hq
      split at hq
      · have z := Option.some.inj hq; rw [← z]; exact ⟨hV, hd⟩
      · have z := Option.some.inj hq; rw [← z]; exact hp r rfl
  · rw [cI_f pe] at hq; exact hp q hq
set_option maxHeartbeats 4000000 in
set_option maxRecDepth 100000 in
theorem M_term0L {X : List Int32} {d rc rs n : Nat} {Q : am_Q} {fr c : Nat} {N : Nat → Int32} {a : Nat → Nat → Int32} (h74 : ∀ j, j < 62 → a 74 j = N j) (hR : RG N fr c) : ∀ (m V : Nat), V + m = 10000 → ∀ (p : Option (Nat × Int32)), (∀ q, p = some q → q.1 < 10000 ∧ ¬ q.2 < 0) → ∀ (v5 : Option Value) (NA o : Nat → Int32) (h : am_H), MR o NA a h → (∀ V, saN NA V = dD N V) → (∀ j, 62 ≤ j → NA j = N j) → o 4 = -1 → (∀ v9 o9 h9, v9 = orN (opN (frM N m V p)) → MR o9 N a h9 → olT o9 o → o9 4 = -1 → am_fp (fun k => k < 69 ∨ 92 ≤ k) h9 h → Q (some (.int v9)) n h9) → AW X mX8_terms (d + 12) rc rs 23 [some (.ref 69), some (.int 0), some (.int (opN p)), some (.int (g2N p)), some (.int (nI V)), v5] [] n h Q := by
  intro m
  induction m with
  | zero =>
    intro V hV p hp v5 NA o h F hsa h62 ho4 hq
    obtain rfl : V = 10000 := by omega
    refine aw_iload (npc := 25) rfl dX8_terms_23 rfl ?_
    refine aw_sipush (npc := 28) (v := 10000) (by decide) dX8_terms_25 rfl ?_
    refine aw_icmp_ge (npc := 31) (tgt := 73) dX8_terms_28 rfl (by decide) (fun _ => ?_) (fun hc => absurd (nI_le (a := 10000) (b := 10000) (by omega) (by omega)) hc)
    refine aw_aload_n (npc := 74) rfl dX8_terms_73 rfl ?_
    refine aw_callV (npc := 77) (N := mX8_putsBack) (b := 69) (mc := 0) (ms := 0) (A := []) (S := []) (L0 := [some (.ref 69), none]) dX8_terms_74 rfl km_X8_putsBack kk_X8_175 F.1 ⟨by decide, rfl⟩ rfl ⟨rfl, by decide⟩ rfl (Nat.le_of_ble_eq_true rfl) (Nat.zero_add _) (Nat.zero_add _) rfl ?_
    refine m_puts F (fun N82 hp3 F4 e85 c86 fz7 => ?_)
    have eN8 : N82 = N := funext (fun j => by
      by_cases hj : j < 62
      · exact (e85 j hj).trans (h74 j hj)
      · have hj : 62 ≤ j := by omega
        exact (c86 j hj).trans (h62 j hj))
    rw [eN8] at F4
    refine aw_iload_n (npc := 78) rfl dX8_terms_77 rfl ?_
    refine aw_callS (npc := 81) (N := mX8_told0) (mc := 0) (ms := 0) (A := [.int (opN p)]) (S := []) (L0 := [some (.int (opN p))]) dX8_terms_78 rfl km_X8_told0 kk_X8_124 rfl ⟨rfl, by decide⟩ rfl (Nat.le_of_ble_eq_true rfl) (Nat.zero_add _) (Nat.zero_add _) rfl ?_
    refine c_X8_told0 ?_
    refine aw_re (S' := [.int (orN (opN p))]) rfl ?_
    refine aw_iret rfl dX8_terms_81 ?_
    exact hq _ _ _ rfl F4 (olT_u olT_0) pk_us (am_fpT (fun k (hk : k < 69 ∨ 92 ≤ k) => fz7 k (by omega)) am_fp0)
  | succ m ih =>
    intro V hV p hp v5 NA o h F hsa h62 ho4 hq
    cases p with
    | none =>
      show AW X mX8_terms (d + 12) rc rs 23 [some (.ref 69), some (.int 0), some (.int (-1)), some (.int 0), some (.int (nI V)), v5] [] n h Q
      refine aw_iload (npc := 25) rfl dX8_terms_23 rfl ?_
      refine aw_sipush (npc := 28) (v := 10000) (by decide) dX8_terms_25 rfl ?_
      refine aw_icmp_ge (npc := 31) (tgt := 73) dX8_terms_28 rfl (by decide) (fun hc => absurd hc (nI_ge (a := V) (b := 10000) (by omega) (by omega))) (fun _ => ?_)
      refine aw_aload_n (npc := 32) rfl dX8_terms_31 rfl ?_
      refine aw_iload (npc := 34) rfl dX8_terms_32 rfl ?_
      refine aw_callV (npc := 37) (N := mX8_standAs) (b := 69) (mc := 0) (ms := 0) (A := [.int (nI V)]) (S := []) (L0 := [some (.ref 69), some (.int (nI V)), none, none]) dX8_terms_34 rfl km_X8_standAs kk_X8_172 F.1 ⟨by decide, rfl⟩ rfl ⟨rfl, by decide⟩ rfl (Nat.le_of_ble_eq_true rfl) (Nat.zero_add _) (Nat.zero_add _) rfl ?_
      refine m_standAs (V := V) (by omega) F (fun hp2 Fs3 fz4 => ?_)
      rw [hsa] at Fs3
      refine aw_aload_n (npc := 38) rfl dX8_terms_37 rfl ?_
      refine aw_callV (npc := 41) (N := mX8_isPeace) (b := 69) (mc := 0) (ms := 0) (A := []) (S := []) (L0 := [some (.ref 69)]) dX8_terms_38 rfl km_X8_isPeace kk_X8_149 Fs3.1 ⟨by decide, rfl⟩ rfl ⟨rfl, by decide⟩ rfl (Nat.le_of_ble_eq_true rfl) (Nat.zero_add _) (Nat.zero_add _) rfl ?_
      refine m_peace Fs3 (fun hp5 => ?_) (fun hp5 => ?_)
      · refine aw_re (S' := [.int 1]) rfl ?_
        refine aw_if_eq (npc := 44) (tgt := 67) dX8_terms_41 rfl (by decide) (fun hc => absurd hc (by decide)) (fun _ => ?_)
        refine aw_aload_n (npc := 45) rfl dX8_terms_44 rfl ?_
        refine aw_iload_n (npc := 46) rfl dX8_terms_45 rfl ?_
        refine aw_callV (npc := 49) (N := mX8_wellBy) (b := 69) (mc := 0) (ms := 0) (A := [.int 0]) (S := []) (L0 := [some (.ref 69), some (.int 0), none, none, none]) dX8_terms_46 rfl km_X8_wellBy kk_X8_178 Fs3.1 ⟨by decide, rfl⟩ rfl ⟨rfl, by decide⟩ rfl (Nat.le_of_ble_eq_true rfl) (Nat.zero_add _) (Nat.zero_add _) rfl ?_
        refine m_well0 (N := N) Fs3 rfl rfl ?_
        refine aw_re (S' := [.int (spF N (dD N V))]) rfl ?_
        refine aw_istore (npc := 51) (L' := [some (.ref 69), some (.int 0), some (.int (-1)), some (.int 0), some (.int (nI V)), some (.int (spF N (dD N V)))]) dX8_terms_49 rfl (by decide) rfl rfl ?_
        refine aw_iload_n (npc := 52) rfl dX8_terms_51 rfl ?_
        refine aw_if_lt (npc := 55) (tgt := 61) dX8_terms_52 rfl (by decide) (fun _ => ?_) (fun hc => absurd (by decide) hc)
        refine aw_iload (npc := 63) rfl dX8_terms_61 rfl ?_
        refine aw_istore_n (npc := 64) (L' := [some (.ref 69), some (.int 0), some (.int (nI V)), some (.int 0), some (.int (nI V)), some (.int (spF N (dD N V)))]) dX8_terms_63 rfl (by decide) rfl rfl ?_
        refine aw_iload (npc := 66) rfl dX8_terms_64 rfl ?_
        refine aw_istore_n (npc := 67) (L' := [some (.ref 69), some (.int 0), some (.int (nI V)), some (.int (spF N (dD N V))), some (.int (nI V)), some (.int (spF N (dD N V)))]) dX8_terms_66 rfl (by decide) rfl rfl ?_
        refine aw_iinc (npc := 70) (v := nI (V + 1)) (L' := [some (.ref 69), some (.int 0), some (.int (nI V)), some (.int (spF N (dD N V))), some (.int (nI (V + 1))), some (.int (spF N (dD N V)))]) dX8_terms_67 rfl rfl (nI_1 _) (by decide) rfl rfl ?_
        refine aw_goto (npc := 23) dX8_terms_70 (by decide) ?_
        have e8 : frS N V none = some (V, spF N (dD N V)) := cI_t hp5
        refine aw_locs (L' := [some (.ref 69), some (.int 0), some (.int (opN (some (V, spF N (dD N V))))), some (.int (g2N (some (V, spF N (dD N V))))), some (.int (nI (V + 1))), some (.int (spF N (dD N V)))]) rfl ?_
        refine ih (V + 1) (by omega) (some (V, spF N (dD N V))) (e8 ▸ frS_ok hR (by omega) hp) _ _ _ _ Fs3 (fun U => sa_sa) (fun j hj => dD_62 hj) ho4 (fun v9 o9 h9 e9 F9 ol9 o49 f9 => hq v9 o9 h9 ?_ F9 ol9 o49 (am_fpT f9 (am_fpT (fun k (hk : k < 69 ∨ 92 ≤ k) => fz4 k (by omega)) am_fp0)))
        rw [e9]; exact congrArg (fun z => orN (opN (frM N m (V + 1) z))) e8.symm
      · refine aw_re (S' := [.int 0]) rfl ?_
        refine aw_if_eq (npc := 44) (tgt := 67) dX8_terms_41 rfl (by decide) (fun _ => ?_) (fun hc => absurd (by decide) hc)
        refine aw_iinc (npc := 70) (v := nI (V + 1)) (L' := [some (.ref 69), some (.int 0), some (.int (-1)), some (.int 0), some (.int (nI (V + 1))), v5]) dX8_terms_67 rfl rfl (nI_1 _) (by decide) rfl rfl ?_
        refine aw_goto (npc := 23) dX8_terms_70 (by decide) ?_
        have e8 : frS N V none = none := cI_f hp5
        refine aw_locs (L' := [some (.ref 69), some (.int 0), some (.int (opN (none))), some (.int (g2N (none))), some (.int (nI (V + 1))), v5]) rfl ?_
        refine ih (V + 1) (by omega) (none) (e8 ▸ frS_ok hR (by omega) hp) _ _ _ _ Fs3 (fun U => sa_sa) (fun j hj => dD_62 hj) ho4 (fun v9 o9 h9 e9 F9 ol9 o49 f9 => hq v9 o9 h9 ?_ F9 ol9 o49 (am_fpT f9 (am_fpT (fun k (hk : k < 69 ∨ 92 ≤ k) => fz4 k (by omega)) am_fp0)))
        rw [e9]; exact congrArg (fun z => orN (opN (frM N m (V + 1) z))) e8.symm
    | some r =>
      have hp8 := hp r rfl
      have hp81 := hp8.1
      show AW X mX8_terms (d + 12) rc rs 23 [some (.ref 69), some (.int 0), some (.int (nI r.1)), some (.int r.2), some (.int (nI V)), v5] [] n h Q
      refine aw_iload (npc := 25) rfl dX8_terms_23 rfl ?_
      refine aw_sipush (npc := 28) (v := 10000) (by decide) dX8_terms_25 rfl ?_
      refine aw_icmp_ge (npc := 31) (tgt := 73) dX8_terms_28 rfl (by decide) (fun hc => absurd hc (nI_ge (a := V) (b := 10000) (by omega) (by omega))) (fun _ => ?_)
      refine aw_aload_n (npc := 32) rfl dX8_terms_31 rfl ?_
      refine aw_iload (npc := 34) rfl dX8_terms_32 rfl ?_
      refine aw_callV (npc := 37) (N := mX8_standAs) (b := 69) (mc := 0) (ms := 0) (A := [.int (nI V)]) (S := []) (L0 := [some (.ref 69), some (.int (nI V)), none, none]) dX8_terms_34 rfl km_X8_standAs kk_X8_172 F.1 ⟨by decide, rfl⟩ rfl ⟨rfl, by decide⟩ rfl (Nat.le_of_ble_eq_true rfl) (Nat.zero_add _) (Nat.zero_add _) rfl ?_
      refine m_standAs (V := V) (by omega) F (fun hp2 Fs3 fz4 => ?_)
      rw [hsa] at Fs3
      refine aw_aload_n (npc := 38) rfl dX8_terms_37 rfl ?_
      refine aw_callV (npc := 41) (N := mX8_isPeace) (b := 69) (mc := 0) (ms := 0) (A := []) (S := []) (L0 := [some (.ref 69)]) dX8_terms_38 rfl km_X8_isPeace kk_X8_149 Fs3.1 ⟨by decide, rfl⟩ rfl ⟨rfl, by decide⟩ rfl (Nat.le_of_ble_eq_true rfl) (Nat.zero_add _) (Nat.zero_add _) rfl ?_
      refine m_peace Fs3 (fun hp5 => ?_) (fun hp5 => ?_)
      · refine aw_re (S' := [.int 1]) rfl ?_
        refine aw_if_eq (npc := 44) (tgt := 67) dX8_terms_41 rfl (by decide) (fun hc => absurd hc (by decide)) (fun _ => ?_)
        refine aw_aload_n (npc := 45) rfl dX8_terms_44 rfl ?_
        refine aw_iload_n (npc := 46) rfl dX8_terms_45 rfl ?_
        refine aw_callV (npc := 49) (N := mX8_wellBy) (b := 69) (mc := 0) (ms := 0) (A := [.int 0]) (S := []) (L0 := [some (.ref 69), some (.int 0), none, none, none]) dX8_terms_46 rfl km_X8_wellBy kk_X8_178 Fs3.1 ⟨by decide, rfl⟩ rfl ⟨rfl, by decide⟩ rfl (Nat.le_of_ble_eq_true rfl) (Nat.zero_add _) (Nat.zero_add _) rfl ?_
        refine m_well0 (N := N) Fs3 rfl rfl ?_
        refine aw_re (S' := [.int (spF N (dD N V))]) rfl ?_
        refine aw_istore (npc := 51) (L' := [some (.ref 69), some (.int 0), some (.int (nI r.1)), some (.int r.2), some (.int (nI V)), some (.int (spF N (dD N V)))]) dX8_terms_49 rfl (by decide) rfl rfl ?_
        refine aw_iload_n (npc := 52) rfl dX8_terms_51 rfl ?_
        refine aw_if_lt (npc := 55) (tgt := 61) dX8_terms_52 rfl (by decide) (fun hc => absurd hc (nI_pos (by omega))) (fun _ => ?_)
        refine aw_iload (npc := 57) rfl dX8_terms_55 rfl ?_
        refine aw_iload_n (npc := 58) rfl dX8_terms_57 rfl ?_
        refine aw_icmp_le (npc := 61) (tgt := 67) dX8_terms_58 rfl (by decide) (fun hc7 => ?_) (fun hc7 => ?_)
        · refine aw_iinc (npc := 70) (v := nI (V + 1)) (L' := [some (.ref 69), some (.int 0), some (.int (nI r.1)), some (.int r.2), some (.int (nI (V + 1))), some (.int (spF N (dD N V)))]) dX8_terms_67 rfl rfl (nI_1 _) (by decide) rfl rfl ?_
          refine aw_goto (npc := 23) dX8_terms_70 (by decide) ?_
          have e8 : frS N V (some r) = some r := (cI_t hp5).trans (if_neg (Int32.not_lt.mpr hc7))
          refine aw_locs (L' := [some (.ref 69), some (.int 0), some (.int (opN (some r))), some (.int (g2N (some r))), some (.int (nI (V + 1))), some (.int (spF N (dD N V)))]) rfl ?_
          refine ih (V + 1) (by omega) (some r) (e8 ▸ frS_ok hR (by omega) hp) _ _ _ _ Fs3 (fun U => sa_sa) (fun j hj => dD_62 hj) ho4 (fun v9 o9 h9 e9 F9 ol9 o49 f9 => hq v9 o9 h9 ?_ F9 ol9 o49 (am_fpT f9 (am_fpT (fun k (hk : k < 69 ∨ 92 ≤ k) => fz4 k (by omega)) am_fp0)))
          rw [e9]; exact congrArg (fun z => orN (opN (frM N m (V + 1) z))) e8.symm
        · refine aw_iload (npc := 63) rfl dX8_terms_61 rfl ?_
          refine aw_istore_n (npc := 64) (L' := [some (.ref 69), some (.int 0), some (.int (nI V)), some (.int r.2), some (.int (nI V)), some (.int (spF N (dD N V)))]) dX8_terms_63 rfl (by decide) rfl rfl ?_
          refine aw_iload (npc := 66) rfl dX8_terms_64 rfl ?_
          refine aw_istore_n (npc := 67) (L' := [some (.ref 69), some (.int 0), some (.int (nI V)), some (.int (spF N (dD N V))), some (.int (nI V)), some (.int (spF N (dD N V)))]) dX8_terms_66 rfl (by decide) rfl rfl ?_
          refine aw_iinc (npc := 70) (v := nI (V + 1)) (L' := [some (.ref 69), some (.int 0), some (.int (nI V)), some (.int (spF N (dD N V))), some (.int (nI (V + 1))), some (.int (spF N (dD N V)))]) dX8_terms_67 rfl rfl (nI_1 _) (by decide) rfl rfl ?_
          refine aw_goto (npc := 23) dX8_terms_70 (by decide) ?_
          have e8 : frS N V (some r) = some (V, spF N (dD N V)) := (cI_t hp5).trans (if_pos (Int32.not_le.mp hc7))
          refine aw_locs (L' := [some (.ref 69), some (.int 0), some (.int (opN (some (V, spF N (dD N V))))), some (.int (g2N (some (V, spF N (dD N V))))), some (.int (nI (V + 1))), some (.int (spF N (dD N V)))]) rfl ?_
          refine ih (V + 1) (by omega) (some (V, spF N (dD N V))) (e8 ▸ frS_ok hR (by omega) hp) _ _ _ _ Fs3 (fun U => sa_sa) (fun j hj => dD_62 hj) ho4 (fun v9 o9 h9 e9 F9 ol9 o49 f9 => hq v9 o9 h9 ?_ F9 ol9 o49 (am_fpT f9 (am_fpT (fun k (hk : k < 69 ∨ 92 ≤ k) => fz4 k (by omega)) am_fp0)))
          rw [e9]; exact congrArg (fun z => orN (opN (frM N m (V + 1) z))) e8.symm
      · refine aw_re (S' := [.int 0]) rfl ?_
        refine aw_if_eq (npc := 44) (tgt := 67) dX8_terms_41 rfl (by decide) (fun _ => ?_) (fun hc => absurd (by decide) hc)
        refine aw_iinc (npc := 70) (v := nI (V + 1)) (L' := [some (.ref 69), some (.int 0), some (.int (nI r.1)), some (.int r.2), some (.int (nI (V + 1))), v5]) dX8_terms_67 rfl rfl (nI_1 _) (by decide) rfl rfl ?_
        refine aw_goto (npc := 23) dX8_terms_70 (by decide) ?_
        have e8 : frS N V (some r) = some r := cI_f hp5
        refine aw_locs (L' := [some (.ref 69), some (.int 0), some (.int (opN (some r))), some (.int (g2N (some r))), some (.int (nI (V + 1))), v5]) rfl ?_
        refine ih (V + 1) (by omega) (some r) (e8 ▸ frS_ok hR (by omega) hp) _ _ _ _ Fs3 (fun U => sa_sa) (fun j hj => dD_62 hj) ho4 (fun v9 o9 h9 e9 F9 ol9 o49 f9 => hq v9 o9 h9 ?_ F9 ol9 o49 (am_fpT f9 (am_fpT (fun k (hk : k < 69 ∨ 92 ≤ k) => fz4 k (by omega)) am_fp0)))
        rw [e9]; exact congrArg (fun z => orN (opN (frM N m (V + 1) z))) e8.symm
set_option maxHeartbeats 4000000 in
set_option maxRecDepth 100000 in
theorem M_term1L {X : List Int32} {d rc rs n : Nat} {Q : am_Q} {fr c : Nat} {N : Nat → Int32} {a : Nat → Nat → Int32} (h74 : ∀ j, j < 62 → a 74 j = N j) (hR : RG N fr c) : ∀ (m V : Nat), V + m = 10000 → ∀ (p : Option (Nat × Int32)), (∀ q, p = some q → q.1 < 10000 ∧ ∃ k, k ≤ 36 ∧ q.2 = nI k) → ∀ (v5 : Option Value) (NA o : Nat → Int32) (h : am_H), MR o NA a h → (∀ V, saN NA V = dD N V) → (∀ j, 62 ≤ j → NA j = N j) → o 4 = -1 → (∀ v9 o9 h9, v9 = orN (opN (neM N m V p)) → MR o9 N a h9 → olT o9 o → o9 4 = -1 → am_fp (fun k => k < 69 ∨ 92 ≤ k) h9 h → Q (some (.int v9)) n h9) → AW X mX8_terms (d + 12) rc rs 23 [some (.ref 69), some (.int 1), some (.int (opN p)), some (.int (k2N p)), some (.int (nI V)), v5] [] n h Q := by
  intro m
  induction m with
  | zero =>
    intro V hV p hp v5 NA o h F hsa h62 ho4 hq
    obtain rfl : V = 10000 := by omega
    refine aw_iload (npc := 25) rfl dX8_terms_23 rfl ?_
    refine aw_sipush (npc := 28) (v := 10000) (by decide) dX8_terms_25 rfl ?_
    refine aw_icmp_ge (npc := 31) (tgt := 73) dX8_terms_28 rfl (by decide) (fun _ => ?_) (fun hc => absurd (nI_le (a := 10000) (b := 10000) (by omega) (by omega)) hc)
    refine aw_aload_n (npc := 74) rfl dX8_terms_73 rfl ?_
    refine aw_callV (npc := 77) (N := mX8_putsBack) (b := 69) (mc := 0) (ms := 0) (A := []) (S := []) (L0 := [some (.ref 69), none]) dX8_terms_74 rfl km_X8_putsBack kk_X8_175 F.1 ⟨by decide, rfl⟩ rfl ⟨rfl, by decide⟩ rfl (Nat.le_of_ble_eq_true rfl) (Nat.zero_add _) (Nat.zero_add _) rfl ?_
    refine m_puts F (fun N82 hp3 F4 e85 c86 fz7 => ?_)
    have eN8 : N82 = N := funext (fun j => by
      by_cases hj : j < 62
      · exact (e85 j hj).trans (h74 j hj)
      · have hj : 62 ≤ j := by omega
        exact (c86 j hj).trans (h62 j hj))
    rw [eN8] at F4
    refine aw_iload_n (npc := 78) rfl dX8_terms_77 rfl ?_
    refine aw_callS (npc := 81) (N := mX8_told0) (mc := 0) (ms := 0) (A := [.int (opN p)]) (S := []) (L0 := [some (.int (opN p))]) dX8_terms_78 rfl km_X8_told0 kk_X8_124 rfl ⟨rfl, by decide⟩ rfl (Nat.le_of_ble_eq_true rfl) (Nat.zero_add _) (Nat.zero_add _) rfl ?_
    refine c_X8_told0 ?_
    refine aw_re (S' := [.int (orN (opN p))]) rfl ?_
    refine aw_iret rfl dX8_terms_81 ?_
    exact hq _ _ _ rfl F4 (olT_u olT_0) pk_us (am_fpT (fun k (hk : k < 69 ∨ 92 ≤ k) => fz7 k (by omega)) am_fp0)
  | succ m ih =>
    intro V hV p hp v5 NA o h F hsa h62 ho4 hq
    cases p with
    | none =>
      show AW X mX8_terms (d + 12) rc rs 23 [some (.ref 69), some (.int 1), some (.int (-1)), some (.int 0), some (.int (nI V)), v5] [] n h Q
      refine aw_iload (npc := 25) rfl dX8_terms_23 rfl ?_
      refine aw_sipush (npc := 28) (v := 10000) (by decide) dX8_terms_25 rfl ?_
      refine aw_icmp_ge (npc := 31) (tgt := 73) dX8_terms_28 rfl (by decide) (fun hc => absurd hc (nI_ge (a := V) (b := 10000) (by omega) (by omega))) (fun _ => ?_)
      refine aw_aload_n (npc := 32) rfl dX8_terms_31 rfl ?_
      refine aw_iload (npc := 34) rfl dX8_terms_32 rfl ?_
      refine aw_callV (npc := 37) (N := mX8_standAs) (b := 69) (mc := 0) (ms := 0) (A := [.int (nI V)]) (S := []) (L0 := [some (.ref 69), some (.int (nI V)), none, none]) dX8_terms_34 rfl km_X8_standAs kk_X8_172 F.1 ⟨by decide, rfl⟩ rfl ⟨rfl, by decide⟩ rfl (Nat.le_of_ble_eq_true rfl) (Nat.zero_add _) (Nat.zero_add _) rfl ?_
      refine m_standAs (V := V) (by omega) F (fun hp2 Fs3 fz4 => ?_)
      rw [hsa] at Fs3
      refine aw_aload_n (npc := 38) rfl dX8_terms_37 rfl ?_
      refine aw_callV (npc := 41) (N := mX8_isPeace) (b := 69) (mc := 0) (ms := 0) (A := []) (S := []) (L0 := [some (.ref 69)]) dX8_terms_38 rfl km_X8_isPeace kk_X8_149 Fs3.1 ⟨by decide, rfl⟩ rfl ⟨rfl, by decide⟩ rfl (Nat.le_of_ble_eq_true rfl) (Nat.zero_add _) (Nat.zero_add _) rfl ?_
      refine m_peace Fs3 (fun hp5 => ?_) (fun hp5 => ?_)
      · refine aw_re (S' := [.int 1]) rfl ?_
        refine aw_if_eq (npc := 44) (tgt := 67) dX8_terms_41 rfl (by decide) (fun hc => absurd hc (by decide)) (fun _ => ?_)
        refine aw_aload_n (npc := 45) rfl dX8_terms_44 rfl ?_
        refine aw_iload_n (npc := 46) rfl dX8_terms_45 rfl ?_
        refine aw_callV (npc := 49) (N := mX8_wellBy) (b := 69) (mc := 0) (ms := 0) (A := [.int 1]) (S := []) (L0 := [some (.ref 69), some (.int 1), none, none, none]) dX8_terms_46 rfl km_X8_wellBy kk_X8_178 Fs3.1 ⟨by decide, rfl⟩ rfl ⟨rfl, by decide⟩ rfl (Nat.le_of_ble_eq_true rfl) (Nat.zero_add _) (Nat.zero_add _) rfl ?_
        refine m_well1 (N := N) Fs3 h74 ?_
        refine aw_re (S' := [.int (-(diF N (dD N V)))]) rfl ?_
        refine aw_istore (npc := 51) (L' := [some (.ref 69), some (.int 1), some (.int (-1)), some (.int 0), some (.int (nI V)), some (.int (-(diF N (dD N V))))]) dX8_terms_49 rfl (by decide) rfl rfl ?_
        refine aw_iload_n (npc := 52) rfl dX8_terms_51 rfl ?_
        refine aw_if_lt (npc := 55) (tgt := 61) dX8_terms_52 rfl (by decide) (fun _ => ?_) (fun hc => absurd (by decide) hc)
        refine aw_iload (npc := 63) rfl dX8_terms_61 rfl ?_
        refine aw_istore_n (npc := 64) (L' := [some (.ref 69), some (.int 1), some (.int (nI V)), some (.int 0), some (.int (nI V)), some (.int (-(diF N (dD N V))))]) dX8_terms_63 rfl (by decide) rfl rfl ?_
        refine aw_iload (npc := 66) rfl dX8_terms_64 rfl ?_
        refine aw_istore_n (npc := 67) (L' := [some (.ref 69), some (.int 1), some (.int (nI V)), some (.int (-(diF N (dD N V)))), some (.int (nI V)), some (.int (-(diF N (dD N V))))]) dX8_terms_66 rfl (by decide) rfl rfl ?_
        refine aw_iinc (npc := 70) (v := nI (V + 1)) (L' := [some (.ref 69), some (.int 1), some (.int (nI V)), some (.int (-(diF N (dD N V)))), some (.int (nI (V + 1))), some (.int (-(diF N (dD N V))))]) dX8_terms_67 rfl rfl (nI_1 _) (by decide) rfl rfl ?_
        refine aw_goto (npc := 23) dX8_terms_70 (by decide) ?_
        have e8 : neS N V none = some (V, diF N (dD N V)) := cI_t hp5
        refine aw_locs (L' := [some (.ref 69), some (.int 1), some (.int (opN (some (V, diF N (dD N V))))), some (.int (k2N (some (V, diF N (dD N V))))), some (.int (nI (V + 1))), some (.int (-(diF N (dD N V))))]) rfl ?_
        refine ih (V + 1) (by omega) (some (V, diF N (dD N V))) (e8 ▸ neS_ok2 hR (by omega) hp) _ _ _ _ Fs3 (fun U => sa_sa) (fun j hj => dD_62 hj) ho4 (fun v9 o9 h9 e9 F9 ol9 o49 f9 => hq v9 o9 h9 ?_ F9 ol9 o49 (am_fpT f9 (am_fpT (fun k (hk : k < 69 ∨ 92 ≤ k) => fz4 k (by omega)) am_fp0)))
        rw [e9]; exact congrArg (fun z => orN (opN (neM N m (V + 1) z))) e8.symm
      · refine aw_re (S' := [.int 0]) rfl ?_
        refine aw_if_eq (npc := 44) (tgt := 67) dX8_terms_41 rfl (by decide) (fun _ => ?_) (fun hc => absurd (by decide) hc)
        refine aw_iinc (npc := 70) (v := nI (V + 1)) (L' := [some (.ref 69), some (.int 1), some (.int (-1)), some (.int 0), some (.int (nI (V + 1))), v5]) dX8_terms_67 rfl rfl (nI_1 _) (by decide) rfl rfl ?_
        refine aw_goto (npc := 23) dX8_terms_70 (by decide) ?_
        have e8 : neS N V none = none := cI_f hp5
        refine aw_locs (L' := [some (.ref 69), some (.int 1), some (.int (opN (none))), some (.int (k2N (none))), some (.int (nI (V + 1))), v5]) rfl ?_
        refine ih (V + 1) (by omega) (none) (e8 ▸ neS_ok2 hR (by omega) hp) _ _ _ _ Fs3 (fun U => sa_sa) (fun j hj => dD_62 hj) ho4 (fun v9 o9 h9 e9 F9 ol9 o49 f9 => hq v9 o9 h9 ?_ F9 ol9 o49 (am_fpT f9 (am_fpT (fun k (hk : k < 69 ∨ 92 ≤ k) => fz4 k (by omega)) am_fp0)))
        rw [e9]; exact congrArg (fun z => orN (opN (neM N m (V + 1) z))) e8.symm
    | some r =>
      have hp8 := hp r rfl
      have hp81 := hp8.1
      show AW X mX8_terms (d + 12) rc rs 23 [some (.ref 69), some (.int 1), some (.int (nI r.1)), some (.int (-r.2)), some (.int (nI V)), v5] [] n h Q
      refine aw_iload (npc := 25) rfl dX8_terms_23 rfl ?_
      refine aw_sipush (npc := 28) (v := 10000) (by decide) dX8_terms_25 rfl ?_
      refine aw_icmp_ge (npc := 31) (tgt := 73) dX8_terms_28 rfl (by decide) (fun hc => absurd hc (nI_ge (a := V) (b := 10000) (by omega) (by omega))) (fun _ => ?_)
      refine aw_aload_n (npc := 32) rfl dX8_terms_31 rfl ?_
      refine aw_iload (npc := 34) rfl dX8_terms_32 rfl ?_
      refine aw_callV (npc := 37) (N := mX8_standAs) (b := 69) (mc := 0) (ms := 0) (A := [.int (nI V)]) (S := []) (L0 := [some (.ref 69), some (.int (nI V)), none, none]) dX8_terms_34 rfl km_X8_standAs kk_X8_172 F.1 ⟨by decide, rfl⟩ rfl ⟨rfl, by decide⟩ rfl (Nat.le_of_ble_eq_true rfl) (Nat.zero_add _) (Nat.zero_add _) rfl ?_
      refine m_standAs (V := V) (by omega) F (fun hp2 Fs3 fz4 => ?_)
      rw [hsa] at Fs3
      refine aw_aload_n (npc := 38) rfl dX8_terms_37 rfl ?_
      refine aw_callV (npc := 41) (N := mX8_isPeace) (b := 69) (mc := 0) (ms := 0) (A := []) (S := []) (L0 := [some (.ref 69)]) dX8_terms_38 rfl km_X8_isPeace kk_X8_149 Fs3.1 ⟨by decide, rfl⟩ rfl ⟨rfl, by decide⟩ rfl (Nat.le_of_ble_eq_true rfl) (Nat.zero_add _) (Nat.zero_add _) rfl ?_
      refine m_peace Fs3 (fun hp5 => ?_) (fun hp5 => ?_)
      · refine aw_re (S' := [.int 1]) rfl ?_
        refine aw_if_eq (npc := 44) (tgt := 67) dX8_terms_41 rfl (by decide) (fun hc => absurd hc (by decide)) (fun _ => ?_)
        refine aw_aload_n (npc := 45) rfl dX8_terms_44 rfl ?_
        refine aw_iload_n (npc := 46) rfl dX8_terms_45 rfl ?_
        refine aw_callV (npc := 49) (N := mX8_wellBy) (b := 69) (mc := 0) (ms := 0) (A := [.int 1]) (S := []) (L0 := [some (.ref 69), some (.int 1), none, none, none]) dX8_terms_46 rfl km_X8_wellBy kk_X8_178 Fs3.1 ⟨by decide, rfl⟩ rfl ⟨rfl, by decide⟩ rfl (Nat.le_of_ble_eq_true rfl) (Nat.zero_add _) (Nat.zero_add _) rfl ?_
        refine m_well1 (N := N) Fs3 h74 ?_
        refine aw_re (S' := [.int (-(diF N (dD N V)))]) rfl ?_
        refine aw_istore (npc := 51) (L' := [some (.ref 69), some (.int 1), some (.int (nI r.1)), some (.int (-r.2)), some (.int (nI V)), some (.int (-(diF N (dD N V))))]) dX8_terms_49 rfl (by decide) rfl rfl ?_
        refine aw_iload_n (npc := 52) rfl dX8_terms_51 rfl ?_
        refine aw_if_lt (npc := 55) (tgt := 61) dX8_terms_52 rfl (by decide) (fun hc => absurd hc (nI_pos (by omega))) (fun _ => ?_)
        refine aw_iload (npc := 57) rfl dX8_terms_55 rfl ?_
        refine aw_iload_n (npc := 58) rfl dX8_terms_57 rfl ?_
        refine aw_icmp_le (npc := 61) (tgt := 67) dX8_terms_58 rfl (by decide) (fun hc7 => ?_) (fun hc7 => ?_)
        · refine aw_iinc (npc := 70) (v := nI (V + 1)) (L' := [some (.ref 69), some (.int 1), some (.int (nI r.1)), some (.int (-r.2)), some (.int (nI (V + 1))), some (.int (-(diF N (dD N V))))]) dX8_terms_67 rfl rfl (nI_1 _) (by decide) rfl rfl ?_
          refine aw_goto (npc := 23) dX8_terms_70 (by decide) ?_
          have e8 : neS N V (some r) = some r := (cI_t hp5).trans (if_neg (Int32.not_lt.mpr ((ne_cmp hR hp8.2).mp hc7)))
          refine aw_locs (L' := [some (.ref 69), some (.int 1), some (.int (opN (some r))), some (.int (k2N (some r))), some (.int (nI (V + 1))), some (.int (-(diF N (dD N V))))]) rfl ?_
          refine ih (V + 1) (by omega) (some r) (e8 ▸ neS_ok2 hR (by omega) hp) _ _ _ _ Fs3 (fun U => sa_sa) (fun j hj => dD_62 hj) ho4 (fun v9 o9 h9 e9 F9 ol9 o49 f9 => hq v9 o9 h9 ?_ F9 ol9 o49 (am_fpT f9 (am_fpT (fun k (hk : k < 69 ∨ 92 ≤ k) => fz4 k (by omega)) am_fp0)))
          rw [e9]; exact congrArg (fun z => orN (opN (neM N m (V + 1) z))) e8.symm
        · refine aw_iload (npc := 63) rfl dX8_terms_61 rfl ?_
          refine aw_istore_n (npc := 64) (L' := [some (.ref 69), some (.int 1), some (.int (nI V)), some (.int (-r.2)), some (.int (nI V)), some (.int (-(diF N (dD N V))))]) dX8_terms_63 rfl (by decide) rfl rfl ?_
          refine aw_iload (npc := 66) rfl dX8_terms_64 rfl ?_
          refine aw_istore_n (npc := 67) (L' := [some (.ref 69), some (.int 1), some (.int (nI V)), some (.int (-(diF N (dD N V)))), some (.int (nI V)), some (.int (-(diF N (dD N V))))]) dX8_terms_66 rfl (by decide) rfl rfl ?_
          refine aw_iinc (npc := 70) (v := nI (V + 1)) (L' := [some (.ref 69), some (.int 1), some (.int (nI V)), some (.int (-(diF N (dD N V)))), some (.int (nI (V + 1))), some (.int (-(diF N (dD N V))))]) dX8_terms_67 rfl rfl (nI_1 _) (by decide) rfl rfl ?_
          refine aw_goto (npc := 23) dX8_terms_70 (by decide) ?_
          have e8 : neS N V (some r) = some (V, diF N (dD N V)) := (cI_t hp5).trans (if_pos (Int32.not_le.mp (fun z => hc7 ((ne_cmp hR hp8.2).mpr z))))
          refine aw_locs (L' := [some (.ref 69), some (.int 1), some (.int (opN (some (V, diF N (dD N V))))), some (.int (k2N (some (V, diF N (dD N V))))), some (.int (nI (V + 1))), some (.int (-(diF N (dD N V))))]) rfl ?_
          refine ih (V + 1) (by omega) (some (V, diF N (dD N V))) (e8 ▸ neS_ok2 hR (by omega) hp) _ _ _ _ Fs3 (fun U => sa_sa) (fun j hj => dD_62 hj) ho4 (fun v9 o9 h9 e9 F9 ol9 o49 f9 => hq v9 o9 h9 ?_ F9 ol9 o49 (am_fpT f9 (am_fpT (fun k (hk : k < 69 ∨ 92 ≤ k) => fz4 k (by omega)) am_fp0)))
          rw [e9]; exact congrArg (fun z => orN (opN (neM N m (V + 1) z))) e8.symm
      · refine aw_re (S' := [.int 0]) rfl ?_
        refine aw_if_eq (npc := 44) (tgt := 67) dX8_terms_41 rfl (by decide) (fun _ => ?_) (fun hc => absurd (by decide) hc)
        refine aw_iinc (npc := 70) (v := nI (V + 1)) (L' := [some (.ref 69), some (.int 1), some (.int (nI r.1)), some (.int (-r.2)), some (.int (nI (V + 1))), v5]) dX8_terms_67 rfl rfl (nI_1 _) (by decide) rfl rfl ?_
        refine aw_goto (npc := 23) dX8_terms_70 (by decide) ?_
        have e8 : neS N V (some r) = some r := cI_f hp5
        refine aw_locs (L' := [some (.ref 69), some (.int 1), some (.int (opN (some r))), some (.int (k2N (some r))), some (.int (nI (V + 1))), v5]) rfl ?_
        refine ih (V + 1) (by omega) (some r) (e8 ▸ neS_ok2 hR (by omega) hp) _ _ _ _ Fs3 (fun U => sa_sa) (fun j hj => dD_62 hj) ho4 (fun v9 o9 h9 e9 F9 ol9 o49 f9 => hq v9 o9 h9 ?_ F9 ol9 o49 (am_fpT f9 (am_fpT (fun k (hk : k < 69 ∨ 92 ≤ k) => fz4 k (by omega)) am_fp0)))
        rw [e9]; exact congrArg (fun z => orN (opN (neM N m (V + 1) z))) e8.symm
set_option maxHeartbeats 4000000 in
set_option maxRecDepth 100000 in
theorem M_terms {X : List Int32} {d rc rs n : Nat} {Q : am_Q} {h : am_H} {o N : Nat → Int32} {a : Nat → Nat → Int32} {fr c : Nat} {w : Int32} (F : MR o N a h) (hR : RG N fr c) (ho4 : o 4 = -1) (hq : ∀ v9 o9 a9 h9, v9 = trV N w → MR o9 N a9 h9 → ol6 o9 o → alT a9 a → am_fp (fun k => k < 69 ∨ 92 ≤ k) h9 h → Q (some (.int v9)) n h9) : AW X mX8_terms (d + 13) rc rs 0 [some (.ref 69), some (.int w), none, none, none, none] [] n h Q := by
  have h8r := hR.2.1
  have h14r := hR.2.2.2.1
  refine aw_iload_n (npc := 1) rfl dX8_terms_0 rfl ?_
  refine aw_iconst (npc := 2) (v := 0) (by decide) dX8_terms_1 rfl ?_
  refine aw_iconst (npc := 3) (v := 1) (by decide) dX8_terms_2 rfl ?_
  refine aw_callS (npc := 6) (N := mX8_in) (mc := 0) (ms := 0) (A := [.int w, .int 0, .int 1]) (S := []) (L0 := [some (.int w), some (.int 0), some (.int 1)]) dX8_terms_3 rfl km_X8_in kk_X8_83 rfl ⟨rfl, by decide⟩ rfl (Nat.le_of_ble_eq_true rfl) (Nat.zero_add _) (Nat.zero_add _) rfl ?_
  refine c_X8_in (fun hw1 => ?_) (fun hw1 => ?_)
  · rcases wi_c0_1 hw1 with rfl | rfl
    · refine aw_re (S' := [.int 1]) rfl ?_
      refine aw_if_ne (npc := 9) (tgt := 12) dX8_terms_6 rfl (by decide) (fun _ => ?_) (fun hc => absurd hc (by decide))
      refine aw_aload_n (npc := 13) rfl dX8_terms_12 rfl ?_
      refine aw_callV (npc := 16) (N := mX8_thinks) (b := 69) (mc := 0) (ms := 0) (A := []) (S := []) (L0 := [some (.ref 69), none]) dX8_terms_13 rfl km_X8_thinks kk_X8_169 F.1 ⟨by decide, rfl⟩ rfl ⟨rfl, by decide⟩ rfl (Nat.le_of_ble_eq_true rfl) (Nat.zero_add _) (Nat.zero_add _) rfl ?_
      refine m_thinks F (fun aT2 hp3 F4 eT5 cT6 fz7 => ?_)
      refine aw_iconst (npc := 17) (v := -1) (by decide) dX8_terms_16 rfl ?_
      refine aw_istore_n (npc := 18) (L' := [some (.ref 69), some (.int 0), some (.int (-1)), none, none, none]) dX8_terms_17 rfl (by decide) rfl rfl ?_
      refine aw_iconst (npc := 19) (v := 0) (by decide) dX8_terms_18 rfl ?_
      refine aw_istore_n (npc := 20) (L' := [some (.ref 69), some (.int 0), some (.int (-1)), some (.int 0), none, none]) dX8_terms_19 rfl (by decide) rfl rfl ?_
      refine aw_iconst (npc := 21) (v := 0) (by decide) dX8_terms_20 rfl ?_
      refine aw_istore (npc := 23) (L' := [some (.ref 69), some (.int 0), some (.int (-1)), some (.int 0), some (.int 0), none]) dX8_terms_21 rfl (by decide) rfl rfl ?_
      refine aw_locs (L' := [some (.ref 69), some (.int 0), some (.int (opN none)), some (.int (g2N none)), some (.int (nI 0)), none]) rfl ?_
      refine M_term0L (N := N) eT5 hR 10000 0 (by omega) none (fun q z => by cases z) none _ _ _ F4 (fun _ => sa_d) (fun _ _ => rfl) ho4 (fun v9 o9 h9 e9 F9 ol9 o49 f9 => hq v9 o9 _ h9 (by rw [e9]; simp [trV, cI]) F9 (ol_end ol9 (o49.trans ho4.symm)) (alT_t (alT_4 cT6) alT_0) (am_fpT f9 (am_fpT (fun k (hk : k < 69 ∨ 92 ≤ k) => fz7 k (by omega)) am_fp0)))
    · refine aw_re (S' := [.int 1]) rfl ?_
      refine aw_if_ne (npc := 9) (tgt := 12) dX8_terms_6 rfl (by decide) (fun _ => ?_) (fun hc => absurd hc (by decide))
      refine aw_aload_n (npc := 13) rfl dX8_terms_12 rfl ?_
      refine aw_callV (npc := 16) (N := mX8_thinks) (b := 69) (mc := 0) (ms := 0) (A := []) (S := []) (L0 := [some (.ref 69), none]) dX8_terms_13 rfl km_X8_thinks kk_X8_169 F.1 ⟨by decide, rfl⟩ rfl ⟨rfl, by decide⟩ rfl (Nat.le_of_ble_eq_true rfl) (Nat.zero_add _) (Nat.zero_add _) rfl ?_
      refine m_thinks F (fun aT8 hp9 F10 eT11 cT12 fz13 => ?_)
      refine aw_iconst (npc := 17) (v := -1) (by decide) dX8_terms_16 rfl ?_
      refine aw_istore_n (npc := 18) (L' := [some (.ref 69), some (.int 1), some (.int (-1)), none, none, none]) dX8_terms_17 rfl (by decide) rfl rfl ?_
      refine aw_iconst (npc := 19) (v := 0) (by decide) dX8_terms_18 rfl ?_
      refine aw_istore_n (npc := 20) (L' := [some (.ref 69), some (.int 1), some (.int (-1)), some (.int 0), none, none]) dX8_terms_19 rfl (by decide) rfl rfl ?_
      refine aw_iconst (npc := 21) (v := 0) (by decide) dX8_terms_20 rfl ?_
      refine aw_istore (npc := 23) (L' := [some (.ref 69), some (.int 1), some (.int (-1)), some (.int 0), some (.int 0), none]) dX8_terms_21 rfl (by decide) rfl rfl ?_
      refine aw_locs (L' := [some (.ref 69), some (.int 1), some (.int (opN none)), some (.int (k2N none)), some (.int (nI 0)), none]) rfl ?_
      refine M_term1L (N := N) eT11 hR 10000 0 (by omega) none (fun q z => by cases z) none _ _ _ F10 (fun _ => sa_d) (fun _ _ => rfl) ho4 (fun v9 o9 h9 e9 F9 ol9 o49 f9 => hq v9 o9 _ h9 (by rw [e9]; simp [trV, cI]) F9 (ol_end ol9 (o49.trans ho4.symm)) (alT_t (alT_4 cT12) alT_0) (am_fpT f9 (am_fpT (fun k (hk : k < 69 ∨ 92 ≤ k) => fz13 k (by omega)) am_fp0)))
  · refine aw_re (S' := [.int 0]) rfl ?_
    refine aw_if_ne (npc := 9) (tgt := 12) dX8_terms_6 rfl (by decide) (fun hc => absurd (by decide) hc) (fun _ => ?_)
    refine aw_ldc (npc := 11) kc_X8_91 dX8_terms_9 rfl ?_
    refine aw_iret rfl dX8_terms_11 ?_
    exact hq _ _ _ _ (by simp [trV, cI, hw1, nwi_1 hw1 (k := 0) ⟨by decide, by decide⟩, nwi_1 hw1 (k := 1) ⟨by decide, by decide⟩]) F (fun _ _ => rfl) alT_0 am_fp0
