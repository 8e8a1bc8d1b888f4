theorem wv_o {N : Nat → Int32} {V : Nat} {h : am_H} (H : WV N V h) : h 37 = some (.inr (6, [.ref 38, .int (hs0 (dD N V)), .int (hs1 (dD N V))])) := by
  obtain ⟨wy, Y, -⟩ := H
  exact Y.1
theorem wv_frame {N : Nat → Int32} {V : Nat} {h h' : am_H} (H : WV N V h) (h0 : h' 37 = h 37) (h1 : h' 38 = h 38) : WV N V h' := by
  obtain ⟨wy, Y, r⟩ := H
  exact ⟨wy, wy_frame Y h0 h1, r⟩
theorem wvx_of {N : Nat → Int32} {V : Nat} {h : am_H} (H : WV N V h) : WVx h := by
  obtain ⟨wy, Y, r⟩ := H
  exact ⟨_, _, _, Y⟩
set_option maxHeartbeats 4000000 in
set_option maxRecDepth 100000 in
theorem C_takenL {X : List Int32} {d rc rs n : Nat} {Q : am_Q} {N : Nat → Int32} {tx : List Value} {lk mv : Nat → Int32} {fr c : Nat} (hR : RG N fr c) : ∀ (m V : Nat), V + m = 10000 → ∀ (s : Int32) (h : am_H), QR 1 N tx lk mv h → WV N V h → (∀ v9 h9, v9 = tkM N m V s → WVx h9 → am_fp (fun k => k < 37 ∨ 39 ≤ k) h9 h → Q (some (.int v9)) n h9) → AW X mX6_countTaken (d + 12) rc rs 9 [some (.ref 37), some (.ref 1), some (.int s), some (.int (nI V))] [] n h Q := by
  intro m
  induction m with
  | zero =>
    intro V hV s h F Y hq
    obtain rfl : V = 10000 := by omega
    refine aw_iload_n (npc := 10) rfl dX6_countTaken_9 rfl ?_
    refine aw_sipush (npc := 13) (v := 10000) (by decide) dX6_countTaken_10 rfl ?_
    refine aw_icmp_ge (npc := 16) (tgt := 38) dX6_countTaken_13 rfl (by decide) (fun _ => ?_) (fun hc => absurd (nI_le (a := 10000) (b := 10000) (by omega) (by omega)) hc)
    refine aw_iload_n (npc := 39) rfl dX6_countTaken_38 rfl ?_
    refine aw_iret rfl dX6_countTaken_39 ?_
    exact hq _ _ rfl (wvx_of Y) am_fp0
  | succ m ih =>
    intro V hV s h F Y hq
    refine aw_iload_n (npc := 10) rfl dX6_countTaken_9 rfl ?_
    refine aw_sipush (npc := 13) (v := 10000) (by decide) dX6_countTaken_10 rfl ?_
    refine aw_icmp_ge (npc := 16) (tgt := 38) dX6_countTaken_13 rfl (by decide) (fun hc => absurd hc (nI_ge (a := V) (b := 10000) (by omega) (by omega))) (fun _ => ?_)
    refine aw_aload_n (npc := 17) rfl dX6_countTaken_16 rfl ?_
    refine aw_aload_n (npc := 18) rfl dX6_countTaken_17 rfl ?_
    refine aw_callV (npc := 21) (N := mX6_spare) (b := 37) (mc := 0) (ms := 0) (A := [.ref 1]) (S := []) (L0 := [some (.ref 37), some (.ref 1)]) dX6_countTaken_18 rfl km_X6_spare kk_X6_26 (wv_o Y) ⟨by decide, rfl⟩ rfl ⟨rfl, by decide⟩ rfl (Nat.le_of_ble_eq_true rfl) (Nat.zero_add _) (Nat.zero_add _) rfl ?_
    refine c_spare F Y ?_
    refine aw_re (S' := [.int (spF N (dD N V))]) rfl ?_
    refine aw_if_lt (npc := 24) (tgt := 27) dX6_countTaken_21 rfl (by decide) (fun hc2 => ?_) (fun hc2 => ?_)
    · refine aw_aload_n (npc := 28) rfl dX6_countTaken_27 rfl ?_
      refine aw_aload_n (npc := 29) rfl dX6_countTaken_28 rfl ?_
      refine aw_callV (npc := 32) (N := mX6_step) (b := 37) (mc := 0) (ms := 0) (A := [.ref 1]) (S := []) (L0 := [some (.ref 37), some (.ref 1), none, none, none]) dX6_countTaken_29 rfl km_X6_step kk_X6_30 (wv_o Y) ⟨by decide, rfl⟩ rfl ⟨rfl, by decide⟩ rfl (Nat.le_of_ble_eq_true rfl) (Nat.zero_add _) (Nat.zero_add _) rfl ?_
      refine c_step F Y (fun hp3 Yn4 fz5 => ?_)
      have fyfz5 : ∀ k, (k < 37 ∨ 39 ≤ k) → hp3 k = _ := fun k hk => fz5 k hk
      have F6 := qr_frame F (fun k h1 h2 => fyfz5 k (by omega))
      refine aw_iinc (npc := 35) (v := nI (V + 1)) (L' := [some (.ref 37), some (.ref 1), some (.int s), some (.int (nI (V + 1)))]) dX6_countTaken_32 rfl rfl (nI_1 _) (by decide) rfl rfl ?_
      refine aw_goto (npc := 9) dX6_countTaken_35 (by decide) ?_
      have hp9 : ¬ peace (dD N V) := fun z => absurd hc2 (Int32.not_lt.mpr ((sp_pe hR).mpr z))
      refine ih (V + 1) (by omega) s _ F6 Yn4 (fun v9 h9 e9 Y9 f9 => hq v9 h9 ?_ Y9 (am_fpT f9 (am_fpT (fun k (hk : k < 37 ∨ 39 ≤ k) => fyfz5 k (by omega)) am_fp0)))
      rw [e9]; simp [tkM, cI, hp9]
    · refine aw_iinc (npc := 27) (v := s + 1) (L' := [some (.ref 37), some (.ref 1), some (.int (s + 1)), some (.int (nI V))]) dX6_countTaken_24 rfl rfl rfl (by decide) rfl rfl ?_
      refine aw_aload_n (npc := 28) rfl dX6_countTaken_27 rfl ?_
      refine aw_aload_n (npc := 29) rfl dX6_countTaken_28 rfl ?_
      refine aw_callV (npc := 32) (N := mX6_step) (b := 37) (mc := 0) (ms := 0) (A := [.ref 1]) (S := []) (L0 := [some (.ref 37), some (.ref 1), none, none, none]) dX6_countTaken_29 rfl km_X6_step kk_X6_30 (wv_o Y) ⟨by decide, rfl⟩ rfl ⟨rfl, by decide⟩ rfl (Nat.le_of_ble_eq_true rfl) (Nat.zero_add _) (Nat.zero_add _) rfl ?_
      refine c_step F Y (fun hp7 Yn8 fz9 => ?_)
      have fyfz9 : ∀ k, (k < 37 ∨ 39 ≤ k) → hp7 k = _ := fun k hk => fz9 k hk
      have F10 := qr_frame F (fun k h1 h2 => fyfz9 k (by omega))
      refine aw_iinc (npc := 35) (v := nI (V + 1)) (L' := [some (.ref 37), some (.ref 1), some (.int (s + 1)), some (.int (nI (V + 1)))]) dX6_countTaken_32 rfl rfl (nI_1 _) (by decide) rfl rfl ?_
      refine aw_goto (npc := 9) dX6_countTaken_35 (by decide) ?_
      have hp9 : peace (dD N V) := (sp_pe hR).mp (Int32.not_lt.mp hc2)
      refine ih (V + 1) (by omega) (s + 1) _ F10 Yn8 (fun v9 h9 e9 Y9 f9 => hq v9 h9 ?_ Y9 (am_fpT f9 (am_fpT (fun k (hk : k < 37 ∨ 39 ≤ k) => fyfz9 k (by omega)) am_fp0)))
      rw [e9]; simp [tkM, cI, hp9]
def f2N : Option (Nat × Int32) → Int32
  | none => -1
  | some p => p.2
theorem lt0_m1 {x : Int32} (h : x < 0) : x ≤ -1 := by
  have h1 := Int32.lt_iff_toInt_lt.mp h
  have z : (0 : Int32).toInt = 0 := rfl
  have z2 : (-1 : Int32).toInt = -1 := by decide
  exact Int32.le_iff_toInt_le.mpr (by omega)
theorem frS_ok {N : Nat → Int32} {fr c V : Nat} {p : Option (Nat × Int32)} (hR : RG N fr c) (hV : V < 10000) (hp : ∀ q, p = some q → q.1 < 10000 ∧ ¬ q.2 < 0) : ∀ q, frS N V p = some q → q.1 < 10000 ∧ ¬ q.2 < 0 := by
  intro q hq
  unfold frS at hq
  by_cases pe : peace (dD N V)
  · rw [cI_t pe] at hq
    have h0 := Int32.not_lt.mpr ((sp_pe hR).mpr pe)
    cases p with
    | none => have z := Option.some.inj hq; rw [← z]; exact ⟨hV, h0⟩
    | some r =>
      simp only at hq
      split at hq
      · have z := Option.some.inj hq; rw [← z]; exact ⟨hV, h0⟩
      · have z := Option.some.inj hq; rw [← z]; exact hp r rfl
  · rw [cI_f pe] at hq; exact hp q hq
theorem fr_stay {N : Nat → Int32} {fr c V : Nat} {p : Option (Nat × Int32)} (hR : RG N fr c) (h : spF N (dD N V) ≤ f2N p) (hp : ∀ q, p = some q → q.1 < 10000 ∧ ¬ q.2 < 0) : frS N V p = p := by
  unfold frS
  by_cases pe : peace (dD N V)
  · rw [cI_t pe]
    have h0 := (sp_pe hR).mpr pe
    cases p with
    | none => exact absurd (Int32.le_trans h0 h) (by decide)
    | some r => exact if_neg (Int32.not_lt.mpr h)
  · exact cI_f pe
theorem fr_new {N : Nat → Int32} {fr c V : Nat} {p : Option (Nat × Int32)} (hR : RG N fr c) (h : ¬ spF N (dD N V) ≤ f2N p) (hp : ∀ q, p = some q → q.1 < 10000 ∧ ¬ q.2 < 0) : frS N V p = some (V, spF N (dD N V)) := by
  have pe : peace (dD N V) := Classical.byContradiction (fun q => h (by
    have z : spF N (dD N V) < 0 := Int32.not_le.mp (fun z => q ((sp_pe hR).mp z))
    cases p with
    | none => exact lt0_m1 z
    | some r => exact Int32.le_of_lt (Int32.lt_of_lt_of_le z (Int32.not_lt.mp (hp r rfl).2))))
  unfold frS
  rw [cI_t pe]
  cases p with
  | none => rfl
  | some r => exact if_pos (Int32.not_le.mp h)
set_option maxHeartbeats 4000000 in
set_option maxRecDepth 100000 in
theorem C_fairL {X : List Int32} {d rc rs n : Nat} {Q : am_Q} {N : Nat → Int32} {tx : List Value} {lk mv : Nat → Int32} {fr c : Nat} (hR : RG N fr c) : ∀ (m V : Nat), V + m = 10000 → ∀ (p : Option (Nat × Int32)), (∀ q, p = some q → q.1 < 10000 ∧ ¬ q.2 < 0) → ∀ (v5 : Option Value) (h : am_H), QR 1 N tx lk mv h → WV N V h → (∀ v9 h9, v9 = opN (frM N m V p) → WVx h9 → am_fp (fun k => k < 37 ∨ 39 ≤ k) h9 h → Q (some (.int v9)) n h9) → AW X mX6_fairest (d + 12) rc rs 12 [some (.ref 37), some (.ref 1), some (.int (opN p)), some (.int (f2N p)), some (.int (nI V)), v5] [] n h Q := by
  intro m
  induction m with
  | zero =>
    intro V hV p hp v5 h F Y hq
    obtain rfl : V = 10000 := by omega
    refine aw_iload (npc := 14) rfl dX6_fairest_12 rfl ?_
    refine aw_sipush (npc := 17) (v := 10000) (by decide) dX6_fairest_14 rfl ?_
    refine aw_icmp_ge (npc := 20) (tgt := 50) dX6_fairest_17 rfl (by decide) (fun _ => ?_) (fun hc => absurd (nI_le (a := 10000) (b := 10000) (by omega) (by omega)) hc)
    refine aw_iload_n (npc := 51) rfl dX6_fairest_50 rfl ?_
    refine aw_iret rfl dX6_fairest_51 ?_
    exact hq _ _ rfl (wvx_of Y) am_fp0
  | succ m ih =>
    intro V hV p hp v5 h F Y hq
    refine aw_iload (npc := 14) rfl dX6_fairest_12 rfl ?_
    refine aw_sipush (npc := 17) (v := 10000) (by decide) dX6_fairest_14 rfl ?_
    refine aw_icmp_ge (npc := 20) (tgt := 50) dX6_fairest_17 rfl (by decide) (fun hc => absurd hc (nI_ge (a := V) (b := 10000) (by omega) (by omega))) (fun _ => ?_)
    refine aw_aload_n (npc := 21) rfl dX6_fairest_20 rfl ?_
    refine aw_aload_n (npc := 22) rfl dX6_fairest_21 rfl ?_
    refine aw_callV (npc := 25) (N := mX6_spare) (b := 37) (mc := 0) (ms := 0) (A := [.ref 1]) (S := []) (L0 := [some (.ref 37), some (.ref 1)]) dX6_fairest_22 rfl km_X6_spare kk_X6_26 (wv_o Y) ⟨by decide, rfl⟩ rfl ⟨rfl, by decide⟩ rfl (Nat.le_of_ble_eq_true rfl) (Nat.zero_add _) (Nat.zero_add _) rfl ?_
    refine c_spare F Y ?_
    refine aw_re (S' := [.int (spF N (dD N V))]) rfl ?_
    refine aw_istore (npc := 27) (L' := [some (.ref 37), some (.ref 1), some (.int (opN p)), some (.int (f2N p)), some (.int (nI V)), some (.int (spF N (dD N V)))]) dX6_fairest_25 rfl (by decide) rfl rfl ?_
    refine aw_iload (npc := 29) rfl dX6_fairest_27 rfl ?_
    refine aw_iload_n (npc := 30) rfl dX6_fairest_29 rfl ?_
    refine aw_icmp_le (npc := 33) (tgt := 39) dX6_fairest_30 rfl (by decide) (fun hc2 => ?_) (fun hc2 => ?_)
    · refine aw_aload_n (npc := 40) rfl dX6_fairest_39 rfl ?_
      refine aw_aload_n (npc := 41) rfl dX6_fairest_40 rfl ?_
      refine aw_callV (npc := 44) (N := mX6_step) (b := 37) (mc := 0) (ms := 0) (A := [.ref 1]) (S := []) (L0 := [some (.ref 37), some (.ref 1), none, none, none]) dX6_fairest_41 rfl km_X6_step kk_X6_30 (wv_o Y) ⟨by decide, rfl⟩ rfl ⟨rfl, by decide⟩ rfl (Nat.le_of_ble_eq_true rfl) (Nat.zero_add _) (Nat.zero_add _) rfl ?_
      refine c_step F Y (fun hp3 Yn4 fz5 => ?_)
      have fyfz5 : ∀ k, (k < 37 ∨ 39 ≤ k) → hp3 k = _ := fun k hk => fz5 k hk
      have F6 := qr_frame F (fun k h1 h2 => fyfz5 k (by omega))
      refine aw_iinc (npc := 47) (v := nI (V + 1)) (L' := [some (.ref 37), some (.ref 1), some (.int (opN p)), some (.int (f2N p)), some (.int (nI (V + 1))), some (.int (spF N (dD N V)))]) dX6_fairest_44 rfl rfl (nI_1 _) (by decide) rfl rfl ?_
      refine aw_goto (npc := 12) dX6_fairest_47 (by decide) ?_
      have e8 : frS N V p = p := fr_stay hR hc2 hp
      refine ih (V + 1) (by omega) (p) (e8 ▸ frS_ok hR (by omega) hp) _ _ F6 Yn4 (fun v9 h9 e9 Y9 f9 => hq v9 h9 ?_ Y9 (am_fpT f9 (am_fpT (fun k (hk : k < 37 ∨ 39 ≤ k) => fyfz5 k (by omega)) am_fp0)))
      rw [e9]; exact congrArg (fun z => opN (frM N m (V + 1) z)) e8.symm
    · refine aw_iload (npc := 35) rfl dX6_fairest_33 rfl ?_
      refine aw_istore_n (npc := 36) (L' := [some (.ref 37), some (.ref 1), some (.int (nI V)), some (.int (f2N p)), some (.int (nI V)), some (.int (spF N (dD N V)))]) dX6_fairest_35 rfl (by decide) rfl rfl ?_
      refine aw_iload (npc := 38) rfl dX6_fairest_36 rfl ?_
      refine aw_istore_n (npc := 39) (L' := [some (.ref 37), some (.ref 1), some (.int (nI V)), some (.int (spF N (dD N V))), some (.int (nI V)), some (.int (spF N (dD N V)))]) dX6_fairest_38 rfl (by decide) rfl rfl ?_
      refine aw_aload_n (npc := 40) rfl dX6_fairest_39 rfl ?_
      refine aw_aload_n (npc := 41) rfl dX6_fairest_40 rfl ?_
      refine aw_callV (npc := 44) (N := mX6_step) (b := 37) (mc := 0) (ms := 0) (A := [.ref 1]) (S := []) (L0 := [some (.ref 37), some (.ref 1), none, none, none]) dX6_fairest_41 rfl km_X6_step kk_X6_30 (wv_o Y) ⟨by decide, rfl⟩ rfl ⟨rfl, by decide⟩ rfl (Nat.le_of_ble_eq_true rfl) (Nat.zero_add _) (Nat.zero_add _) rfl ?_
      refine c_step F Y (fun hp7 Yn8 fz9 => ?_)
      have fyfz9 : ∀ k, (k < 37 ∨ 39 ≤ k) → hp7 k = _ := fun k hk => fz9 k hk
      have F10 := qr_frame F (fun k h1 h2 => fyfz9 k (by omega))
      refine aw_iinc (npc := 47) (v := nI (V + 1)) (L' := [some (.ref 37), some (.ref 1), some (.int (nI V)), some (.int (spF N (dD N V))), some (.int (nI (V + 1))), some (.int (spF N (dD N V)))]) dX6_fairest_44 rfl rfl (nI_1 _) (by decide) rfl rfl ?_
      refine aw_goto (npc := 12) dX6_fairest_47 (by decide) ?_
      have e8 : frS N V p = some (V, spF N (dD N V)) := fr_new hR hc2 hp
      refine aw_locs (L' := [some (.ref 37), some (.ref 1), some (.int (opN (some (V, spF N (dD N V))))), some (.int (f2N (some (V, spF N (dD N V))))), some (.int (nI (V + 1))), some (.int (spF N (dD N V)))]) rfl ?_
      refine ih (V + 1) (by omega) (some (V, spF N (dD N V))) (e8 ▸ frS_ok hR (by omega) hp) _ _ F10 Yn8 (fun v9 h9 e9 Y9 f9 => hq v9 h9 ?_ Y9 (am_fpT f9 (am_fpT (fun k (hk : k < 37 ∨ 39 ≤ k) => fyfz9 k (by omega)) am_fp0)))
      rw [e9]; exact congrArg (fun z => opN (frM N m (V + 1) z)) e8.symm
def n2N : Option (Nat × Int32) → Int32
  | none => 0
  | some p => p.2
theorem neS_ok {N : Nat → Int32} {V : Nat} {p : Option (Nat × Int32)} (hV : V < 10000) (hp : ∀ q, p = some q → q.1 < 10000) : ∀ q, neS N V p = some q → q.1 < 10000 := by
  intro q hq
  unfold neS at hq
  by_cases pe : peace (dD N V)
  · rw [cI_t pe] at hq
    cases p with
    | none => have z := Option.some.inj hq; rw [← z]; exact hV
    | some r =>
      simp only at hq
      split at hq
      · have z := Option.some.inj hq; rw [← z]; exact hV
      · have z := Option.some.inj hq; rw [← z]; exact hp r rfl
  · rw [cI_f pe] at hq; exact hp q hq
set_option maxHeartbeats 4000000 in
set_option maxRecDepth 100000 in
theorem C_nearL {X : List Int32} {d rc rs n : Nat} {Q : am_Q} {N : Nat → Int32} {tx : List Value} {lk mv : Nat → Int32} {fr c : Nat} (hR : RG N fr c) : ∀ (m V : Nat), V + m = 10000 → ∀ (p : Option (Nat × Int32)), (∀ q, p = some q → q.1 < 10000) → ∀ (v5 : Option Value) (h : am_H), QR 1 N tx lk mv h → WV N V h → (∀ v9 h9, v9 = opN (neM N m V p) → WVx h9 → am_fp (fun k => k < 37 ∨ 39 ≤ k) h9 h → Q (some (.int v9)) n h9) → AW X mX6_nearest (d + 12) rc rs 12 [some (.ref 37), some (.ref 1), some (.int (opN p)), some (.int (n2N p)), some (.int (nI V)), v5] [] n h Q := by
  intro m
  induction m with
  | zero =>
    intro V hV p hp v5 h F Y hq
    obtain rfl : V = 10000 := by omega
    refine aw_iload (npc := 14) rfl dX6_nearest_12 rfl ?_
    refine aw_sipush (npc := 17) (v := 10000) (by decide) dX6_nearest_14 rfl ?_
    refine aw_icmp_ge (npc := 20) (tgt := 62) dX6_nearest_17 rfl (by decide) (fun _ => ?_) (fun hc => absurd (nI_le (a := 10000) (b := 10000) (by omega) (by omega)) hc)
    refine aw_iload_n (npc := 63) rfl dX6_nearest_62 rfl ?_
    refine aw_iret rfl dX6_nearest_63 ?_
    exact hq _ _ rfl (wvx_of Y) am_fp0
  | succ m ih =>
    intro V hV p hp v5 h F Y hq
    cases p with
    | none =>
      show AW X mX6_nearest (d + 12) rc rs 12 [some (.ref 37), some (.ref 1), some (.int (-1)), some (.int 0), some (.int (nI V)), v5] [] n h Q
      refine aw_iload (npc := 14) rfl dX6_nearest_12 rfl ?_
      refine aw_sipush (npc := 17) (v := 10000) (by decide) dX6_nearest_14 rfl ?_
      refine aw_icmp_ge (npc := 20) (tgt := 62) dX6_nearest_17 rfl (by decide) (fun hc => absurd hc (nI_ge (a := V) (b := 10000) (by omega) (by omega))) (fun _ => ?_)
      refine aw_aload_n (npc := 21) rfl dX6_nearest_20 rfl ?_
      refine aw_aload_n (npc := 22) rfl dX6_nearest_21 rfl ?_
      refine aw_callV (npc := 25) (N := mX6_spare) (b := 37) (mc := 0) (ms := 0) (A := [.ref 1]) (S := []) (L0 := [some (.ref 37), some (.ref 1)]) dX6_nearest_22 rfl km_X6_spare kk_X6_26 (wv_o Y) ⟨by decide, rfl⟩ rfl ⟨rfl, by decide⟩ rfl (Nat.le_of_ble_eq_true rfl) (Nat.zero_add _) (Nat.zero_add _) rfl ?_
      refine c_spare F Y ?_
      refine aw_re (S' := [.int (spF N (dD N V))]) rfl ?_
      refine aw_if_lt (npc := 28) (tgt := 51) dX6_nearest_25 rfl (by decide) (fun hc2 => ?_) (fun hc2 => ?_)
      · refine aw_aload_n (npc := 52) rfl dX6_nearest_51 rfl ?_
        refine aw_aload_n (npc := 53) rfl dX6_nearest_52 rfl ?_
        refine aw_callV (npc := 56) (N := mX6_step) (b := 37) (mc := 0) (ms := 0) (A := [.ref 1]) (S := []) (L0 := [some (.ref 37), some (.ref 1), none, none, none]) dX6_nearest_53 rfl km_X6_step kk_X6_30 (wv_o Y) ⟨by decide, rfl⟩ rfl ⟨rfl, by decide⟩ rfl (Nat.le_of_ble_eq_true rfl) (Nat.zero_add _) (Nat.zero_add _) rfl ?_
        refine c_step F Y (fun hp3 Yn4 fz5 => ?_)
        have fyfz5 : ∀ k, (k < 37 ∨ 39 ≤ k) → hp3 k = _ := fun k hk => fz5 k hk
        have F6 := qr_frame F (fun k h1 h2 => fyfz5 k (by omega))
        refine aw_iinc (npc := 59) (v := nI (V + 1)) (L' := [some (.ref 37), some (.ref 1), some (.int (-1)), some (.int 0), some (.int (nI (V + 1))), v5]) dX6_nearest_56 rfl rfl (nI_1 _) (by decide) rfl rfl ?_
        refine aw_goto (npc := 12) dX6_nearest_59 (by decide) ?_
        have e8 : neS N V none = none := cI_f (fun z => absurd hc2 (Int32.not_lt.mpr ((sp_pe hR).mpr z)))
        refine aw_locs (L' := [some (.ref 37), some (.ref 1), some (.int (opN (none))), some (.int (n2N (none))), some (.int (nI (V + 1))), v5]) rfl ?_
        refine ih (V + 1) (by omega) (none) (e8 ▸ neS_ok (by omega) hp) _ _ F6 Yn4 (fun v9 h9 e9 Y9 f9 => hq v9 h9 ?_ Y9 (am_fpT f9 (am_fpT (fun k (hk : k < 37 ∨ 39 ≤ k) => fyfz5 k (by omega)) am_fp0)))
        rw [e9]; exact congrArg (fun z => opN (neM N m (V + 1) z)) e8.symm
      · refine aw_aload_n (npc := 29) rfl dX6_nearest_28 rfl ?_
        refine aw_aload_n (npc := 30) rfl dX6_nearest_29 rfl ?_
        refine aw_callV (npc := 33) (N := mX6_distanceTo) (b := 37) (mc := 0) (ms := 0) (A := [.ref 1]) (S := []) (L0 := [some (.ref 37), some (.ref 1), none, none]) dX6_nearest_30 rfl km_X6_distanceTo kk_X6_33 (wv_o Y) ⟨by decide, rfl⟩ rfl ⟨rfl, by decide⟩ rfl (Nat.le_of_ble_eq_true rfl) (Nat.zero_add _) (Nat.zero_add _) rfl ?_
        refine c_dist F Y ?_
        refine aw_re (S' := [.int (diF N (dD N V))]) rfl ?_
        refine aw_istore (npc := 35) (L' := [some (.ref 37), some (.ref 1), some (.int (-1)), some (.int 0), some (.int (nI V)), some (.int (diF N (dD N V)))]) dX6_nearest_33 rfl (by decide) rfl rfl ?_
        refine aw_iload_n (npc := 36) rfl dX6_nearest_35 rfl ?_
        refine aw_if_lt (npc := 39) (tgt := 45) dX6_nearest_36 rfl (by decide) (fun _ => ?_) (fun hc => absurd (by decide) hc)
        refine aw_iload (npc := 47) rfl dX6_nearest_45 rfl ?_
        refine aw_istore_n (npc := 48) (L' := [some (.ref 37), some (.ref 1), some (.int (nI V)), some (.int 0), some (.int (nI V)), some (.int (diF N (dD N V)))]) dX6_nearest_47 rfl (by decide) rfl rfl ?_
        refine aw_iload (npc := 50) rfl dX6_nearest_48 rfl ?_
        refine aw_istore_n (npc := 51) (L' := [some (.ref 37), some (.ref 1), some (.int (nI V)), some (.int (diF N (dD N V))), some (.int (nI V)), some (.int (diF N (dD N V)))]) dX6_nearest_50 rfl (by decide) rfl rfl ?_
        refine aw_aload_n (npc := 52) rfl dX6_nearest_51 rfl ?_
        refine aw_aload_n (npc := 53) rfl dX6_nearest_52 rfl ?_
        refine aw_callV (npc := 56) (N := mX6_step) (b := 37) (mc := 0) (ms := 0) (A := [.ref 1]) (S := []) (L0 := [some (.ref 37), some (.ref 1), none, none, none]) dX6_nearest_53 rfl km_X6_step kk_X6_30 (wv_o Y) ⟨by decide, rfl⟩ rfl ⟨rfl, by decide⟩ rfl (Nat.le_of_ble_eq_true rfl) (Nat.zero_add _) (Nat.zero_add _) rfl ?_
        refine c_step F Y (fun hp7 Yn8 fz9 => ?_)
        have fyfz9 : ∀ k, (k < 37 ∨ 39 ≤ k) → hp7 k = _ := fun k hk => fz9 k hk
        have F10 := qr_frame F (fun k h1 h2 => fyfz9 k (by omega))
        refine aw_iinc (npc := 59) (v := nI (V + 1)) (L' := [some (.ref 37), some (.ref 1), some (.int (nI V)), some (.int (diF N (dD N V))), some (.int (nI (V + 1))), some (.int (diF N (dD N V)))]) dX6_nearest_56 rfl rfl (nI_1 _) (by decide) rfl rfl ?_
        refine aw_goto (npc := 12) dX6_nearest_59 (by decide) ?_
        have e8 : neS N V none = some (V, diF N (dD N V)) := cI_t ((sp_pe hR).mp (Int32.not_lt.mp hc2))
        refine aw_locs (L' := [some (.ref 37), some (.ref 1), some (.int (opN (some (V, diF N (dD N V))))), some (.int (n2N (some (V, diF N (dD N V))))), some (.int (nI (V + 1))), some (.int (diF N (dD N V)))]) rfl ?_
        refine ih (V + 1) (by omega) (some (V, diF N (dD N V))) (e8 ▸ neS_ok (by omega) hp) _ _ F10 Yn8 (fun v9 h9 e9 Y9 f9 => hq v9 h9 ?_ Y9 (am_fpT f9 (am_fpT (fun k (hk : k < 37 ∨ 39 ≤ k) => fyfz9 k (by omega)) am_fp0)))
        rw [e9]; exact congrArg (fun z => opN (neM N m (V + 1) z)) e8.symm
    | some r =>
      have hp8 := hp r rfl
      show AW X mX6_nearest (d + 12) rc rs 12 [some (.ref 37), some (.ref 1), some (.int (nI r.1)), some (.int r.2), some (.int (nI V)), v5] [] n h Q
      refine aw_iload (npc := 14) rfl dX6_nearest_12 rfl ?_
      refine aw_sipush (npc := 17) (v := 10000) (by decide) dX6_nearest_14 rfl ?_
      refine aw_icmp_ge (npc := 20) (tgt := 62) dX6_nearest_17 rfl (by decide) (fun hc => absurd hc (nI_ge (a := V) (b := 10000) (by omega) (by omega))) (fun _ => ?_)
      refine aw_aload_n (npc := 21) rfl dX6_nearest_20 rfl ?_
      refine aw_aload_n (npc := 22) rfl dX6_nearest_21 rfl ?_
      refine aw_callV (npc := 25) (N := mX6_spare) (b := 37) (mc := 0) (ms := 0) (A := [.ref 1]) (S := []) (L0 := [some (.ref 37), some (.ref 1)]) dX6_nearest_22 rfl km_X6_spare kk_X6_26 (wv_o Y) ⟨by decide, rfl⟩ rfl ⟨rfl, by decide⟩ rfl (Nat.le_of_ble_eq_true rfl) (Nat.zero_add _) (Nat.zero_add _) rfl ?_
      refine c_spare F Y ?_
      refine aw_re (S' := [.int (spF N (dD N V))]) rfl ?_
      refine aw_if_lt (npc := 28) (tgt := 51) dX6_nearest_25 rfl (by decide) (fun hc2 => ?_) (fun hc2 => ?_)
      · refine aw_aload_n (npc := 52) rfl dX6_nearest_51 rfl ?_
        refine aw_aload_n (npc := 53) rfl dX6_nearest_52 rfl ?_
        refine aw_callV (npc := 56) (N := mX6_step) (b := 37) (mc := 0) (ms := 0) (A := [.ref 1]) (S := []) (L0 := [some (.ref 37), some (.ref 1), none, none, none]) dX6_nearest_53 rfl km_X6_step kk_X6_30 (wv_o Y) ⟨by decide, rfl⟩ rfl ⟨rfl, by decide⟩ rfl (Nat.le_of_ble_eq_true rfl) (Nat.zero_add _) (Nat.zero_add _) rfl ?_
        refine c_step F Y (fun hp3 Yn4 fz5 => ?_)
        have fyfz5 : ∀ k, (k < 37 ∨ 39 ≤ k) → hp3 k = _ := fun k hk => fz5 k hk
        have F6 := qr_frame F (fun k h1 h2 => fyfz5 k (by omega))
        refine aw_iinc (npc := 59) (v := nI (V + 1)) (L' := [some (.ref 37), some (.ref 1), some (.int (nI r.1)), some (.int r.2), some (.int (nI (V + 1))), v5]) dX6_nearest_56 rfl rfl (nI_1 _) (by decide) rfl rfl ?_
        refine aw_goto (npc := 12) dX6_nearest_59 (by decide) ?_
        have e8 : neS N V (some r) = some r := cI_f (fun z => absurd hc2 (Int32.not_lt.mpr ((sp_pe hR).mpr z)))
        refine aw_locs (L' := [some (.ref 37), some (.ref 1), some (.int (opN (some r))), some (.int (n2N (some r))), some (.int (nI (V + 1))), v5]) rfl ?_
        refine ih (V + 1) (by omega) (some r) (e8 ▸ neS_ok (by omega) hp) _ _ F6 Yn4 (fun v9 h9 e9 Y9 f9 => hq v9 h9 ?_ Y9 (am_fpT f9 (am_fpT (fun k (hk : k < 37 ∨ 39 ≤ k) => fyfz5 k (by omega)) am_fp0)))
        rw [e9]; exact congrArg (fun z => opN (neM N m (V + 1) z)) e8.symm
      · refine aw_aload_n (npc := 29) rfl dX6_nearest_28 rfl ?_
        refine aw_aload_n (npc := 30) rfl dX6_nearest_29 rfl ?_
        refine aw_callV (npc := 33) (N := mX6_distanceTo) (b := 37) (mc := 0) (ms := 0) (A := [.ref 1]) (S := []) (L0 := [some (.ref 37), some (.ref 1), none, none]) dX6_nearest_30 rfl km_X6_distanceTo kk_X6_33 (wv_o Y) ⟨by decide, rfl⟩ rfl ⟨rfl, by decide⟩ rfl (Nat.le_of_ble_eq_true rfl) (Nat.zero_add _) (Nat.zero_add _) rfl ?_
        refine c_dist F Y ?_
        refine aw_re (S' := [.int (diF N (dD N V))]) rfl ?_
        refine aw_istore (npc := 35) (L' := [some (.ref 37), some (.ref 1), some (.int (nI r.1)), some (.int r.2), some (.int (nI V)), some (.int (diF N (dD N V)))]) dX6_nearest_33 rfl (by decide) rfl rfl ?_
        refine aw_iload_n (npc := 36) rfl dX6_nearest_35 rfl ?_
        refine aw_if_lt (npc := 39) (tgt := 45) dX6_nearest_36 rfl (by decide) (fun hc => absurd hc (nI_pos (by omega))) (fun _ => ?_)
        refine aw_iload (npc := 41) rfl dX6_nearest_39 rfl ?_
        refine aw_iload_n (npc := 42) rfl dX6_nearest_41 rfl ?_
        refine aw_icmp_ge (npc := 45) (tgt := 51) dX6_nearest_42 rfl (by decide) (fun hc8 => ?_) (fun hc8 => ?_)
        · refine aw_aload_n (npc := 52) rfl dX6_nearest_51 rfl ?_
          refine aw_aload_n (npc := 53) rfl dX6_nearest_52 rfl ?_
          refine aw_callV (npc := 56) (N := mX6_step) (b := 37) (mc := 0) (ms := 0) (A := [.ref 1]) (S := []) (L0 := [some (.ref 37), some (.ref 1), none, none, none]) dX6_nearest_53 rfl km_X6_step kk_X6_30 (wv_o Y) ⟨by decide, rfl⟩ rfl ⟨rfl, by decide⟩ rfl (Nat.le_of_ble_eq_true rfl) (Nat.zero_add _) (Nat.zero_add _) rfl ?_
          refine c_step F Y (fun hp9 Yn10 fz11 => ?_)
          have fyfz11 : ∀ k, (k < 37 ∨ 39 ≤ k) → hp9 k = _ := fun k hk => fz11 k hk
          have F12 := qr_frame F (fun k h1 h2 => fyfz11 k (by omega))
          refine aw_iinc (npc := 59) (v := nI (V + 1)) (L' := [some (.ref 37), some (.ref 1), some (.int (nI r.1)), some (.int r.2), some (.int (nI (V + 1))), some (.int (diF N (dD N V)))]) dX6_nearest_56 rfl rfl (nI_1 _) (by decide) rfl rfl ?_
          refine aw_goto (npc := 12) dX6_nearest_59 (by decide) ?_
          have e8 : neS N V (some r) = some r := (cI_t ((sp_pe hR).mp (Int32.not_lt.mp hc2))).trans (if_neg (Int32.not_lt.mpr hc8))
          refine aw_locs (L' := [some (.ref 37), some (.ref 1), some (.int (opN (some r))), some (.int (n2N (some r))), some (.int (nI (V + 1))), some (.int (diF N (dD N V)))]) rfl ?_
          refine ih (V + 1) (by omega) (some r) (e8 ▸ neS_ok (by omega) hp) _ _ F12 Yn10 (fun v9 h9 e9 Y9 f9 => hq v9 h9 ?_ Y9 (am_fpT f9 (am_fpT (fun k (hk : k < 37 ∨ 39 ≤ k) => fyfz11 k (by omega)) am_fp0)))
          rw [e9]; exact congrArg (fun z => opN (neM N m (V + 1) z)) e8.symm
        · refine aw_iload (npc := 47) rfl dX6_nearest_45 rfl ?_
          refine aw_istore_n (npc := 48) (L' := [some (.ref 37), some (.ref 1), some (.int (nI V)), some (.int r.2), some (.int (nI V)), some (.int (diF N (dD N V)))]) dX6_nearest_47 rfl (by decide) rfl rfl ?_
          refine aw_iload (npc := 50) rfl dX6_nearest_48 rfl ?_
          refine aw_istore_n (npc := 51) (L' := [some (.ref 37), some (.ref 1), some (.int (nI V)), some (.int (diF N (dD N V))), some (.int (nI V)), some (.int (diF N (dD N V)))]) dX6_nearest_50 rfl (by decide) rfl rfl ?_
          refine aw_aload_n (npc := 52) rfl dX6_nearest_51 rfl ?_
          refine aw_aload_n (npc := 53) rfl dX6_nearest_52 rfl ?_
          refine aw_callV (npc := 56) (N := mX6_step) (b := 37) (mc := 0) (ms := 0) (A := [.ref 1]) (S := []) (L0 := [some (.ref 37), some (.ref 1), none, none, none]) dX6_nearest_53 rfl km_X6_step kk_X6_30 (wv_o Y) ⟨by decide, rfl⟩ rfl ⟨rfl, by decide⟩ rfl (Nat.le_of_ble_eq_true rfl) (Nat.zero_add _) (Nat.zero_add _) rfl ?_
          refine c_step F Y (fun hp13 Yn14 fz15 => ?_)
          have fyfz15 : ∀ k, (k < 37 ∨ 39 ≤ k) → hp13 k = _ := fun k hk => fz15 k hk
          have F16 := qr_frame F (fun k h1 h2 => fyfz15 k (by omega))
          refine aw_iinc (npc := 59) (v := nI (V + 1)) (L' := [some (.ref 37), some (.ref 1), some (.int (nI V)), some (.int (diF N (dD N V))), some (.int (nI (V + 1))), some (.int (diF N (dD N V)))]) dX6_nearest_56 rfl rfl (nI_1 _) (by decide) rfl rfl ?_
          refine aw_goto (npc := 12) dX6_nearest_59 (by decide) ?_
          have e8 : neS N V (some r) = some (V, diF N (dD N V)) := (cI_t ((sp_pe hR).mp (Int32.not_lt.mp hc2))).trans (if_pos (Int32.not_le.mp hc8))
          refine aw_locs (L' := [some (.ref 37), some (.ref 1), some (.int (opN (some (V, diF N (dD N V))))), some (.int (n2N (some (V, diF N (dD N V))))), some (.int (nI (V + 1))), some (.int (diF N (dD N V)))]) rfl ?_
          refine ih (V + 1) (by omega) (some (V, diF N (dD N V))) (e8 ▸ neS_ok (by omega) hp) _ _ F16 Yn14 (fun v9 h9 e9 Y9 f9 => hq v9 h9 ?_ Y9 (am_fpT f9 (am_fpT (fun k (hk : k < 37 ∨ 39 ≤ k) => fyfz15 k (by omega)) am_fp0)))
          rw [e9]; exact congrArg (fun z => opN (neM N m (V + 1) z)) e8.symm
set_option maxHeartbeats 4000000 in
set_option maxRecDepth 100000 in
theorem c_taken {X : List Int32} {d rc rs n : Nat} {Q : am_Q} {N : Nat → Int32} {tx : List Value} {lk mv : Nat → Int32} {fr c : Nat} {h : am_H} (hR : RG N fr c) (F : QR 1 N tx lk mv h) (Y : WVx h) (hq : ∀ v9 h9, v9 = tkM N 10000 0 0 → WVx h9 → am_fp (fun k => k < 37 ∨ 39 ≤ k) h9 h → Q (some (.int v9)) n h9) : AW X mX6_countTaken (d + 13) rc rs 0 [some (.ref 37), some (.ref 1), none, none] [] n h Q := by
  obtain ⟨a0, a1, wy, Y⟩ := Y
  refine aw_iconst (npc := 1) (v := 0) (by decide) dX6_countTaken_0 rfl ?_
  refine aw_istore_n (npc := 2) (L' := [some (.ref 37), some (.ref 1), some (.int 0), none]) dX6_countTaken_1 rfl (by decide) rfl rfl ?_
  refine aw_aload_n (npc := 3) rfl dX6_countTaken_2 rfl ?_
  refine aw_aload_n (npc := 4) rfl dX6_countTaken_3 rfl ?_
  refine aw_callV (npc := 7) (N := mX6_start) (b := 37) (mc := 0) (ms := 0) (A := [.ref 1]) (S := []) (L0 := [some (.ref 37), some (.ref 1), none]) dX6_countTaken_4 rfl km_X6_start kk_X6_22 Y.1 ⟨by decide, rfl⟩ rfl ⟨rfl, by decide⟩ rfl (Nat.le_of_ble_eq_true rfl) (Nat.zero_add _) (Nat.zero_add _) rfl ?_
  refine c_start F Y (fun hp1 Yn2 fz3 => ?_)
  have fyfz3 : ∀ k, (k < 37 ∨ 39 ≤ k) → hp1 k = _ := fun k hk => fz3 k hk
  have F4 := qr_frame F (fun k h1 h2 => fyfz3 k (by omega))
  refine aw_iconst (npc := 8) (v := 0) (by decide) dX6_countTaken_7 rfl ?_
  refine aw_istore_n (npc := 9) (L' := [some (.ref 37), some (.ref 1), some (.int 0), some (.int 0)]) dX6_countTaken_8 rfl (by decide) rfl rfl ?_
  refine aw_locs (L' := [some (.ref 37), some (.ref 1), some (.int 0), some (.int (nI 0))]) rfl ?_
  exact C_takenL hR 10000 0 (by omega) 0 _ F4 Yn2 (fun v9 h9 e9 Y9 f9 => hq v9 h9 e9 Y9 (am_fpT f9 (am_fpT (fun k (hk : k < 37 ∨ 39 ≤ k) => fyfz3 k (by omega)) am_fp0)))
set_option maxHeartbeats 4000000 in
set_option maxRecDepth 100000 in
theorem c_fair {X : List Int32} {d rc rs n : Nat} {Q : am_Q} {N : Nat → Int32} {tx : List Value} {lk mv : Nat → Int32} {fr c : Nat} {h : am_H} (hR : RG N fr c) (F : QR 1 N tx lk mv h) (Y : WVx h) (hq : ∀ v9 h9, v9 = opN (frM N 10000 0 none) → WVx h9 → am_fp (fun k => k < 37 ∨ 39 ≤ k) h9 h → Q (some (.int v9)) n h9) : AW X mX6_fairest (d + 13) rc rs 0 [some (.ref 37), some (.ref 1), none, none, none, none] [] n h Q := by
  obtain ⟨a0, a1, wy, Y⟩ := Y
  refine aw_iconst (npc := 1) (v := -1) (by decide) dX6_fairest_0 rfl ?_
  refine aw_istore_n (npc := 2) (L' := [some (.ref 37), some (.ref 1), some (.int (-1)), none, none, none]) dX6_fairest_1 rfl (by decide) rfl rfl ?_
  refine aw_iconst (npc := 3) (v := -1) (by decide) dX6_fairest_2 rfl ?_
  refine aw_istore_n (npc := 4) (L' := [some (.ref 37), some (.ref 1), some (.int (-1)), some (.int (-1)), none, none]) dX6_fairest_3 rfl (by decide) rfl rfl ?_
  refine aw_aload_n (npc := 5) rfl dX6_fairest_4 rfl ?_
  refine aw_aload_n (npc := 6) rfl dX6_fairest_5 rfl ?_
  refine aw_callV (npc := 9) (N := mX6_start) (b := 37) (mc := 0) (ms := 0) (A := [.ref 1]) (S := []) (L0 := [some (.ref 37), some (.ref 1), none]) dX6_fairest_6 rfl km_X6_start kk_X6_22 Y.1 ⟨by decide, rfl⟩ rfl ⟨rfl, by decide⟩ rfl (Nat.le_of_ble_eq_true rfl) (Nat.zero_add _) (Nat.zero_add _) rfl ?_
  refine c_start F Y (fun hp1 Yn2 fz3 => ?_)
  have fyfz3 : ∀ k, (k < 37 ∨ 39 ≤ k) → hp1 k = _ := fun k hk => fz3 k hk
  have F4 := qr_frame F (fun k h1 h2 => fyfz3 k (by omega))
  refine aw_iconst (npc := 10) (v := 0) (by decide) dX6_fairest_9 rfl ?_
  refine aw_istore (npc := 12) (L' := [some (.ref 37), some (.ref 1), some (.int (-1)), some (.int (-1)), some (.int 0), none]) dX6_fairest_10 rfl (by decide) rfl rfl ?_
  refine aw_locs (L' := [some (.ref 37), some (.ref 1), some (.int (opN none)), some (.int (f2N none)), some (.int (nI 0)), none]) rfl ?_
  exact C_fairL hR 10000 0 (by omega) none (fun q z => by cases z) none _ F4 Yn2 (fun v9 h9 e9 Y9 f9 => hq v9 h9 e9 Y9 (am_fpT f9 (am_fpT (fun k (hk : k < 37 ∨ 39 ≤ k) => fyfz3 k (by omega)) am_fp0)))
set_option maxHeartbeats 4000000 in
set_option maxRecDepth 100000 in
theorem c_near {X : List Int32} {d rc rs n : Nat} {Q : am_Q} {N : Nat → Int32} {tx : List Value} {lk mv : Nat → Int32} {fr c : Nat} {h : am_H} (hR : RG N fr c) (F : QR 1 N tx lk mv h) (Y : WVx h) (hq : ∀ v9 h9, v9 = opN (neM N 10000 0 none) → WVx h9 → am_fp (fun k => k < 37 ∨ 39 ≤ k) h9 h → Q (some (.int v9)) n h9) : AW X mX6_nearest (d + 13) rc rs 0 [some (.ref 37), some (.ref 1), none, none, none, none] [] n h Q := by
  obtain ⟨a0, a1, wy, Y⟩ := Y
  refine aw_iconst (npc := 1) (v := -1) (by decide) dX6_nearest_0 rfl ?_
  refine aw_istore_n (npc := 2) (L' := [some (.ref 37), some (.ref 1), some (.int (-1)), none, none, none]) dX6_nearest_1 rfl (by decide) rfl rfl ?_
  refine aw_iconst (npc := 3) (v := 0) (by decide) dX6_nearest_2 rfl ?_
  refine aw_istore_n (npc := 4) (L' := [some (.ref 37), some (.ref 1), some (.int (-1)), some (.int 0), none, none]) dX6_nearest_3 rfl (by decide) rfl rfl ?_
  refine aw_aload_n (npc := 5) rfl dX6_nearest_4 rfl ?_
  refine aw_aload_n (npc := 6) rfl dX6_nearest_5 rfl ?_
  refine aw_callV (npc := 9) (N := mX6_start) (b := 37) (mc := 0) (ms := 0) (A := [.ref 1]) (S := []) (L0 := [some (.ref 37), some (.ref 1), none]) dX6_nearest_6 rfl km_X6_start kk_X6_22 Y.1 ⟨by decide, rfl⟩ rfl ⟨rfl, by decide⟩ rfl (Nat.le_of_ble_eq_true rfl) (Nat.zero_add _) (Nat.zero_add _) rfl ?_
  refine c_start F Y (fun hp1 Yn2 fz3 => ?_)
  have fyfz3 : ∀ k, (k < 37 ∨ 39 ≤ k) → hp1 k = _ := fun k hk => fz3 k hk
  have F4 := qr_frame F (fun k h1 h2 => fyfz3 k (by omega))
  refine aw_iconst (npc := 10) (v := 0) (by decide) dX6_nearest_9 rfl ?_
  refine aw_istore (npc := 12) (L' := [some (.ref 37), some (.ref 1), some (.int (-1)), some (.int 0), some (.int 0), none]) dX6_nearest_10 rfl (by decide) rfl rfl ?_
  refine aw_locs (L' := [some (.ref 37), some (.ref 1), some (.int (opN none)), some (.int (n2N none)), some (.int (nI 0)), none]) rfl ?_
  exact C_nearL hR 10000 0 (by omega) none (fun q z => by cases z) none _ F4 Yn2 (fun v9 h9 e9 Y9 f9 => hq v9 h9 e9 Y9 (am_fpT f9 (am_fpT (fun k (hk : k < 37 ∨ 39 ≤ k) => fyfz3 k (by omega)) am_fp0)))
set_option maxHeartbeats 4000000 in
set_option maxRecDepth 100000 in
theorem C_taken {X : List Int32} {d rc rs n : Nat} {Q : am_Q} {h : am_H} {N : Nat → Int32} {tx : List Value} {lk mv : Nat → Int32} {ik wc : Int32} {fr c : Nat} (O : OB ik wc h) (F : QR 1 N tx lk mv h) (Y : WVx h) (hR : RG N fr c) (hq : ∀ v9 h9, v9 = tkM N 10000 0 0 → WVx h9 → am_fp (fun k => k < 37 ∨ 39 ≤ k) h9 h → Q (some (.int v9)) n h9) : AW X mX7_taken (d + 20) rc rs 0 [some (.ref 0)] [] n h Q := by
  obtain ⟨a0, a1, wy, YY⟩ := id Y
  have wx0 := YY.1
  refine aw_aload_n (npc := 1) rfl dX7_taken_0 rfl ?_
  refine aw_get (npc := 4) dX7_taken_1 rfl kf_X7_29 O.1 rfl ?_
  refine aw_aload_n (npc := 5) rfl dX7_taken_4 rfl ?_
  refine aw_get (npc := 8) dX7_taken_5 rfl kf_X7_10 O.1 rfl ?_
  refine aw_callV (npc := 11) (N := mX6_countTaken) (b := 37) (mc := 0) (ms := 0) (A := [.ref 1]) (S := []) (L0 := [some (.ref 37), some (.ref 1), none, none]) dX7_taken_8 rfl km_X6_countTaken kk_X7_183 wx0 ⟨by decide, rfl⟩ rfl ⟨rfl, by decide⟩ rfl (Nat.le_of_ble_eq_true rfl) (Nat.zero_add _) (Nat.zero_add _) rfl ?_
  refine c_taken hR F Y (fun vW1 hW2 eW3 YW4 fW5 => ?_)
  have fyfW5 : ∀ k, (k < 37 ∨ 39 ≤ k) → hW2 k = _ := fun k hk => fW5 k hk
  have O6 := ob_frame O (fyfW5 0 (by omega)) (fyfW5 43 (by omega)) (fyfW5 44 (by omega))
  have F7 := qr_frame F (fun k h1 h2 => fyfW5 k (by omega))
  refine aw_re (S' := [.int vW1]) rfl ?_
  refine aw_iret rfl dX7_taken_11 ?_
  exact hq _ _ eW3 YW4 (am_fpT (fun k (hk : k < 37 ∨ 39 ≤ k) => fyfW5 k (by omega)) am_fp0)
set_option maxHeartbeats 4000000 in
set_option maxRecDepth 100000 in
theorem C_terms {X : List Int32} {d rc rs n : Nat} {Q : am_Q} {h : am_H} {N : Nat → Int32} {tx : List Value} {lk mv : Nat → Int32} {ik wc : Int32} {fr c : Nat} {w : Int32} (O : OB ik wc h) (F : QR 1 N tx lk mv h) (Y : WVx h) (hR : RG N fr c) (hq : ∀ v9 h9, v9 = trV N w → WVx h9 → am_fp (fun k => k < 37 ∨ 39 ≤ k) h9 h → Q (some (.int v9)) n h9) : AW X mX7_terms (d + 20) rc rs 0 [some (.ref 0), some (.int w)] [] n h Q := by
  obtain ⟨a0, a1, wy, YY⟩ := id Y
  have wx0 := YY.1
  refine aw_iload_n (npc := 1) rfl dX7_terms_0 rfl ?_
  refine aw_if_ne (npc := 4) (tgt := 19) dX7_terms_1 rfl (by decide) (fun hc1 => ?_) (fun hc1 => ?_)
  · refine aw_iload_n (npc := 20) rfl dX7_terms_19 rfl ?_
    refine aw_iconst (npc := 21) (v := 1) (by decide) dX7_terms_20 rfl ?_
    refine aw_icmp_ne (npc := 24) (tgt := 39) dX7_terms_21 rfl (by decide) (fun hc2 => ?_) (fun hc2 => ?_)
    · refine aw_ldc (npc := 41) kc_X7_78 dX7_terms_39 rfl ?_
      refine aw_iret rfl dX7_terms_41 ?_
      exact hq _ _ (by simp [trV, cI, hc1, hc2]) Y am_fp0
    · refine aw_aload_n (npc := 25) rfl dX7_terms_24 rfl ?_
      refine aw_get (npc := 28) dX7_terms_25 rfl kf_X7_29 O.1 rfl ?_
      refine aw_aload_n (npc := 29) rfl dX7_terms_28 rfl ?_
      refine aw_get (npc := 32) dX7_terms_29 rfl kf_X7_10 O.1 rfl ?_
      refine aw_callV (npc := 35) (N := mX6_nearest) (b := 37) (mc := 0) (ms := 0) (A := [.ref 1]) (S := []) (L0 := [some (.ref 37), some (.ref 1), none, none, none, none]) dX7_terms_32 rfl km_X6_nearest kk_X7_190 wx0 ⟨by decide, rfl⟩ rfl ⟨rfl, by decide⟩ rfl (Nat.le_of_ble_eq_true rfl) (Nat.zero_add _) (Nat.zero_add _) rfl ?_
      refine c_near hR F Y (fun vW3 hW4 eW5 YW6 fW7 => ?_)
      have fyfW7 : ∀ k, (k < 37 ∨ 39 ≤ k) → hW4 k = _ := fun k hk => fW7 k hk
      have O8 := ob_frame O (fyfW7 0 (by omega)) (fyfW7 43 (by omega)) (fyfW7 44 (by omega))
      have F9 := qr_frame F (fun k h1 h2 => fyfW7 k (by omega))
      refine aw_re (S' := [.int vW3]) rfl ?_
      refine aw_callS (npc := 38) (N := mX7_orNone) (mc := 0) (ms := 0) (A := [.int vW3]) (S := []) (L0 := [some (.int vW3)]) dX7_terms_35 rfl km_X7_orNone kk_X7_112 rfl ⟨rfl, by decide⟩ rfl (Nat.le_of_ble_eq_true rfl) (Nat.zero_add _) (Nat.zero_add _) rfl ?_
      refine c_X7_orNone ?_
      refine aw_re (S' := [.int (orN vW3)]) rfl ?_
      refine aw_iret rfl dX7_terms_38 ?_
      exact hq _ _ (by simp [trV, cI, hc1, hc2, eW5]) YW6 (am_fpT (fun k (hk : k < 37 ∨ 39 ≤ k) => fyfW7 k (by omega)) am_fp0)
  · refine aw_aload_n (npc := 5) rfl dX7_terms_4 rfl ?_
    refine aw_get (npc := 8) dX7_terms_5 rfl kf_X7_29 O.1 rfl ?_
    refine aw_aload_n (npc := 9) rfl dX7_terms_8 rfl ?_
    refine aw_get (npc := 12) dX7_terms_9 rfl kf_X7_10 O.1 rfl ?_
    refine aw_callV (npc := 15) (N := mX6_fairest) (b := 37) (mc := 0) (ms := 0) (A := [.ref 1]) (S := []) (L0 := [some (.ref 37), some (.ref 1), none, none, none, none]) dX7_terms_12 rfl km_X6_fairest kk_X7_187 wx0 ⟨by decide, rfl⟩ rfl ⟨rfl, by decide⟩ rfl (Nat.le_of_ble_eq_true rfl) (Nat.zero_add _) (Nat.zero_add _) rfl ?_
    refine c_fair hR F Y (fun vW10 hW11 eW12 YW13 fW14 => ?_)
    have fyfW14 : ∀ k, (k < 37 ∨ 39 ≤ k) → hW11 k = _ := fun k hk => fW14 k hk
    have O15 := ob_frame O (fyfW14 0 (by omega)) (fyfW14 43 (by omega)) (fyfW14 44 (by omega))
    have F16 := qr_frame F (fun k h1 h2 => fyfW14 k (by omega))
    refine aw_re (S' := [.int vW10]) rfl ?_
    refine aw_callS (npc := 18) (N := mX7_orNone) (mc := 0) (ms := 0) (A := [.int vW10]) (S := []) (L0 := [some (.int vW10)]) dX7_terms_15 rfl km_X7_orNone kk_X7_112 rfl ⟨rfl, by decide⟩ rfl (Nat.le_of_ble_eq_true rfl) (Nat.zero_add _) (Nat.zero_add _) rfl ?_
    refine c_X7_orNone ?_
    refine aw_re (S' := [.int (orN vW10)]) rfl ?_
    refine aw_iret rfl dX7_terms_18 ?_
    exact hq _ _ (by simp [trV, cI, hc1, eW12]) YW13 (am_fpT (fun k (hk : k < 37 ∨ 39 ≤ k) => fyfW14 k (by omega)) am_fp0)
