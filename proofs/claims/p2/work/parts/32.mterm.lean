def mpk (k s : Int32) (N : Nat → Int32) (t : Nat) : Int32 := if s = 0 then (if k = 1 then N (16 + t) else if k = 3 then N (16 + t) else if k = 4 then -(N (16 + t)) else if k = 5 then -(N (12 + t)) else N (12 + t)) else (if k = 1 then N (12 + t) else if k = 3 then N (12 + t) else if k = 4 then -(N (12 + t)) else if k = 5 then -(N (16 + t)) else N (16 + t))
def bI : Option Nat → Int32
  | none => -1
  | some u => nI u
def mtS (k s e : Int32) (N : Nat → Int32) (t : Nat) : Option Nat → Option Nat
  | none => if N (8 + t) = e then none else some t
  | some u => if N (8 + t) = e then some u else if mpk k s N t < mpk k s N u then some t else some u
def mtM (k s e : Int32) (N : Nat → Int32) : Nat → Nat → Option Nat → Option Nat
  | 0, _, p => p
  | m + 1, t, p => mtM k s e N m (t + 1) (mtS k s e N t p)
theorem mtS_lt {k s e : Int32} {N : Nat → Int32} {t : Nat} {p : Option Nat} (ht : t < 4) (hp : ∀ u, p = some u → u < 4) : ∀ u, mtS k s e N t p = some u → u < 4 := by
  intro u hu
  cases p with
  | none =>
    simp only [mtS] at hu
    split at hu
    · cases hu
    · injection hu with z; omega
  | some w =>
    have z9 := hp w rfl
    simp only [mtS] at hu
    split at hu
    · injection hu with z; omega
    · split at hu
      · injection hu with z; omega
      · injection hu with z; omega
set_option maxHeartbeats 4000000 in
set_option maxRecDepth 100000 in
theorem m_pick {X : List Int32} {d rc rs n : Nat} {Q : am_Q} {o N : Nat → Int32} {a : Nat → Nat → Int32} {h : am_H} {f t : Nat} (F : MR o N a h) (hf : f < 8) (hk : wi (N (22 + 5 * f)) 0 5) (hs : wi (N (23 + 5 * f)) 0 1) (ht : t < 4) (hq : Q (some (.int (mpk (N (22 + 5 * f)) (N (23 + 5 * f)) N t))) n h) : AW X mX8_pickOf (d + 2) rc rs 0 [some (.ref 69), some (.int (nI f)), some (.int (nI t)), none, none] [] n h Q := by
  refine aw_aload_n (npc := 1) rfl dX8_pickOf_0 rfl ?_
  refine aw_get (npc := 4) dX8_pickOf_1 rfl kf_X8_9 F.1 rfl ?_
  refine aw_bipush (npc := 6) (v := 12) (by decide) dX8_pickOf_4 rfl ?_
  refine aw_iconst (npc := 7) (v := 4) (by decide) dX8_pickOf_6 rfl ?_
  refine aw_aload_n (npc := 8) rfl dX8_pickOf_7 rfl ?_
  refine aw_iload_n (npc := 9) rfl dX8_pickOf_8 rfl ?_
  refine aw_iconst (npc := 10) (v := 1) (by decide) dX8_pickOf_9 rfl ?_
  refine aw_callV (npc := 13) (N := mX8_of) (b := 69) (mc := 0) (ms := 0) (A := [.int (nI f), .int 1]) (S := [.int 4, .int 12, .ref 70]) (L0 := [some (.ref 69), some (.int (nI f)), some (.int 1)]) dX8_pickOf_10 rfl km_X8_of kk_X8_101 F.1 ⟨by decide, rfl⟩ rfl ⟨rfl, by decide⟩ rfl (Nat.le_of_ble_eq_true rfl) (Nat.zero_add _) (Nat.zero_add _) rfl ?_
  refine m_of1 (f := f) F (by omega) ?_
  refine aw_re (S' := [.int (N (23 + 5 * f)), .int 4, .int 12, .ref 70]) rfl ?_
  rcases wi_c0_1 hs with es | es
  · refine aw_top (y := 0) es ?_
    refine aw_imulV (npc := 14) (v := 0) dX8_pickOf_13 rfl (by decide) ?_
    refine aw_iaddV (npc := 15) (v := 12) dX8_pickOf_14 rfl (by decide) ?_
    refine aw_iload_n (npc := 16) rfl dX8_pickOf_15 rfl ?_
    refine aw_iaddV (npc := 17) (v := nI (12 + t)) dX8_pickOf_16 rfl (nI_add 12 _) ?_
    refine aw_iald (npc := 18) (x := N (12 + t)) (j := (12 + t)) dX8_pickOf_17 rfl F.2.1 (am_ix_nI (by omega)) (tl_at (by omega)) ?_
    refine aw_istore_n (npc := 19) (L' := [some (.ref 69), some (.int (nI f)), some (.int (nI t)), some (.int (N (12 + t))), none]) dX8_pickOf_18 rfl (by decide) rfl rfl ?_
    refine aw_aload_n (npc := 20) rfl dX8_pickOf_19 rfl ?_
    refine aw_get (npc := 23) dX8_pickOf_20 rfl kf_X8_9 F.1 rfl ?_
    refine aw_bipush (npc := 25) (v := 16) (by decide) dX8_pickOf_23 rfl ?_
    refine aw_iconst (npc := 26) (v := 4) (by decide) dX8_pickOf_25 rfl ?_
    refine aw_aload_n (npc := 27) rfl dX8_pickOf_26 rfl ?_
    refine aw_iload_n (npc := 28) rfl dX8_pickOf_27 rfl ?_
    refine aw_iconst (npc := 29) (v := 1) (by decide) dX8_pickOf_28 rfl ?_
    refine aw_callV (npc := 32) (N := mX8_of) (b := 69) (mc := 0) (ms := 0) (A := [.int (nI f), .int 1]) (S := [.int 4, .int 16, .ref 70]) (L0 := [some (.ref 69), some (.int (nI f)), some (.int 1)]) dX8_pickOf_29 rfl km_X8_of kk_X8_101 F.1 ⟨by decide, rfl⟩ rfl ⟨rfl, by decide⟩ rfl (Nat.le_of_ble_eq_true rfl) (Nat.zero_add _) (Nat.zero_add _) rfl ?_
    refine m_of1 (f := f) F (by omega) ?_
    refine aw_re (S' := [.int (N (23 + 5 * f)), .int 4, .int 16, .ref 70]) rfl ?_
    refine aw_top (y := 0) es ?_
    refine aw_imulV (npc := 33) (v := 0) dX8_pickOf_32 rfl (by decide) ?_
    refine aw_isubV (npc := 34) (v := 16) dX8_pickOf_33 rfl (by decide) ?_
    refine aw_iload_n (npc := 35) rfl dX8_pickOf_34 rfl ?_
    refine aw_iaddV (npc := 36) (v := nI (16 + t)) dX8_pickOf_35 rfl (nI_add 16 _) ?_
    refine aw_iald (npc := 37) (x := N (16 + t)) (j := (16 + t)) dX8_pickOf_36 rfl F.2.1 (am_ix_nI (by omega)) (tl_at (by omega)) ?_
    refine aw_istore (npc := 39) (L' := [some (.ref 69), some (.int (nI f)), some (.int (nI t)), some (.int (N (12 + t))), some (.int (N (16 + t)))]) dX8_pickOf_37 rfl (by decide) rfl rfl ?_
    refine aw_aload_n (npc := 40) rfl dX8_pickOf_39 rfl ?_
    refine aw_iload_n (npc := 41) rfl dX8_pickOf_40 rfl ?_
    refine aw_iconst (npc := 42) (v := 0) (by decide) dX8_pickOf_41 rfl ?_
    refine aw_callV (npc := 45) (N := mX8_of) (b := 69) (mc := 0) (ms := 0) (A := [.int (nI f), .int 0]) (S := []) (L0 := [some (.ref 69), some (.int (nI f)), some (.int 0)]) dX8_pickOf_42 rfl km_X8_of kk_X8_101 F.1 ⟨by decide, rfl⟩ rfl ⟨rfl, by decide⟩ rfl (Nat.le_of_ble_eq_true rfl) (Nat.zero_add _) (Nat.zero_add _) rfl ?_
    refine m_of0 (f := f) F (by omega) ?_
    refine aw_re (S' := [.int (N (22 + 5 * f))]) rfl ?_
    rcases wi_c0_5 hk with ek | ek | ek | ek | ek | ek
    · refine aw_top (y := 0) ek ?_
      refine aw_tableOut (npc := 90) dX8_pickOf_45 (by decide) (by decide) ?_
      refine aw_iload_n (npc := 91) rfl dX8_pickOf_90 rfl ?_
      refine aw_iret rfl dX8_pickOf_91 ?_
      exact (show mpk (N (22 + 5 * f)) (N (23 + 5 * f)) N t = N (12 + t) by simp [mpk, ek, es]) ▸ hq
    · refine aw_top (y := 1) ek ?_
      refine aw_tableIn (npc := 80) dX8_pickOf_45 (by decide) (by decide) rfl (by decide) ?_
      refine aw_iload (npc := 82) rfl dX8_pickOf_80 rfl ?_
      refine aw_iret rfl dX8_pickOf_82 ?_
      exact (show mpk (N (22 + 5 * f)) (N (23 + 5 * f)) N t = N (16 + t) by simp [mpk, ek, es]) ▸ hq
    · refine aw_top (y := 2) ek ?_
      refine aw_tableIn (npc := 90) dX8_pickOf_45 (by decide) (by decide) rfl (by decide) ?_
      refine aw_iload_n (npc := 91) rfl dX8_pickOf_90 rfl ?_
      refine aw_iret rfl dX8_pickOf_91 ?_
      exact (show mpk (N (22 + 5 * f)) (N (23 + 5 * f)) N t = N (12 + t) by simp [mpk, ek, es]) ▸ hq
    · refine aw_top (y := 3) ek ?_
      refine aw_tableIn (npc := 80) dX8_pickOf_45 (by decide) (by decide) rfl (by decide) ?_
      refine aw_iload (npc := 82) rfl dX8_pickOf_80 rfl ?_
      refine aw_iret rfl dX8_pickOf_82 ?_
      exact (show mpk (N (22 + 5 * f)) (N (23 + 5 * f)) N t = N (16 + t) by simp [mpk, ek, es]) ▸ hq
    · refine aw_top (y := 4) ek ?_
      refine aw_tableIn (npc := 83) dX8_pickOf_45 (by decide) (by decide) rfl (by decide) ?_
      refine aw_iload (npc := 85) rfl dX8_pickOf_83 rfl ?_
      refine aw_ineg (npc := 86) dX8_pickOf_85 rfl ?_
      refine aw_iret rfl dX8_pickOf_86 ?_
      exact (show mpk (N (22 + 5 * f)) (N (23 + 5 * f)) N t = -(N (16 + t)) by simp [mpk, ek, es]) ▸ hq
    · refine aw_top (y := 5) ek ?_
      refine aw_tableIn (npc := 87) dX8_pickOf_45 (by decide) (by decide) rfl (by decide) ?_
      refine aw_iload_n (npc := 88) rfl dX8_pickOf_87 rfl ?_
      refine aw_ineg (npc := 89) dX8_pickOf_88 rfl ?_
      refine aw_iret rfl dX8_pickOf_89 ?_
      exact (show mpk (N (22 + 5 * f)) (N (23 + 5 * f)) N t = -(N (12 + t)) by simp [mpk, ek, es]) ▸ hq
  · refine aw_top (y := 1) es ?_
    refine aw_imulV (npc := 14) (v := 4) dX8_pickOf_13 rfl (by decide) ?_
    refine aw_iaddV (npc := 15) (v := 16) dX8_pickOf_14 rfl (by decide) ?_
    refine aw_iload_n (npc := 16) rfl dX8_pickOf_15 rfl ?_
    refine aw_iaddV (npc := 17) (v := nI (16 + t)) dX8_pickOf_16 rfl (nI_add 16 _) ?_
    refine aw_iald (npc := 18) (x := N (16 + t)) (j := (16 + t)) dX8_pickOf_17 rfl F.2.1 (am_ix_nI (by omega)) (tl_at (by omega)) ?_
    refine aw_istore_n (npc := 19) (L' := [some (.ref 69), some (.int (nI f)), some (.int (nI t)), some (.int (N (16 + t))), none]) dX8_pickOf_18 rfl (by decide) rfl rfl ?_
    refine aw_aload_n (npc := 20) rfl dX8_pickOf_19 rfl ?_
    refine aw_get (npc := 23) dX8_pickOf_20 rfl kf_X8_9 F.1 rfl ?_
    refine aw_bipush (npc := 25) (v := 16) (by decide) dX8_pickOf_23 rfl ?_
    refine aw_iconst (npc := 26) (v := 4) (by decide) dX8_pickOf_25 rfl ?_
    refine aw_aload_n (npc := 27) rfl dX8_pickOf_26 rfl ?_
    refine aw_iload_n (npc := 28) rfl dX8_pickOf_27 rfl ?_
    refine aw_iconst (npc := 29) (v := 1) (by decide) dX8_pickOf_28 rfl ?_
    refine aw_callV (npc := 32) (N := mX8_of) (b := 69) (mc := 0) (ms := 0) (A := [.int (nI f), .int 1]) (S := [.int 4, .int 16, .ref 70]) (L0 := [some (.ref 69), some (.int (nI f)), some (.int 1)]) dX8_pickOf_29 rfl km_X8_of kk_X8_101 F.1 ⟨by decide, rfl⟩ rfl ⟨rfl, by decide⟩ rfl (Nat.le_of_ble_eq_true rfl) (Nat.zero_add _) (Nat.zero_add _) rfl ?_
    refine m_of1 (f := f) F (by omega) ?_
    refine aw_re (S' := [.int (N (23 + 5 * f)), .int 4, .int 16, .ref 70]) rfl ?_
    refine aw_top (y := 1) es ?_
    refine aw_imulV (npc := 33) (v := 4) dX8_pickOf_32 rfl (by decide) ?_
    refine aw_isubV (npc := 34) (v := 12) dX8_pickOf_33 rfl (by decide) ?_
    refine aw_iload_n (npc := 35) rfl dX8_pickOf_34 rfl ?_
    refine aw_iaddV (npc := 36) (v := nI (12 + t)) dX8_pickOf_35 rfl (nI_add 12 _) ?_
    refine aw_iald (npc := 37) (x := N (12 + t)) (j := (12 + t)) dX8_pickOf_36 rfl F.2.1 (am_ix_nI (by omega)) (tl_at (by omega)) ?_
    refine aw_istore (npc := 39) (L' := [some (.ref 69), some (.int (nI f)), some (.int (nI t)), some (.int (N (16 + t))), some (.int (N (12 + t)))]) dX8_pickOf_37 rfl (by decide) rfl rfl ?_
    refine aw_aload_n (npc := 40) rfl dX8_pickOf_39 rfl ?_
    refine aw_iload_n (npc := 41) rfl dX8_pickOf_40 rfl ?_
    refine aw_iconst (npc := 42) (v := 0) (by decide) dX8_pickOf_41 rfl ?_
    refine aw_callV (npc := 45) (N := mX8_of) (b := 69) (mc := 0) (ms := 0) (A := [.int (nI f), .int 0]) (S := []) (L0 := [some (.ref 69), some (.int (nI f)), some (.int 0)]) dX8_pickOf_42 rfl km_X8_of kk_X8_101 F.1 ⟨by decide, rfl⟩ rfl ⟨rfl, by decide⟩ rfl (Nat.le_of_ble_eq_true rfl) (Nat.zero_add _) (Nat.zero_add _) rfl ?_
    refine m_of0 (f := f) F (by omega) ?_
    refine aw_re (S' := [.int (N (22 + 5 * f))]) rfl ?_
    rcases wi_c0_5 hk with ek | ek | ek | ek | ek | ek
    · refine aw_top (y := 0) ek ?_
      refine aw_tableOut (npc := 90) dX8_pickOf_45 (by decide) (by decide) ?_
      refine aw_iload_n (npc := 91) rfl dX8_pickOf_90 rfl ?_
      refine aw_iret rfl dX8_pickOf_91 ?_
      exact (show mpk (N (22 + 5 * f)) (N (23 + 5 * f)) N t = N (16 + t) by simp [mpk, ek, es]) ▸ hq
    · refine aw_top (y := 1) ek ?_
      refine aw_tableIn (npc := 80) dX8_pickOf_45 (by decide) (by decide) rfl (by decide) ?_
      refine aw_iload (npc := 82) rfl dX8_pickOf_80 rfl ?_
      refine aw_iret rfl dX8_pickOf_82 ?_
      exact (show mpk (N (22 + 5 * f)) (N (23 + 5 * f)) N t = N (12 + t) by simp [mpk, ek, es]) ▸ hq
    · refine aw_top (y := 2) ek ?_
      refine aw_tableIn (npc := 90) dX8_pickOf_45 (by decide) (by decide) rfl (by decide) ?_
      refine aw_iload_n (npc := 91) rfl dX8_pickOf_90 rfl ?_
      refine aw_iret rfl dX8_pickOf_91 ?_
      exact (show mpk (N (22 + 5 * f)) (N (23 + 5 * f)) N t = N (16 + t) by simp [mpk, ek, es]) ▸ hq
    · refine aw_top (y := 3) ek ?_
      refine aw_tableIn (npc := 80) dX8_pickOf_45 (by decide) (by decide) rfl (by decide) ?_
      refine aw_iload (npc := 82) rfl dX8_pickOf_80 rfl ?_
      refine aw_iret rfl dX8_pickOf_82 ?_
      exact (show mpk (N (22 + 5 * f)) (N (23 + 5 * f)) N t = N (12 + t) by simp [mpk, ek, es]) ▸ hq
    · refine aw_top (y := 4) ek ?_
      refine aw_tableIn (npc := 83) dX8_pickOf_45 (by decide) (by decide) rfl (by decide) ?_
      refine aw_iload (npc := 85) rfl dX8_pickOf_83 rfl ?_
      refine aw_ineg (npc := 86) dX8_pickOf_85 rfl ?_
      refine aw_iret rfl dX8_pickOf_86 ?_
      exact (show mpk (N (22 + 5 * f)) (N (23 + 5 * f)) N t = -(N (12 + t)) by simp [mpk, ek, es]) ▸ hq
    · refine aw_top (y := 5) ek ?_
      refine aw_tableIn (npc := 87) dX8_pickOf_45 (by decide) (by decide) rfl (by decide) ?_
      refine aw_iload_n (npc := 88) rfl dX8_pickOf_87 rfl ?_
      refine aw_ineg (npc := 89) dX8_pickOf_88 rfl ?_
      refine aw_iret rfl dX8_pickOf_89 ?_
      exact (show mpk (N (22 + 5 * f)) (N (23 + 5 * f)) N t = -(N (16 + t)) by simp [mpk, ek, es]) ▸ hq
set_option maxHeartbeats 4000000 in
set_option maxRecDepth 100000 in
theorem m_tL0 {X : List Int32} {d rc rs n : Nat} {Q : am_Q} {o N : Nat → Int32} {a : Nat → Nat → Int32} {h : am_H} {f : Nat} (F : MR o N a h) (hf : f < 8) (hk : wi (N (22 + 5 * f)) 0 5) (hs : wi (N (23 + 5 * f)) 0 1) : ∀ (m t : Nat), t + m = 4 → ∀ p : Option Nat, (∀ u, p = some u → u < 4) → Q (some (.int (bI (mtM (N (22 + 5 * f)) (N (23 + 5 * f)) 0 N m t p)))) n h → AW X mX8_termOf (d + 4) rc rs 21 [some (.ref 69), some (.int (nI f)), some (.int 0), some (.int (bI p)), some (.int (nI t))] [] n h Q := by
  intro m
  induction m with
  | zero =>
    intro t ht p hp hq
    obtain rfl : t = 4 := by omega
    refine aw_iload (npc := 23) rfl dX8_termOf_21 rfl ?_
    refine aw_iconst (npc := 24) (v := 4) (by decide) dX8_termOf_23 rfl ?_
    refine aw_icmp_ge (npc := 27) (tgt := 74) dX8_termOf_24 rfl (by decide) (fun _ => ?_) (fun hc => absurd (nI_le (a := 4) (b := 4) (by omega) (by omega)) hc)
    refine aw_iload_n (npc := 75) rfl dX8_termOf_74 rfl ?_
    refine aw_iret rfl dX8_termOf_75 ?_
    exact hq
  | succ m ih =>
    intro t ht p hp hq
    cases p with
    | none =>
      show AW X mX8_termOf (d + 4) rc rs 21 [some (.ref 69), some (.int (nI f)), some (.int 0), some (.int (-1)), some (.int (nI t))] [] n h Q
      refine aw_iload (npc := 23) rfl dX8_termOf_21 rfl ?_
      refine aw_iconst (npc := 24) (v := 4) (by decide) dX8_termOf_23 rfl ?_
      refine aw_icmp_ge (npc := 27) (tgt := 74) dX8_termOf_24 rfl (by decide) (fun hc => absurd hc (nI_ge (a := t) (b := 4) (by omega) (by omega))) (fun _ => ?_)
      refine aw_aload_n (npc := 28) rfl dX8_termOf_27 rfl ?_
      refine aw_get (npc := 31) dX8_termOf_28 rfl kf_X8_9 F.1 rfl ?_
      refine aw_bipush (npc := 33) (v := 8) (by decide) dX8_termOf_31 rfl ?_
      refine aw_iload (npc := 35) rfl dX8_termOf_33 rfl ?_
      refine aw_iaddV (npc := 36) (v := nI (8 + t)) dX8_termOf_35 rfl (nI_add 8 _) ?_
      refine aw_iald (npc := 37) (x := N (8 + t)) (j := (8 + t)) dX8_termOf_36 rfl F.2.1 (am_ix_nI (by omega)) (tl_at (by omega)) ?_
      refine aw_iload_n (npc := 38) rfl dX8_termOf_37 rfl ?_
      refine aw_icmp_eq (npc := 41) (tgt := 68) dX8_termOf_38 rfl (by decide) (fun hc2 => ?_) (fun hc2 => ?_)
      · refine aw_iinc (npc := 71) (v := nI (t + 1)) (L' := [some (.ref 69), some (.int (nI f)), some (.int 0), some (.int (-1)), some (.int (nI (t + 1)))]) dX8_termOf_68 rfl rfl (nI_1 _) (by decide) rfl rfl ?_
        refine aw_goto (npc := 21) dX8_termOf_71 (by decide) ?_
        have e9 : mtS (N (22 + 5 * f)) (N (23 + 5 * f)) 0 N t none = none := by simp [mtS, hc2]
        exact ih (t + 1) (by omega) (none) (e9 ▸ mtS_lt (by omega) hp) ((congrArg (mtM (N (22 + 5 * f)) (N (23 + 5 * f)) 0 N m (t + 1)) e9) ▸ hq)
      · refine aw_iload_n (npc := 42) rfl dX8_termOf_41 rfl ?_
        refine aw_if_lt (npc := 45) (tgt := 61) dX8_termOf_42 rfl (by decide) (fun _ => ?_) (fun hc => absurd (by decide) hc)
        refine aw_iload (npc := 63) rfl dX8_termOf_61 rfl ?_
        refine aw_goto (npc := 67) dX8_termOf_63 (by decide) ?_
        refine aw_istore_n (npc := 68) (L' := [some (.ref 69), some (.int (nI f)), some (.int 0), some (.int (nI t)), some (.int (nI t))]) dX8_termOf_67 rfl (by decide) rfl rfl ?_
        refine aw_iinc (npc := 71) (v := nI (t + 1)) (L' := [some (.ref 69), some (.int (nI f)), some (.int 0), some (.int (nI t)), some (.int (nI (t + 1)))]) dX8_termOf_68 rfl rfl (nI_1 _) (by decide) rfl rfl ?_
        refine aw_goto (npc := 21) dX8_termOf_71 (by decide) ?_
        have e9 : mtS (N (22 + 5 * f)) (N (23 + 5 * f)) 0 N t none = some t := by simp [mtS, hc2]
        exact ih (t + 1) (by omega) (some t) (e9 ▸ mtS_lt (by omega) hp) ((congrArg (mtM (N (22 + 5 * f)) (N (23 + 5 * f)) 0 N m (t + 1)) e9) ▸ hq)
    | some u =>
      have hu := hp u rfl
      show AW X mX8_termOf (d + 4) rc rs 21 [some (.ref 69), some (.int (nI f)), some (.int 0), some (.int (nI u)), some (.int (nI t))] [] n h Q
      refine aw_iload (npc := 23) rfl dX8_termOf_21 rfl ?_
      refine aw_iconst (npc := 24) (v := 4) (by decide) dX8_termOf_23 rfl ?_
      refine aw_icmp_ge (npc := 27) (tgt := 74) dX8_termOf_24 rfl (by decide) (fun hc => absurd hc (nI_ge (a := t) (b := 4) (by omega) (by omega))) (fun _ => ?_)
      refine aw_aload_n (npc := 28) rfl dX8_termOf_27 rfl ?_
      refine aw_get (npc := 31) dX8_termOf_28 rfl kf_X8_9 F.1 rfl ?_
      refine aw_bipush (npc := 33) (v := 8) (by decide) dX8_termOf_31 rfl ?_
      refine aw_iload (npc := 35) rfl dX8_termOf_33 rfl ?_
      refine aw_iaddV (npc := 36) (v := nI (8 + t)) dX8_termOf_35 rfl (nI_add 8 _) ?_
      refine aw_iald (npc := 37) (x := N (8 + t)) (j := (8 + t)) dX8_termOf_36 rfl F.2.1 (am_ix_nI (by omega)) (tl_at (by omega)) ?_
      refine aw_iload_n (npc := 38) rfl dX8_termOf_37 rfl ?_
      refine aw_icmp_eq (npc := 41) (tgt := 68) dX8_termOf_38 rfl (by decide) (fun hc2 => ?_) (fun hc2 => ?_)
      · refine aw_iinc (npc := 71) (v := nI (t + 1)) (L' := [some (.ref 69), some (.int (nI f)), some (.int 0), some (.int (nI u)), some (.int (nI (t + 1)))]) dX8_termOf_68 rfl rfl (nI_1 _) (by decide) rfl rfl ?_
        refine aw_goto (npc := 21) dX8_termOf_71 (by decide) ?_
        have e9 : mtS (N (22 + 5 * f)) (N (23 + 5 * f)) 0 N t (some u) = some u := by simp [mtS, hc2]
        exact ih (t + 1) (by omega) (some u) (e9 ▸ mtS_lt (by omega) hp) ((congrArg (mtM (N (22 + 5 * f)) (N (23 + 5 * f)) 0 N m (t + 1)) e9) ▸ hq)
      · refine aw_iload_n (npc := 42) rfl dX8_termOf_41 rfl ?_
        refine aw_if_lt (npc := 45) (tgt := 61) dX8_termOf_42 rfl (by decide) (fun hc => absurd hc (Int32.not_lt.mpr ((nI_leI (a := 0) (b := u) (by omega) (by omega)).mpr (by omega)))) (fun _ => ?_)
        refine aw_aload_n (npc := 46) rfl dX8_termOf_45 rfl ?_
        refine aw_iload_n (npc := 47) rfl dX8_termOf_46 rfl ?_
        refine aw_iload (npc := 49) rfl dX8_termOf_47 rfl ?_
        refine aw_callV (npc := 52) (N := mX8_pickOf) (b := 69) (mc := 0) (ms := 0) (A := [.int (nI f), .int (nI t)]) (S := []) (L0 := [some (.ref 69), some (.int (nI f)), some (.int (nI t)), none, none]) dX8_termOf_49 rfl km_X8_pickOf kk_X8_111 F.1 ⟨by decide, rfl⟩ rfl ⟨rfl, by decide⟩ rfl (Nat.le_of_ble_eq_true rfl) (Nat.zero_add _) (Nat.zero_add _) rfl ?_
        refine m_pick (f := f) (t := t) F hf hk hs (by omega) ?_
        refine aw_re (S' := [.int (mpk (N (22 + 5 * f)) (N (23 + 5 * f)) N t)]) rfl ?_
        refine aw_aload_n (npc := 53) rfl dX8_termOf_52 rfl ?_
        refine aw_iload_n (npc := 54) rfl dX8_termOf_53 rfl ?_
        refine aw_iload_n (npc := 55) rfl dX8_termOf_54 rfl ?_
        refine aw_callV (npc := 58) (N := mX8_pickOf) (b := 69) (mc := 0) (ms := 0) (A := [.int (nI f), .int (nI u)]) (S := [.int (mpk (N (22 + 5 * f)) (N (23 + 5 * f)) N t)]) (L0 := [some (.ref 69), some (.int (nI f)), some (.int (nI u)), none, none]) dX8_termOf_55 rfl km_X8_pickOf kk_X8_111 F.1 ⟨by decide, rfl⟩ rfl ⟨rfl, by decide⟩ rfl (Nat.le_of_ble_eq_true rfl) (Nat.zero_add _) (Nat.zero_add _) rfl ?_
        refine m_pick (f := f) (t := u) F hf hk hs (by omega) ?_
        refine aw_re (S' := [.int (mpk (N (22 + 5 * f)) (N (23 + 5 * f)) N u), .int (mpk (N (22 + 5 * f)) (N (23 + 5 * f)) N t)]) rfl ?_
        refine aw_icmp_ge (npc := 61) (tgt := 66) dX8_termOf_58 rfl (by decide) (fun hc4 => ?_) (fun hc4 => ?_)
        · refine aw_iload_n (npc := 67) rfl dX8_termOf_66 rfl ?_
          refine aw_istore_n (npc := 68) (L' := [some (.ref 69), some (.int (nI f)), some (.int 0), some (.int (nI u)), some (.int (nI t))]) dX8_termOf_67 rfl (by decide) rfl rfl ?_
          refine aw_iinc (npc := 71) (v := nI (t + 1)) (L' := [some (.ref 69), some (.int (nI f)), some (.int 0), some (.int (nI u)), some (.int (nI (t + 1)))]) dX8_termOf_68 rfl rfl (nI_1 _) (by decide) rfl rfl ?_
          refine aw_goto (npc := 21) dX8_termOf_71 (by decide) ?_
          have e9 : mtS (N (22 + 5 * f)) (N (23 + 5 * f)) 0 N t (some u) = some u := by simp [mtS, hc2, Int32.not_lt.mpr hc4]
          exact ih (t + 1) (by omega) (some u) (e9 ▸ mtS_lt (by omega) hp) ((congrArg (mtM (N (22 + 5 * f)) (N (23 + 5 * f)) 0 N m (t + 1)) e9) ▸ hq)
        · refine aw_iload (npc := 63) rfl dX8_termOf_61 rfl ?_
          refine aw_goto (npc := 67) dX8_termOf_63 (by decide) ?_
          refine aw_istore_n (npc := 68) (L' := [some (.ref 69), some (.int (nI f)), some (.int 0), some (.int (nI t)), some (.int (nI t))]) dX8_termOf_67 rfl (by decide) rfl rfl ?_
          refine aw_iinc (npc := 71) (v := nI (t + 1)) (L' := [some (.ref 69), some (.int (nI f)), some (.int 0), some (.int (nI t)), some (.int (nI (t + 1)))]) dX8_termOf_68 rfl rfl (nI_1 _) (by decide) rfl rfl ?_
          refine aw_goto (npc := 21) dX8_termOf_71 (by decide) ?_
          have e9 : mtS (N (22 + 5 * f)) (N (23 + 5 * f)) 0 N t (some u) = some t := by simp [mtS, hc2, Int32.not_le.mp hc4]
          exact ih (t + 1) (by omega) (some t) (e9 ▸ mtS_lt (by omega) hp) ((congrArg (mtM (N (22 + 5 * f)) (N (23 + 5 * f)) 0 N m (t + 1)) e9) ▸ hq)
set_option maxHeartbeats 4000000 in
set_option maxRecDepth 100000 in
theorem m_tL9 {X : List Int32} {d rc rs n : Nat} {Q : am_Q} {o N : Nat → Int32} {a : Nat → Nat → Int32} {h : am_H} {f : Nat} (F : MR o N a h) (hf : f < 8) (hk : wi (N (22 + 5 * f)) 0 5) (hs : wi (N (23 + 5 * f)) 0 1) : ∀ (m t : Nat), t + m = 4 → ∀ p : Option Nat, (∀ u, p = some u → u < 4) → Q (some (.int (bI (mtM (N (22 + 5 * f)) (N (23 + 5 * f)) 9 N m t p)))) n h → AW X mX8_termOf (d + 4) rc rs 21 [some (.ref 69), some (.int (nI f)), some (.int 9), some (.int (bI p)), some (.int (nI t))] [] n h Q := by
  intro m
  induction m with
  | zero =>
    intro t ht p hp hq
    obtain rfl : t = 4 := by omega
    refine aw_iload (npc := 23) rfl dX8_termOf_21 rfl ?_
    refine aw_iconst (npc := 24) (v := 4) (by decide) dX8_termOf_23 rfl ?_
    refine aw_icmp_ge (npc := 27) (tgt := 74) dX8_termOf_24 rfl (by decide) (fun _ => ?_) (fun hc => absurd (nI_le (a := 4) (b := 4) (by omega) (by omega)) hc)
    refine aw_iload_n (npc := 75) rfl dX8_termOf_74 rfl ?_
    refine aw_iret rfl dX8_termOf_75 ?_
    exact hq
  | succ m ih =>
    intro t ht p hp hq
    cases p with
    | none =>
      show AW X mX8_termOf (d + 4) rc rs 21 [some (.ref 69), some (.int (nI f)), some (.int 9), some (.int (-1)), some (.int (nI t))] [] n h Q
      refine aw_iload (npc := 23) rfl dX8_termOf_21 rfl ?_
      refine aw_iconst (npc := 24) (v := 4) (by decide) dX8_termOf_23 rfl ?_
      refine aw_icmp_ge (npc := 27) (tgt := 74) dX8_termOf_24 rfl (by decide) (fun hc => absurd hc (nI_ge (a := t) (b := 4) (by omega) (by omega))) (fun _ => ?_)
      refine aw_aload_n (npc := 28) rfl dX8_termOf_27 rfl ?_
      refine aw_get (npc := 31) dX8_termOf_28 rfl kf_X8_9 F.1 rfl ?_
      refine aw_bipush (npc := 33) (v := 8) (by decide) dX8_termOf_31 rfl ?_
      refine aw_iload (npc := 35) rfl dX8_termOf_33 rfl ?_
      refine aw_iaddV (npc := 36) (v := nI (8 + t)) dX8_termOf_35 rfl (nI_add 8 _) ?_
      refine aw_iald (npc := 37) (x := N (8 + t)) (j := (8 + t)) dX8_termOf_36 rfl F.2.1 (am_ix_nI (by omega)) (tl_at (by omega)) ?_
      refine aw_iload_n (npc := 38) rfl dX8_termOf_37 rfl ?_
      refine aw_icmp_eq (npc := 41) (tgt := 68) dX8_termOf_38 rfl (by decide) (fun hc2 => ?_) (fun hc2 => ?_)
      · refine aw_iinc (npc := 71) (v := nI (t + 1)) (L' := [some (.ref 69), some (.int (nI f)), some (.int 9), some (.int (-1)), some (.int (nI (t + 1)))]) dX8_termOf_68 rfl rfl (nI_1 _) (by decide) rfl rfl ?_
        refine aw_goto (npc := 21) dX8_termOf_71 (by decide) ?_
        have e9 : mtS (N (22 + 5 * f)) (N (23 + 5 * f)) 9 N t none = none := by simp [mtS, hc2]
        exact ih (t + 1) (by omega) (none) (e9 ▸ mtS_lt (by omega) hp) ((congrArg (mtM (N (22 + 5 * f)) (N (23 + 5 * f)) 9 N m (t + 1)) e9) ▸ hq)
      · refine aw_iload_n (npc := 42) rfl dX8_termOf_41 rfl ?_
        refine aw_if_lt (npc := 45) (tgt := 61) dX8_termOf_42 rfl (by decide) (fun _ => ?_) (fun hc => absurd (by decide) hc)
        refine aw_iload (npc := 63) rfl dX8_termOf_61 rfl ?_
        refine aw_goto (npc := 67) dX8_termOf_63 (by decide) ?_
        refine aw_istore_n (npc := 68) (L' := [some (.ref 69), some (.int (nI f)), some (.int 9), some (.int (nI t)), some (.int (nI t))]) dX8_termOf_67 rfl (by decide) rfl rfl ?_
        refine aw_iinc (npc := 71) (v := nI (t + 1)) (L' := [some (.ref 69), some (.int (nI f)), some (.int 9), some (.int (nI t)), some (.int (nI (t + 1)))]) dX8_termOf_68 rfl rfl (nI_1 _) (by decide) rfl rfl ?_
        refine aw_goto (npc := 21) dX8_termOf_71 (by decide) ?_
        have e9 : mtS (N (22 + 5 * f)) (N (23 + 5 * f)) 9 N t none = some t := by simp [mtS, hc2]
        exact ih (t + 1) (by omega) (some t) (e9 ▸ mtS_lt (by omega) hp) ((congrArg (mtM (N (22 + 5 * f)) (N (23 + 5 * f)) 9 N m (t + 1)) e9) ▸ hq)
    | some u =>
      have hu := hp u rfl
      show AW X mX8_termOf (d + 4) rc rs 21 [some (.ref 69), some (.int (nI f)), some (.int 9), some (.int (nI u)), some (.int (nI t))] [] n h Q
      refine aw_iload (npc := 23) rfl dX8_termOf_21 rfl ?_
      refine aw_iconst (npc := 24) (v := 4) (by decide) dX8_termOf_23 rfl ?_
      refine aw_icmp_ge (npc := 27) (tgt := 74) dX8_termOf_24 rfl (by decide) (fun hc => absurd hc (nI_ge (a := t) (b := 4) (by omega) (by omega))) (fun _ => ?_)
      refine aw_aload_n (npc := 28) rfl dX8_termOf_27 rfl ?_
      refine aw_get (npc := 31) dX8_termOf_28 rfl kf_X8_9 F.1 rfl ?_
      refine aw_bipush (npc := 33) (v := 8) (by decide) dX8_termOf_31 rfl ?_
      refine aw_iload (npc := 35) rfl dX8_termOf_33 rfl ?_
      refine aw_iaddV (npc := 36) (v := nI (8 + t)) dX8_termOf_35 rfl (nI_add 8 _) ?_
      refine aw_iald (npc := 37) (x := N (8 + t)) (j := (8 + t)) dX8_termOf_36 rfl F.2.1 (am_ix_nI (by omega)) (tl_at (by omega)) ?_
      refine aw_iload_n (npc := 38) rfl dX8_termOf_37 rfl ?_
      refine aw_icmp_eq (npc := 41) (tgt := 68) dX8_termOf_38 rfl (by decide) (fun hc2 => ?_) (fun hc2 => ?_)
      · refine aw_iinc (npc := 71) (v := nI (t + 1)) (L' := [some (.ref 69), some (.int (nI f)), some (.int 9), some (.int (nI u)), some (.int (nI (t + 1)))]) dX8_termOf_68 rfl rfl (nI_1 _) (by decide) rfl rfl ?_
        refine aw_goto (npc := 21) dX8_termOf_71 (by decide) ?_
        have e9 : mtS (N (22 + 5 * f)) (N (23 + 5 * f)) 9 N t (some u) = some u := by simp [mtS, hc2]
        exact ih (t + 1) (by omega) (some u) (e9 ▸ mtS_lt (by omega) hp) ((congrArg (mtM (N (22 + 5 * f)) (N (23 + 5 * f)) 9 N m (t + 1)) e9) ▸ hq)
      · refine aw_iload_n (npc := 42) rfl dX8_termOf_41 rfl ?_
        refine aw_if_lt (npc := 45) (tgt := 61) dX8_termOf_42 rfl (by decide) (fun hc => absurd hc (Int32.not_lt.mpr ((nI_leI (a := 0) (b := u) (by omega) (by omega)).mpr (by omega)))) (fun _ => ?_)
        refine aw_aload_n (npc := 46) rfl dX8_termOf_45 rfl ?_
        refine aw_iload_n (npc := 47) rfl dX8_termOf_46 rfl ?_
        refine aw_iload (npc := 49) rfl dX8_termOf_47 rfl ?_
        refine aw_callV (npc := 52) (N := mX8_pickOf) (b := 69) (mc := 0) (ms := 0) (A := [.int (nI f), .int (nI t)]) (S := []) (L0 := [some (.ref 69), some (.int (nI f)), some (.int (nI t)), none, none]) dX8_termOf_49 rfl km_X8_pickOf kk_X8_111 F.1 ⟨by decide, rfl⟩ rfl ⟨rfl, by decide⟩ rfl (Nat.le_of_ble_eq_true rfl) (Nat.zero_add _) (Nat.zero_add _) rfl ?_
        refine m_pick (f := f) (t := t) F hf hk hs (by omega) ?_
        refine aw_re (S' := [.int (mpk (N (22 + 5 * f)) (N (23 + 5 * f)) N t)]) rfl ?_
        refine aw_aload_n (npc := 53) rfl dX8_termOf_52 rfl ?_
        refine aw_iload_n (npc := 54) rfl dX8_termOf_53 rfl ?_
        refine aw_iload_n (npc := 55) rfl dX8_termOf_54 rfl ?_
        refine aw_callV (npc := 58) (N := mX8_pickOf) (b := 69) (mc := 0) (ms := 0) (A := [.int (nI f), .int (nI u)]) (S := [.int (mpk (N (22 + 5 * f)) (N (23 + 5 * f)) N t)]) (L0 := [some (.ref 69), some (.int (nI f)), some (.int (nI u)), none, none]) dX8_termOf_55 rfl km_X8_pickOf kk_X8_111 F.1 ⟨by decide, rfl⟩ rfl ⟨rfl, by decide⟩ rfl (Nat.le_of_ble_eq_true rfl) (Nat.zero_add _) (Nat.zero_add _) rfl ?_
        refine m_pick (f := f) (t := u) F hf hk hs (by omega) ?_
        refine aw_re (S' := [.int (mpk (N (22 + 5 * f)) (N (23 + 5 * f)) N u), .int (mpk (N (22 + 5 * f)) (N (23 + 5 * f)) N t)]) rfl ?_
        refine aw_icmp_ge (npc := 61) (tgt := 66) dX8_termOf_58 rfl (by decide) (fun hc4 => ?_) (fun hc4 => ?_)
        · refine aw_iload_n (npc := 67) rfl dX8_termOf_66 rfl ?_
          refine aw_istore_n (npc := 68) (L' := [some (.ref 69), some (.int (nI f)), some (.int 9), some (.int (nI u)), some (.int (nI t))]) dX8_termOf_67 rfl (by decide) rfl rfl ?_
          refine aw_iinc (npc := 71) (v := nI (t + 1)) (L' := [some (.ref 69), some (.int (nI f)), some (.int 9), some (.int (nI u)), some (.int (nI (t + 1)))]) dX8_termOf_68 rfl rfl (nI_1 _) (by decide) rfl rfl ?_
          refine aw_goto (npc := 21) dX8_termOf_71 (by decide) ?_
          have e9 : mtS (N (22 + 5 * f)) (N (23 + 5 * f)) 9 N t (some u) = some u := by simp [mtS, hc2, Int32.not_lt.mpr hc4]
          exact ih (t + 1) (by omega) (some u) (e9 ▸ mtS_lt (by omega) hp) ((congrArg (mtM (N (22 + 5 * f)) (N (23 + 5 * f)) 9 N m (t + 1)) e9) ▸ hq)
        · refine aw_iload (npc := 63) rfl dX8_termOf_61 rfl ?_
          refine aw_goto (npc := 67) dX8_termOf_63 (by decide) ?_
          refine aw_istore_n (npc := 68) (L' := [some (.ref 69), some (.int (nI f)), some (.int 9), some (.int (nI t)), some (.int (nI t))]) dX8_termOf_67 rfl (by decide) rfl rfl ?_
          refine aw_iinc (npc := 71) (v := nI (t + 1)) (L' := [some (.ref 69), some (.int (nI f)), some (.int 9), some (.int (nI t)), some (.int (nI (t + 1)))]) dX8_termOf_68 rfl rfl (nI_1 _) (by decide) rfl rfl ?_
          refine aw_goto (npc := 21) dX8_termOf_71 (by decide) ?_
          have e9 : mtS (N (22 + 5 * f)) (N (23 + 5 * f)) 9 N t (some u) = some t := by simp [mtS, hc2, Int32.not_le.mp hc4]
          exact ih (t + 1) (by omega) (some t) (e9 ▸ mtS_lt (by omega) hp) ((congrArg (mtM (N (22 + 5 * f)) (N (23 + 5 * f)) 9 N m (t + 1)) e9) ▸ hq)
def mt (N : Nat → Int32) (f : Nat) : Option Nat := mtM (N (22 + 5 * f)) (N (23 + 5 * f)) (if N (23 + 5 * f) = 0 then 0 else 9) N 4 0 none
set_option maxHeartbeats 4000000 in
set_option maxRecDepth 100000 in
theorem m_term {X : List Int32} {d rc rs n : Nat} {Q : am_Q} {o N : Nat → Int32} {a : Nat → Nat → Int32} {h : am_H} {f : Nat} (F : MR o N a h) (hf : f < 8) (hk : wi (N (22 + 5 * f)) 0 5) (hs : wi (N (23 + 5 * f)) 0 1) (hq : Q (some (.int (bI (mt N f)))) n h) : AW X mX8_termOf (d + 4) rc rs 0 [some (.ref 69), some (.int (nI f)), none, none, none] [] n h Q := by
  refine aw_aload_n (npc := 1) rfl dX8_termOf_0 rfl ?_
  refine aw_iload_n (npc := 2) rfl dX8_termOf_1 rfl ?_
  refine aw_iconst (npc := 3) (v := 1) (by decide) dX8_termOf_2 rfl ?_
  refine aw_callV (npc := 6) (N := mX8_of) (b := 69) (mc := 0) (ms := 0) (A := [.int (nI f), .int 1]) (S := []) (L0 := [some (.ref 69), some (.int (nI f)), some (.int 1)]) dX8_termOf_3 rfl km_X8_of kk_X8_101 F.1 ⟨by decide, rfl⟩ rfl ⟨rfl, by decide⟩ rfl (Nat.le_of_ble_eq_true rfl) (Nat.zero_add _) (Nat.zero_add _) rfl ?_
  refine m_of1 (f := f) F (by omega) ?_
  refine aw_re (S' := [.int (N (23 + 5 * f))]) rfl ?_
  rcases wi_c0_1 hs with es | es
  · refine aw_top (y := 0) es ?_
    refine aw_if_ne (npc := 9) (tgt := 13) dX8_termOf_6 rfl (by decide) (fun hc => absurd (by decide) hc) (fun _ => ?_)
    refine aw_iconst (npc := 10) (v := 0) (by decide) dX8_termOf_9 rfl ?_
    refine aw_goto (npc := 15) dX8_termOf_10 (by decide) ?_
    refine aw_istore_n (npc := 16) (L' := [some (.ref 69), some (.int (nI f)), some (.int 0), none, none]) dX8_termOf_15 rfl (by decide) rfl rfl ?_
    refine aw_iconst (npc := 17) (v := -1) (by decide) dX8_termOf_16 rfl ?_
    refine aw_istore_n (npc := 18) (L' := [some (.ref 69), some (.int (nI f)), some (.int 0), some (.int (-1)), none]) dX8_termOf_17 rfl (by decide) rfl rfl ?_
    refine aw_iconst (npc := 19) (v := 0) (by decide) dX8_termOf_18 rfl ?_
    refine aw_istore (npc := 21) (L' := [some (.ref 69), some (.int (nI f)), some (.int 0), some (.int (-1)), some (.int 0)]) dX8_termOf_19 rfl (by decide) rfl rfl ?_
    refine aw_locs (L' := [some (.ref 69), some (.int (nI f)), some (.int 0), some (.int (-1)), some (.int (nI 0))]) rfl ?_
    exact m_tL0 F hf hk hs 4 0 (by omega) none (fun u z => by cases z) ((show mt N f = mtM (N (22 + 5 * f)) (N (23 + 5 * f)) 0 N 4 0 none by simp [mt, es]) ▸ hq)
  · refine aw_top (y := 1) es ?_
    refine aw_if_ne (npc := 9) (tgt := 13) dX8_termOf_6 rfl (by decide) (fun _ => ?_) (fun hc => absurd hc (by decide))
    refine aw_bipush (npc := 15) (v := 9) (by decide) dX8_termOf_13 rfl ?_
    refine aw_istore_n (npc := 16) (L' := [some (.ref 69), some (.int (nI f)), some (.int 9), none, none]) dX8_termOf_15 rfl (by decide) rfl rfl ?_
    refine aw_iconst (npc := 17) (v := -1) (by decide) dX8_termOf_16 rfl ?_
    refine aw_istore_n (npc := 18) (L' := [some (.ref 69), some (.int (nI f)), some (.int 9), some (.int (-1)), none]) dX8_termOf_17 rfl (by decide) rfl rfl ?_
    refine aw_iconst (npc := 19) (v := 0) (by decide) dX8_termOf_18 rfl ?_
    refine aw_istore (npc := 21) (L' := [some (.ref 69), some (.int (nI f)), some (.int 9), some (.int (-1)), some (.int 0)]) dX8_termOf_19 rfl (by decide) rfl rfl ?_
    refine aw_locs (L' := [some (.ref 69), some (.int (nI f)), some (.int 9), some (.int (-1)), some (.int (nI 0))]) rfl ?_
    exact m_tL9 F hf hk hs 4 0 (by omega) none (fun u z => by cases z) ((show mt N f = mtM (N (22 + 5 * f)) (N (23 + 5 * f)) 9 N 4 0 none by simp [mt, es]) ▸ hq)
