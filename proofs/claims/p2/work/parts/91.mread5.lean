abbrev ES : Type := (Nat × Nat × Nat) × List Int32 × List Int32 × Nat × (Nat → Int32)
def EM (σ : ES) (L : Nat) (tp : Nat → Int32) (o : Nat → Int32) (a : Nat → Nat → Int32) : Prop := VK L tp σ.1 o ∧ o 19 = nI σ.2.1.length ∧ o 20 = nI σ.2.2.2.1 ∧ o 22 = nI σ.2.2.1.length ∧ (∀ j, j < σ.2.1.length → a 78 j = σ.2.1.getD j 0) ∧ (∀ j, j < σ.2.2.1.length → a 79 j = σ.2.2.1.reverse.getD j 0) ∧ (∀ k, k < 10 → a 80 k = σ.2.2.2.2 k)
def oE (o o0 : Nat → Int32) : Prop := ∀ k, (k < 10 ∨ 14 < k) → k ≠ 19 → k ≠ 20 → k ≠ 22 → o k = o0 k
def aE (a a0 : Nat → Nat → Int32) : Prop := ∀ k, k ≠ 78 → k ≠ 79 → k ≠ 80 → a k = a0 k
def EX (σ : ES) (L : Nat) (o0 N : Nat → Int32) (a0 : Nat → Nat → Int32) (h : am_H) : Prop := ∃ o a, MR o N a h ∧ EM σ L (a0 75) o a ∧ oE o o0 ∧ aE a a0
def WE (σ : ES) (L : Nat) (tp : Nat → Int32) : Prop := WFK L tp σ.1 ∧ L ≤ 96 ∧ σ.2.1.length + σ.2.2.1.length ≤ 96 ∧ σ.2.2.2.1 ≤ 96
theorem ex_frame {σ : ES} {L : Nat} {o0 N : Nat → Int32} {a0 : Nat → Nat → Int32} {h h' : am_H} (H : EX σ L o0 N a0 h) (hf : ∀ k, 69 ≤ k → k < 92 → h' k = h k) : EX σ L o0 N a0 h' := by
  obtain ⟨o, a, F, R⟩ := H
  exact ⟨o, a, mr_frame F hf, R⟩
def stl (r : Int32) : List Int32 → List Int32 → List Int32 × List Int32
  | cs, [] => (cs, [])
  | cs, w :: ws => if w = -11 ∨ rkM w < r then (cs, w :: ws) else stl r (cs ++ [w]) ws
theorem rev_top {w : Int32} {ws : List Int32} : (w :: ws).reverse.getD ws.length 0 = w := by
  rw [List.reverse_cons, List.getD_eq_getElem?_getD, List.getElem?_append_right (by rw [List.length_reverse]; exact Nat.le_refl _), List.length_reverse, Nat.sub_self]; rfl
theorem rev_low {w : Int32} {ws : List Int32} {j : Nat} (h : j < ws.length) : (w :: ws).reverse.getD j 0 = ws.reverse.getD j 0 := by
  rw [List.reverse_cons, List.getD_eq_getElem?_getD, List.getD_eq_getElem?_getD, List.getElem?_append_left (by rw [List.length_reverse]; exact h)]
theorem aup_eq {a : Nat → Nat → Int32} {k j : Nat} {v : Int32} : aup a k j v k = upd (a k) j v := by
  funext i
  simp [aup, upd]
theorem e_push {a : Nat → Nat → Int32} {cs : List Int32} {c : Int32} (h : ∀ j, j < cs.length → a 78 j = cs.getD j 0) : ∀ j, j < (cs ++ [c]).length → aup a 78 cs.length c 78 j = (cs ++ [c]).getD j 0 := by
  rw [aup_eq]; exact em_cd h
theorem e_wait {a : Nat → Nat → Int32} {ws : List Int32} {c : Int32} (h : ∀ j, j < ws.length → a 79 j = ws.reverse.getD j 0) : ∀ j, j < (c :: ws).length → aup a 79 ws.length c 79 j = (c :: ws).reverse.getD j 0 := by
  rw [aup_eq, List.reverse_cons]
  have z := em_cd (cs := ws.reverse) (cd := a 79) (c := c) (fun j hj => h j (by rw [List.length_reverse] at hj; exact hj))
  rw [List.length_reverse] at z
  intro j hj
  exact z j (by rw [List.length_append, List.length_reverse, List.length_singleton]; exact hj)
set_option maxHeartbeats 4000000 in
set_option maxRecDepth 100000 in
theorem m_settle {X : List Int32} {d rc rs n : Nat} {Q : am_Q} {L : Nat} {o0 N : Nat → Int32} {a0 : Nat → Nat → Int32} {K : Nat × Nat × Nat} {at_ : Nat} {tq : Nat → Int32} {r : Int32} : ∀ (ws cs : List Int32) (h : am_H), EX (K, cs, ws, at_, tq) L o0 N a0 h → cs.length + ws.length ≤ 96 → (∀ h9, EX (K, (stl r cs ws).1, (stl r cs ws).2, at_, tq) L o0 N a0 h9 → am_fp (fun k => k < 69 ∨ 92 ≤ k) h9 h → Q none n h9) → AW X mX8_settle (d + 1) rc rs 0 [some (.ref 69), some (.int r)] [] n h Q := by
  intro ws
  induction ws with
  | nil =>
    intro cs h H hb hq
    have H9 := H
    obtain ⟨o, a, F, ⟨vk, m19, m20, m22, mc, mw, mq⟩, ho, ha⟩ := H
    refine aw_aload_n (npc := 1) rfl dX8_settle_0 rfl ?_
    refine aw_get (npc := 4) dX8_settle_1 rfl kf_X8_222 F.1 rfl ?_
    refine aw_top (y := 0) (m22) ?_
    refine aw_if_le (npc := 7) (tgt := 82) dX8_settle_4 rfl (by decide) (fun _ => ?_) (fun hc => absurd (by decide) hc)
    refine aw_vret rfl dX8_settle_82 ?_
    exact hq _ H9 am_fp0
  | cons w ws ih =>
    intro cs h H hb hq
    obtain ⟨o, a, F, ⟨vk, m19, m20, m22, mc, mw, mq⟩, ho, ha⟩ := H
    have hb2 : cs.length + (ws.length + 1) ≤ 96 := hb
    have ew : a 79 ws.length = w := (mw ws.length (by show ws.length < ws.length + 1; omega)).trans rev_top
    refine aw_aload_n (npc := 1) rfl dX8_settle_0 rfl ?_
    refine aw_get (npc := 4) dX8_settle_1 rfl kf_X8_222 F.1 rfl ?_
    refine aw_top (y := nI (ws.length + 1)) (m22) ?_
    refine aw_if_le (npc := 7) (tgt := 82) dX8_settle_4 rfl (by decide) (fun hc => absurd hc ((fun z => absurd ((nI_leI (a := ws.length + 1) (b := 0) (by omega) (by omega)).mp z) (by omega)))) (fun _ => ?_)
    refine aw_aload_n (npc := 8) rfl dX8_settle_7 rfl ?_
    refine aw_get (npc := 11) dX8_settle_8 rfl kf_X8_42 F.1 rfl ?_
    refine aw_aload_n (npc := 12) rfl dX8_settle_11 rfl ?_
    refine aw_get (npc := 15) dX8_settle_12 rfl kf_X8_222 F.1 rfl ?_
    refine aw_top (y := nI (ws.length + 1)) (m22) ?_
    refine aw_iconst (npc := 16) (v := 1) (by decide) dX8_settle_15 rfl ?_
    refine aw_isubV (npc := 17) (v := nI ws.length) dX8_settle_16 rfl (pk_sub (a := ws.length + 1) (b := 1) (by omega)) ?_
    refine aw_iald (npc := 18) (x := (a 79) ws.length) (j := ws.length) dX8_settle_17 rfl F.2.2.2.2.2.2.2.2.2.2.1 (am_ix_nI (by omega)) (tl_at (by omega)) ?_
    refine aw_top (y := w) ew ?_
    refine aw_bipush (npc := 20) (v := -11) (by decide) dX8_settle_18 rfl ?_
    refine aw_icmp_eq (npc := 23) (tgt := 82) dX8_settle_20 rfl (by decide) (fun hc2 => ?_) (fun hc2 => ?_)
    · refine aw_vret rfl dX8_settle_82 ?_
      refine hq _ ?_ am_fp0
      rw [stl, if_pos (show w = -11 ∨ rkM w < r from Or.inl hc2)]; exact ⟨o, a, F, ⟨vk, m19, m20, m22, mc, mw, mq⟩, ho, ha⟩
    · refine aw_aload_n (npc := 24) rfl dX8_settle_23 rfl ?_
      refine aw_get (npc := 27) dX8_settle_24 rfl kf_X8_42 F.1 rfl ?_
      refine aw_aload_n (npc := 28) rfl dX8_settle_27 rfl ?_
      refine aw_get (npc := 31) dX8_settle_28 rfl kf_X8_222 F.1 rfl ?_
      refine aw_top (y := nI (ws.length + 1)) (m22) ?_
      refine aw_iconst (npc := 32) (v := 1) (by decide) dX8_settle_31 rfl ?_
      refine aw_isubV (npc := 33) (v := nI ws.length) dX8_settle_32 rfl (pk_sub (a := ws.length + 1) (b := 1) (by omega)) ?_
      refine aw_iald (npc := 34) (x := (a 79) ws.length) (j := ws.length) dX8_settle_33 rfl F.2.2.2.2.2.2.2.2.2.2.1 (am_ix_nI (by omega)) (tl_at (by omega)) ?_
      refine aw_top (y := w) ew ?_
      refine aw_callS (npc := 37) (N := mX8_rank) (mc := 0) (ms := 0) (A := [.int w]) (S := []) (L0 := [some (.int w)]) dX8_settle_34 rfl km_X8_rank kk_X8_225 rfl ⟨rfl, by decide⟩ rfl (Nat.le_of_ble_eq_true rfl) (Nat.zero_add _) (Nat.zero_add _) rfl ?_
      refine m_rank ?_
      refine aw_re (S' := [.int (rkM w)]) rfl ?_
      refine aw_iload_n (npc := 38) rfl dX8_settle_37 rfl ?_
      refine aw_icmp_lt (npc := 41) (tgt := 82) dX8_settle_38 rfl (by decide) (fun hc3 => ?_) (fun hc3 => ?_)
      · refine aw_vret rfl dX8_settle_82 ?_
        refine hq _ ?_ am_fp0
        rw [stl, if_pos (show w = -11 ∨ rkM w < r from Or.inr hc3)]; exact ⟨o, a, F, ⟨vk, m19, m20, m22, mc, mw, mq⟩, ho, ha⟩
      · refine aw_aload_n (npc := 42) rfl dX8_settle_41 rfl ?_
        refine aw_dup (npc := 43) rfl dX8_settle_42 rfl ?_
        refine aw_get (npc := 46) dX8_settle_43 rfl kf_X8_222 F.1 rfl ?_
        refine aw_top (y := nI (ws.length + 1)) (m22) ?_
        refine aw_iconst (npc := 47) (v := 1) (by decide) dX8_settle_46 rfl ?_
        refine aw_isubV (npc := 48) (v := nI ws.length) dX8_settle_47 rfl (pk_sub (a := ws.length + 1) (b := 1) (by omega)) ?_
        refine aw_put (npc := 51) dX8_settle_48 rfl kf_X8_222 F.1 (Nat.le_of_ble_eq_true rfl) (am_ok_int _) rfl ?_
        have F4 := mr_o22 (v := nI ws.length) F
        refine aw_aload_n (npc := 52) rfl dX8_settle_51 rfl ?_
        refine aw_get (npc := 55) dX8_settle_52 rfl kf_X8_39 F4.1 rfl ?_
        refine aw_aload_n (npc := 56) rfl dX8_settle_55 rfl ?_
        refine aw_get (npc := 59) dX8_settle_56 rfl kf_X8_228 F4.1 rfl ?_
        refine aw_top (y := o 19) ((pk_un (by omega))) ?_
        refine aw_top (y := nI cs.length) (m19) ?_
        refine aw_aload_n (npc := 60) rfl dX8_settle_59 rfl ?_
        refine aw_get (npc := 63) dX8_settle_60 rfl kf_X8_42 F4.1 rfl ?_
        refine aw_aload_n (npc := 64) rfl dX8_settle_63 rfl ?_
        refine aw_get (npc := 67) dX8_settle_64 rfl kf_X8_222 F4.1 rfl ?_
        refine aw_top (y := nI ws.length) (pk_us) ?_
        refine aw_iald (npc := 68) (x := (a 79) ws.length) (j := ws.length) dX8_settle_67 rfl F4.2.2.2.2.2.2.2.2.2.2.1 (am_ix_nI (by omega)) (tl_at (by omega)) ?_
        refine aw_top (y := w) ew ?_
        refine aw_iast (npc := 69) (j := cs.length) dX8_settle_68 rfl F4.2.2.2.2.2.2.2.2.2.1 (am_ix_nI (by omega)) (by rw [tl_len]; omega) rfl ?_
        have F5 := mr_78 (j := cs.length) (v := w) F4
        refine aw_aload_n (npc := 70) rfl dX8_settle_69 rfl ?_
        refine aw_dup (npc := 71) rfl dX8_settle_70 rfl ?_
        refine aw_get (npc := 74) dX8_settle_71 rfl kf_X8_228 F5.1 rfl ?_
        refine aw_top (y := o 19) ((pk_un (by omega))) ?_
        refine aw_top (y := nI cs.length) (m19) ?_
        refine aw_iconst (npc := 75) (v := 1) (by decide) dX8_settle_74 rfl ?_
        refine aw_iaddV (npc := 76) (v := nI (cs.length + 1)) dX8_settle_75 rfl (nI_add _ 1) ?_
        refine aw_put (npc := 79) dX8_settle_76 rfl kf_X8_228 F5.1 (Nat.le_of_ble_eq_true rfl) (am_ok_int _) rfl ?_
        have F6 := mr_o19 (v := nI (cs.length + 1)) F5
        refine aw_goto (npc := 0) dX8_settle_79 (by decide) ?_
        have hs9 : ¬ (w = -11 ∨ rkM w < r) := fun z => z.elim hc2 hc3
        refine ih (cs ++ [w]) _ ⟨_, _, F6, ⟨vk_u (by decide) (vk_u (by decide) vk), (pk_us.trans (by rw [List.length_append, List.length_singleton])), (pk_un (by decide)).trans ((pk_un (by decide)).trans m20), (pk_un (by decide)).trans pk_us, e_push mc, (fun j hj => (congrFun (aup_n (by decide)) j).trans ((mw j (by have z : j < ws.length := hj; show j < ws.length + 1; omega)).trans (rev_low hj))), (fun k hk => (congrFun (aup_n (by decide)) k).trans (mq k hk))⟩, (fun k k1 k2 k3 k4 => (pk_un k2).trans ((pk_un k4).trans (ho k k1 k2 k3 k4))), (fun k k1 k2 k3 => (aup_n k1).trans (ha k k1 k2 k3))⟩ (by rw [List.length_append, List.length_singleton]; omega) (fun h9 H9 f9 => hq h9 ?_ (am_fpT f9 (am_fpU (show ¬ (69 < 69 ∨ 92 ≤ 69) by omega) (am_fpU (show ¬ (78 < 69 ∨ 92 ≤ 78) by omega) (am_fpU (show ¬ (69 < 69 ∨ 92 ≤ 69) by omega) am_fp0)))))
        rw [stl, if_neg hs9]; exact H9
