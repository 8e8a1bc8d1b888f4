def mkp (N9 N : Nat → Int32) : Prop := ∀ k, k ≠ 0 → k ≠ 6 → (∀ f, f < 8 → k ≠ 25 + 5 * f ∧ k ≠ 26 + 5 * f) → N9 k = N k
theorem mkp_t {x y z : Nat → Int32} (h1 : mkp x y) (h2 : mkp y z) : mkp x z := fun k a b c => (h1 k a b c).trans (h2 k a b c)
def MI (N : Nat → Int32) (c fr : Nat) : Prop := TXM N c ∧ N 1 = nI fr ∧ fr ≤ 8 ∧ ∀ f, f < fr → wi (N (22 + 5 * f)) 0 5 ∧ wi (N (23 + 5 * f)) 0 1
theorem mi_keep {N9 N : Nat → Int32} {c fr : Nat} (h : mkp N9 N) (H : MI N c fr) : MI N9 c fr := by
  obtain ⟨⟨h7, hc, ht⟩, h1, h8, hf⟩ := H
  refine ⟨⟨(h 7 (by omega) (by omega) (by omega)).trans h7, hc, fun t htc => ?_⟩, (h 1 (by omega) (by omega) (by omega)).trans h1, h8, fun f hfr => ?_⟩
  · obtain ⟨ky, lc, a1, a2, a3, a4, a5⟩ := ht t htc
    refine ⟨ky, lc, a1, a2, a3, (h _ (by omega) (by omega) (by omega)).trans a4, ?_⟩
    have e : (fun z9 => N9 (90 + 96 * t + z9)) = (fun z9 => N (90 + 96 * t + z9)) := funext (fun z => h _ (by omega) (by omega) (by omega))
    rw [e]; exact a5
  · rw [h (22 + 5 * f) (by omega) (by omega) (by omega), h (23 + 5 * f) (by omega) (by omega) (by omega)]
    exact hf f hfr
theorem mkp_d {N : Nat → Int32} {f : Nat} (hf : f < 8) : mkp (drawN (sentN N f)) N := fun k h0 h6 hk => (pk_un h0).trans (pk_un (hk f hf).1)
theorem mLe_keep {TN : (Nat → Int32) → Int32 → Prop} {f : Nat} {σ σ' : (Nat → Int32) × (Nat → Int32) × Int32} (hf : f < 8) (H : mLe TN f σ σ') : mkp σ'.1 σ.1 := by
  rcases H with ⟨_, rfl⟩ | ⟨_, τ, _, ⟨_, rfl⟩ | ⟨_, _, rfl⟩ | ⟨_, t, _, _, rfl⟩⟩
  · exact fun k h0 h6 hk => (pk_un h6).trans (mkp_d hf k h0 h6 hk)
  · exact mkp_d hf
  · exact mkp_d hf
  · exact fun k h0 h6 hk => (pk_un (hk f hf).2).trans (mkp_d hf k h0 h6 hk)
def LSm (c : Nat) (si : Int32) : Nat → Nat → (Nat → Int32) × (Nat → Int32) × Int32 → (Nat → Int32) × (Nat → Int32) × Int32 → Prop
  | 0, _, σ, σ' => σ' = σ
  | m + 1, f, σ, σ' => (nI f = si ∧ LSm c si m (f + 1) σ σ') ∨ (¬ nI f = si ∧ ∃ σ1, mLe (fun N τ => MTr N c f τ) f σ σ1 ∧ LSm c si m (f + 1) σ1 σ')
set_option maxHeartbeats 4000000 in
set_option maxRecDepth 100000 in
theorem m_letL {X : List Int32} {d rc rs n : Nat} {Q : am_Q} {c fr : Nat} (hfr : fr ≤ 8) : ∀ (m f : Nat), f + m = fr → ∀ (o N : Nat → Int32) (a : Nat → Nat → Int32) (h : am_H), MR o N a h → MI N c fr → (∀ o9 N9 a9 h9, LSm c (o 4) m f (N, a 73, o 6) (N9, a9 73, o9 6) → MR o9 N9 a9 h9 → ol6 o9 o → al3 a9 a → am_fb 69 92 h9 h → AW X mX8_post (d + 7) rc rs 89 [some (.ref 69), some (.int (nI fr))] [] n h9 Q) → AW X mX8_post (d + 7) rc rs 60 [some (.ref 69), some (.int (nI f))] [] n h Q := by
  intro m
  induction m with
  | zero =>
    intro f hf o N a h F H hq
    obtain rfl : f = fr := by omega
    refine aw_iload_n (npc := 61) rfl dX8_post_60 rfl ?_
    refine aw_aload_n (npc := 62) rfl dX8_post_61 rfl ?_
    refine aw_get (npc := 65) dX8_post_62 rfl kf_X8_9 F.1 rfl ?_
    refine aw_iconst (npc := 66) (v := 1) (by decide) dX8_post_65 rfl ?_
    refine aw_iald (npc := 67) (x := N 1) (j := 1) dX8_post_66 rfl F.2.1 ⟨by decide, by decide⟩ (tl_at (by omega)) ?_
    refine aw_top (y := nI f) (H.2.1) ?_
    refine aw_icmp_ge (npc := 70) (tgt := 89) dX8_post_67 rfl (by decide) (fun _ => ?_) (fun hc => absurd (nI_le (a := f) (b := f) (by omega) (by omega)) hc)
    exact hq _ _ _ _ rfl F (fun _ _ => rfl) (fun _ _ _ _ => rfl) am_fb0
  | succ m ih =>
    intro f hf o N a h F H hq
    refine aw_iload_n (npc := 61) rfl dX8_post_60 rfl ?_
    refine aw_aload_n (npc := 62) rfl dX8_post_61 rfl ?_
    refine aw_get (npc := 65) dX8_post_62 rfl kf_X8_9 F.1 rfl ?_
    refine aw_iconst (npc := 66) (v := 1) (by decide) dX8_post_65 rfl ?_
    refine aw_iald (npc := 67) (x := N 1) (j := 1) dX8_post_66 rfl F.2.1 ⟨by decide, by decide⟩ (tl_at (by omega)) ?_
    refine aw_top (y := nI fr) (H.2.1) ?_
    refine aw_icmp_ge (npc := 70) (tgt := 89) dX8_post_67 rfl (by decide) (fun hc => absurd hc (nI_ge (a := f) (b := fr) (by omega) (by omega))) (fun _ => ?_)
    refine aw_iload_n (npc := 71) rfl dX8_post_70 rfl ?_
    refine aw_aload_n (npc := 72) rfl dX8_post_71 rfl ?_
    refine aw_get (npc := 75) dX8_post_72 rfl kf_X8_19 F.1 rfl ?_
    refine aw_icmp_eq (npc := 78) (tgt := 83) dX8_post_75 rfl (by decide) (fun hc2 => ?_) (fun hc2 => ?_)
    · refine aw_iinc (npc := 86) (v := nI (f + 1)) (L' := [some (.ref 69), some (.int (nI (f + 1)))]) dX8_post_83 rfl rfl (nI_1 _) (by decide) rfl rfl ?_
      refine aw_goto (npc := 60) dX8_post_86 (by decide) ?_
      exact ih (f + 1) (by omega) o N a h F H (fun o9 N9 a9 h9 r9 M9 ol9 al9 fb9 => hq o9 N9 a9 h9 (Or.inl ⟨hc2, r9⟩) M9 ol9 al9 fb9)
    · refine aw_aload_n (npc := 79) rfl dX8_post_78 rfl ?_
      refine aw_iload_n (npc := 80) rfl dX8_post_79 rfl ?_
      refine aw_callV (npc := 83) (N := mX8_letter) (b := 69) (mc := 0) (ms := 0) (A := [.int (nI f)]) (S := []) (L0 := [some (.ref 69), some (.int (nI f)), none]) dX8_post_80 rfl km_X8_letter kk_X8_153 F.1 ⟨by decide, rfl⟩ rfl ⟨rfl, by decide⟩ rfl (Nat.le_of_ble_eq_true rfl) (Nat.zero_add _) (Nat.zero_add _) rfl ?_
      have D9 := mi_keep (mkp_d (N := N) (f := f) (by omega)) H
      refine m_letter F D9.1 (by omega) (D9.2.2.2 f (by omega)).1 (D9.2.2.2 f (by omega)).2 (fun oL NL aL hL rL ML olL alL fbL => ?_)
      refine aw_iinc (npc := 86) (v := nI (f + 1)) (L' := [some (.ref 69), some (.int (nI (f + 1)))]) dX8_post_83 rfl rfl (nI_1 _) (by decide) rfl rfl ?_
      refine aw_goto (npc := 60) dX8_post_86 (by decide) ?_
      exact ih (f + 1) (by omega) oL NL aL hL ML (mi_keep (mLe_keep (by omega) rL) H) (fun o9 N9 a9 h9 r9 M9 ol9 al9 fb9 => hq o9 N9 a9 h9 (Or.inr ⟨hc2, _, rL, (olL 4 (by decide)) ▸ r9⟩) M9 (fun k hk => (ol9 k hk).trans (olL k hk)) (fun k x y z => (al9 k x y z).trans (alL k x y z)) (am_fbT fb9 fbL))
