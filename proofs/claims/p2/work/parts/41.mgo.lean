def mkq (N9 N : Nat → Int32) : Prop := ∀ k, k ≠ 0 → k ≠ 2 → k ≠ 3 → k ≠ 6 → (k < 8 ∨ 12 ≤ k) → (∀ f, f < 8 → k ≠ 25 + 5 * f ∧ k ≠ 26 + 5 * f) → N9 k = N k
theorem mkq_t {x y z : Nat → Int32} (h1 : mkq x y) (h2 : mkq y z) : mkq x z := fun k a b c e f g => (h1 k a b c e f g).trans (h2 k a b c e f g)
theorem mi_q {N9 N : Nat → Int32} {c fr : Nat} (h : mkq N9 N) (H : MI N c fr) : MI N9 c fr := by
  obtain ⟨⟨h7, hc, ht⟩, h1, h8, hf⟩ := H
  refine ⟨⟨(h 7 (by omega) (by omega) (by omega) (by omega) (by omega) (by omega)).trans h7, hc, fun t htc => ?_⟩, (h 1 (by omega) (by omega) (by omega) (by omega) (by omega) (by omega)).trans h1, h8, fun f hfr => ?_⟩
  · obtain ⟨ky, lc, a1, a2, a3, a4, a5⟩ := ht t htc
    refine ⟨ky, lc, a1, a2, a3, (h _ (by omega) (by omega) (by omega) (by omega) (by omega) (by omega)).trans a4, ?_⟩
    have e : (fun z9 => N9 (90 + 96 * t + z9)) = (fun z9 => N (90 + 96 * t + z9)) := funext (fun z => h _ (by omega) (by omega) (by omega) (by omega) (by omega) (by omega))
    rw [e]; exact a5
  · rw [h (22 + 5 * f) (by omega) (by omega) (by omega) (by omega) (by omega) (by omega), h (23 + 5 * f) (by omega) (by omega) (by omega) (by omega) (by omega) (by omega)]
    exact hf f hfr
theorem LSm_keep {c : Nat} {si : Int32} : ∀ (m f : Nat) (σ σ' : (Nat → Int32) × (Nat → Int32) × Int32), f + m ≤ 8 → LSm c si m f σ σ' → mkp σ'.1 σ.1 := by
  intro m
  induction m with
  | zero => intro f σ σ' _ h; cases h; exact fun _ _ _ _ => rfl
  | succ m ih =>
    intro f σ σ' hf h
    rcases h with ⟨_, h⟩ | ⟨_, σ1, h1, h⟩
    · exact ih (f + 1) σ σ' (by omega) h
    · exact mkp_t (ih (f + 1) σ1 σ' (by omega) h) (mLe_keep (by omega) h1)
theorem mPo_keep {c fr : Nat} {si : Int32} {mv N N9 : Nat → Int32} (hfr : fr ≤ 8) (H : mPo c fr si mv N N9) : mkq N9 N := by
  rcases H with ⟨_, rfl⟩ | ⟨_, _, σ, h, rfl⟩
  · exact fun k _ h2 _ _ _ _ => pk_un h2
  · intro k h0 h2 h3 h6 h8 hf
    have e := LSm_keep fr 0 _ _ (by omega) h k h0 h6 hf
    unfold endM
    rw [pk_un h3, pk_un (by omega), pk_un (by omega), pk_un (by omega), pk_un (by omega), e]
    exact pk_un h2
def gOn (c fr : Nat) (si : Int32) : Nat → (Nat → Int32) → (Nat → Int32) → Prop
  | 0, N, N9 => N9 = N
  | m + 1, N, N9 => ∃ mv N1, mPo c fr si mv N N1 ∧ gOn c fr si m N1 N9
theorem gOn_keep {c fr : Nat} {si : Int32} (hfr : fr ≤ 8) : ∀ (m : Nat) (N N9 : Nat → Int32), gOn c fr si m N N9 → mkq N9 N := by
  intro m
  induction m with
  | zero => intro N N9 h; cases h; exact fun _ _ _ _ _ _ _ => rfl
  | succ m ih =>
    intro N N9 h
    obtain ⟨mv, N1, h1, h2⟩ := h
    exact mkq_t (ih N1 N9 h2) (mPo_keep hfr h1)
set_option maxHeartbeats 4000000 in
set_option maxRecDepth 100000 in
theorem m_goL {X : List Int32} {d rc rs n : Nat} {Q : am_Q} {c fr p : Nat} (hp : p < 1000) : ∀ (m k : Nat), k + m = p → ∀ (o N : Nat → Int32) (a : Nat → Nat → Int32) (h : am_H), MR o N a h → MI N c fr → (∀ o9 N9 a9 h9, gOn c fr (o 4) m N N9 → MR o9 N9 a9 h9 → ol6 o9 o → al3 a9 a → am_fb 69 92 h9 h → Q none n h9) → AW X mX8_goesOn (d + 9) rc rs 2 [some (.ref 69), some (.int (nI p)), some (.int (nI k))] [] n h Q := by
  intro m
  induction m with
  | zero =>
    intro k hk o N a h F H hq
    obtain rfl : k = p := by omega
    refine aw_iload_n (npc := 3) rfl dX8_goesOn_2 rfl ?_
    refine aw_iload_n (npc := 4) rfl dX8_goesOn_3 rfl ?_
    refine aw_icmp_ge (npc := 7) (tgt := 17) dX8_goesOn_4 rfl (by decide) (fun _ => ?_) (fun hc => absurd (nI_le (a := k) (b := k) (by omega) (by omega)) hc)
    refine aw_vret rfl dX8_goesOn_17 ?_
    exact hq _ _ _ _ rfl F (fun _ _ => rfl) (fun _ _ _ _ => rfl) am_fb0
  | succ m ih =>
    intro k hk o N a h F H hq
    refine aw_iload_n (npc := 3) rfl dX8_goesOn_2 rfl ?_
    refine aw_iload_n (npc := 4) rfl dX8_goesOn_3 rfl ?_
    refine aw_icmp_ge (npc := 7) (tgt := 17) dX8_goesOn_4 rfl (by decide) (fun hc => absurd hc (nI_ge (a := k) (b := p) (by omega) (by omega))) (fun _ => ?_)
    refine aw_aload_n (npc := 8) rfl dX8_goesOn_7 rfl ?_
    refine aw_callV (npc := 11) (N := mX8_post) (b := 69) (mc := 0) (ms := 0) (A := []) (S := []) (L0 := [some (.ref 69), none]) dX8_goesOn_8 rfl km_X8_post kk_X8_157 F.1 ⟨by decide, rfl⟩ rfl ⟨rfl, by decide⟩ rfl (Nat.le_of_ble_eq_true rfl) (Nat.zero_add _) (Nat.zero_add _) rfl ?_
    refine m_post F H (fun oL NL aL hL rL ML olL alL fbL => ?_)
    refine aw_iinc (npc := 14) (v := nI (k + 1)) (L' := [some (.ref 69), some (.int (nI p)), some (.int (nI (k + 1)))]) dX8_goesOn_11 rfl rfl (nI_1 _) (by decide) rfl rfl ?_
    refine aw_goto (npc := 2) dX8_goesOn_14 (by decide) ?_
    exact ih (k + 1) (by omega) oL NL aL hL ML (mi_q (mPo_keep H.2.2.1 rL) H) (fun o9 N9 a9 h9 r9 M9 ol9 al9 fb9 => hq o9 N9 a9 h9 ⟨_, _, rL, (olL 4 (by decide)) ▸ r9⟩ M9 (fun k hk => (ol9 k hk).trans (olL k hk)) (fun k x y z => (al9 k x y z).trans (alL k x y z)) (am_fbT fb9 fbL))
set_option maxHeartbeats 4000000 in
set_option maxRecDepth 100000 in
theorem m_go {X : List Int32} {d rc rs n : Nat} {Q : am_Q} {o N : Nat → Int32} {a : Nat → Nat → Int32} {h : am_H} {c fr p : Nat} (hp : p < 1000) (F : MR o N a h) (H : MI N c fr) (hq : (∀ o9 N9 a9 h9, gOn c fr (o 4) p N N9 → MR o9 N9 a9 h9 → ol6 o9 o → al3 a9 a → am_fb 69 92 h9 h → Q none n h9)) : AW X mX8_goesOn (d + 9) rc rs 0 [some (.ref 69), some (.int (nI p)), none] [] n h Q := by
  refine aw_iconst (npc := 1) (v := 0) (by decide) dX8_goesOn_0 rfl ?_
  refine aw_istore_n (npc := 2) (L' := [some (.ref 69), some (.int (nI p)), some (.int 0)]) dX8_goesOn_1 rfl (by decide) rfl rfl ?_
  refine aw_locs (L' := [some (.ref 69), some (.int (nI p)), some (.int (nI 0))]) rfl ?_
  exact m_goL hp p 0 (by omega) _ _ _ _ F H hq
