theorem vk_u {L k : Nat} {tp : Nat → Int32} {K : Nat × Nat × Nat} {o : Nat → Int32} {v : Int32} (hk : k < 10 ∨ 14 < k) (h : VK L tp K o) : VK L tp K (upd o k v) := by
  obtain ⟨h1, h2, h3, h4, h5, h6⟩ := h
  exact ⟨(pk_un (by omega)).trans h1, (pk_un (by omega)).trans h2, (pk_un (by omega)).trans h3, fun z => (pk_un (by omega)).trans (h4 z), fun z => (pk_un (by omega)).trans (h5 z), fun z s a b => by rw [pk_un (by omega)]; exact h6 z s a b⟩
theorem mtk_eq {t j : Nat} (ht : t ≤ 5) (h4 : t ≠ 4) (hj : j < 4) : (mtk t = j ↔ t = j) := by
  unfold mtk
  split <;> omega
def oK (o9 o : Nat → Int32) : Prop := ∀ k, k < 10 ∨ 15 < k → o9 k = o k
set_option maxHeartbeats 4000000 in
set_option maxRecDepth 100000 in
theorem m_key {X : List Int32} {d rc rs n : Nat} {Q : am_Q} {L : Nat} {N : Nat → Int32} {a : Nat → Nat → Int32} {o : Nat → Int32} {h : am_H} (F : MR o N a h) (h9 : o 9 = nI L) (hL : L ≤ 96) {K : Nat × Nat × Nat} (vk : VK L (a 75) K o) (wk : WFK L (a 75) K) (k0 : K.1 = 1 → kz0 (a 75) K.2.1 K.2.2 → ∀ o9 h9x, MR o9 N a h9x → VK L (a 75) (adv L (a 75) K) o9 → o9 15 = nI 0 → oK o9 o → am_fp (fun k => k < 69 ∨ 92 ≤ k) h9x h → Q (some (.int 1)) n h9x) (k1 : K.1 = 1 → ¬ kz0 (a 75) K.2.1 K.2.2 → kz1 (a 75) K.2.1 K.2.2 → ∀ o9 h9x, MR o9 N a h9x → VK L (a 75) (adv L (a 75) K) o9 → o9 15 = nI 1 → oK o9 o → am_fp (fun k => k < 69 ∨ 92 ≤ k) h9x h → Q (some (.int 1)) n h9x) (k2 : K.1 = 1 → ¬ kz0 (a 75) K.2.1 K.2.2 → ¬ kz1 (a 75) K.2.1 K.2.2 → kz2 (a 75) K.2.1 K.2.2 → ∀ o9 h9x, MR o9 N a h9x → VK L (a 75) (adv L (a 75) K) o9 → o9 15 = nI 2 → oK o9 o → am_fp (fun k => k < 69 ∨ 92 ≤ k) h9x h → Q (some (.int 1)) n h9x) (kf : (K.1 = 1 → ¬ kz0 (a 75) K.2.1 K.2.2 ∧ ¬ kz1 (a 75) K.2.1 K.2.2 ∧ ¬ kz2 (a 75) K.2.1 K.2.2) → Q (some (.int 0)) n h) : AW X mX8_takesKey (d + 3) rc rs 0 [some (.ref 69), none, none, none, none] [] n h Q := by
  have hmt : mtk K.1 ≤ 5 := by have z := wk.2.2.1; unfold mtk; split <;> omega
  refine aw_aload_n (npc := 1) rfl dX8_takesKey_0 rfl ?_
  refine aw_get (npc := 4) dX8_takesKey_1 rfl kf_X8_204 F.1 rfl ?_
  refine aw_top (y := nI (mtk K.1)) (vk.2.2.1) ?_
  refine aw_iconst (npc := 5) (v := 1) (by decide) dX8_takesKey_4 rfl ?_
  refine aw_icmp_eq (npc := 8) (tgt := 10) dX8_takesKey_5 rfl (by decide) (fun hc1 => ?_) (fun hc1 => ?_)
  · have hc1N := (nI_eq (a := (mtk K.1)) (b := 1) (by omega) (by omega)).mp hc1
    have hK1 : K.1 = 1 := (mtk_eq wk.2.2.1 wk.2.2.2.1 (by omega)).mp hc1N
    refine aw_iconst (npc := 11) (v := 0) (by decide) dX8_takesKey_10 rfl ?_
    refine aw_istore_n (npc := 12) (L' := [some (.ref 69), some (.int 0), none, none, none]) dX8_takesKey_11 rfl (by decide) rfl rfl ?_
    refine aw_iload_n (npc := 13) rfl dX8_takesKey_12 rfl ?_
    refine aw_iconst (npc := 14) (v := 3) (by decide) dX8_takesKey_13 rfl ?_
    refine aw_icmp_ge (npc := 17) (tgt := 127) dX8_takesKey_14 rfl (by decide) (fun hc => absurd hc (by decide)) (fun _ => ?_)
    refine m_kw0 (L := L) F vk.1 vk.2.1 wk.2.1 (by have z := wk.1; omega) (fun hz2 u2 u3 u4 => ?_) (fun hz2 u2 u3 u4 => ?_)
    · refine aw_aload_n (npc := 111) rfl dX8_takesKey_110 rfl ?_
      refine aw_iload_n (npc := 112) rfl dX8_takesKey_111 rfl ?_
      refine aw_put (npc := 115) dX8_takesKey_112 rfl kf_X8_216 F.1 (Nat.le_of_ble_eq_true rfl) (am_ok_int _) rfl ?_
      have F3 := mr_o15 (v := 0) F
      refine aw_aload_n (npc := 116) rfl dX8_takesKey_115 rfl ?_
      refine aw_callV (npc := 119) (N := mX8_go) (b := 69) (mc := 0) (ms := 0) (A := []) (S := []) (L0 := [some (.ref 69), none]) dX8_takesKey_116 rfl km_X8_go kk_X8_219 F3.1 ⟨by decide, rfl⟩ rfl ⟨rfl, by decide⟩ rfl (Nat.le_of_ble_eq_true rfl) (Nat.zero_add _) (Nat.zero_add _) rfl ?_
      refine m_adv (i := K.2.2) (w := wd K) F3 ((pk_un (by decide)).trans h9) hL ((pk_un (by decide)).trans vk.1) wk.1 (fun s a1 a2 => by rw [pk_un (by decide)]; exact vk.2.2.2.2.2 (Or.inl hK1) s a1 a2) (fun o9 h9x F9 vk9 gk9 f9 => ?_)
      refine aw_iconst (npc := 120) (v := 1) (by decide) dX8_takesKey_119 rfl ?_
      refine aw_zret rfl rfl dX8_takesKey_120 ?_
      exact k0 hK1 hz2 _ _ F9 vk9 ((gk9 15 (by decide) (by decide) (by decide) (by decide) (by decide)).trans pk_us) (fun k hk => (gk9 k (by omega) (by omega) (by omega) (by omega) (by omega)).trans (pk_un (by omega))) (am_fpT f9 (am_fpU (show ¬ (69 < 69 ∨ 92 ≤ 69) by omega) am_fp0))
    · refine aw_iinc (npc := 124) (v := 1) (L' := [some (.ref 69), some (.int 1), some (.int u2), some (.int u3), some (.int u4)]) dX8_takesKey_121 rfl rfl (by decide) (by decide) rfl rfl ?_
      refine aw_goto (npc := 12) dX8_takesKey_124 (by decide) ?_
      refine aw_iload_n (npc := 13) rfl dX8_takesKey_12 rfl ?_
      refine aw_iconst (npc := 14) (v := 3) (by decide) dX8_takesKey_13 rfl ?_
      refine aw_icmp_ge (npc := 17) (tgt := 127) dX8_takesKey_14 rfl (by decide) (fun hc => absurd hc (by decide)) (fun _ => ?_)
      refine m_kw1 (L := L) F vk.1 vk.2.1 wk.2.1 (by have z := wk.1; omega) (fun hz4 u2 u3 u4 => ?_) (fun hz4 u2 u3 u4 => ?_)
      · refine aw_aload_n (npc := 111) rfl dX8_takesKey_110 rfl ?_
        refine aw_iload_n (npc := 112) rfl dX8_takesKey_111 rfl ?_
        refine aw_put (npc := 115) dX8_takesKey_112 rfl kf_X8_216 F.1 (Nat.le_of_ble_eq_true rfl) (am_ok_int _) rfl ?_
        have F5 := mr_o15 (v := 1) F
        refine aw_aload_n (npc := 116) rfl dX8_takesKey_115 rfl ?_
        refine aw_callV (npc := 119) (N := mX8_go) (b := 69) (mc := 0) (ms := 0) (A := []) (S := []) (L0 := [some (.ref 69), none]) dX8_takesKey_116 rfl km_X8_go kk_X8_219 F5.1 ⟨by decide, rfl⟩ rfl ⟨rfl, by decide⟩ rfl (Nat.le_of_ble_eq_true rfl) (Nat.zero_add _) (Nat.zero_add _) rfl ?_
        refine m_adv (i := K.2.2) (w := wd K) F5 ((pk_un (by decide)).trans h9) hL ((pk_un (by decide)).trans vk.1) wk.1 (fun s a1 a2 => by rw [pk_un (by decide)]; exact vk.2.2.2.2.2 (Or.inl hK1) s a1 a2) (fun o9 h9x F9 vk9 gk9 f9 => ?_)
        refine aw_iconst (npc := 120) (v := 1) (by decide) dX8_takesKey_119 rfl ?_
        refine aw_zret rfl rfl dX8_takesKey_120 ?_
        exact k1 hK1 hz2 hz4 _ _ F9 vk9 ((gk9 15 (by decide) (by decide) (by decide) (by decide) (by decide)).trans pk_us) (fun k hk => (gk9 k (by omega) (by omega) (by omega) (by omega) (by omega)).trans (pk_un (by omega))) (am_fpT f9 (am_fpU (show ¬ (69 < 69 ∨ 92 ≤ 69) by omega) am_fp0))
      · refine aw_iinc (npc := 124) (v := 2) (L' := [some (.ref 69), some (.int 2), some (.int u2), some (.int u3), some (.int u4)]) dX8_takesKey_121 rfl rfl (by decide) (by decide) rfl rfl ?_
        refine aw_goto (npc := 12) dX8_takesKey_124 (by decide) ?_
        refine aw_iload_n (npc := 13) rfl dX8_takesKey_12 rfl ?_
        refine aw_iconst (npc := 14) (v := 3) (by decide) dX8_takesKey_13 rfl ?_
        refine aw_icmp_ge (npc := 17) (tgt := 127) dX8_takesKey_14 rfl (by decide) (fun hc => absurd hc (by decide)) (fun _ => ?_)
        refine m_kw2 (L := L) F vk.1 vk.2.1 wk.2.1 (by have z := wk.1; omega) (fun hz6 u2 u3 u4 => ?_) (fun hz6 u2 u3 u4 => ?_)
        · refine aw_aload_n (npc := 111) rfl dX8_takesKey_110 rfl ?_
          refine aw_iload_n (npc := 112) rfl dX8_takesKey_111 rfl ?_
          refine aw_put (npc := 115) dX8_takesKey_112 rfl kf_X8_216 F.1 (Nat.le_of_ble_eq_true rfl) (am_ok_int _) rfl ?_
          have F7 := mr_o15 (v := 2) F
          refine aw_aload_n (npc := 116) rfl dX8_takesKey_115 rfl ?_
          refine aw_callV (npc := 119) (N := mX8_go) (b := 69) (mc := 0) (ms := 0) (A := []) (S := []) (L0 := [some (.ref 69), none]) dX8_takesKey_116 rfl km_X8_go kk_X8_219 F7.1 ⟨by decide, rfl⟩ rfl ⟨rfl, by decide⟩ rfl (Nat.le_of_ble_eq_true rfl) (Nat.zero_add _) (Nat.zero_add _) rfl ?_
          refine m_adv (i := K.2.2) (w := wd K) F7 ((pk_un (by decide)).trans h9) hL ((pk_un (by decide)).trans vk.1) wk.1 (fun s a1 a2 => by rw [pk_un (by decide)]; exact vk.2.2.2.2.2 (Or.inl hK1) s a1 a2) (fun o9 h9x F9 vk9 gk9 f9 => ?_)
          refine aw_iconst (npc := 120) (v := 1) (by decide) dX8_takesKey_119 rfl ?_
          refine aw_zret rfl rfl dX8_takesKey_120 ?_
          exact k2 hK1 hz2 hz4 hz6 _ _ F9 vk9 ((gk9 15 (by decide) (by decide) (by decide) (by decide) (by decide)).trans pk_us) (fun k hk => (gk9 k (by omega) (by omega) (by omega) (by omega) (by omega)).trans (pk_un (by omega))) (am_fpT f9 (am_fpU (show ¬ (69 < 69 ∨ 92 ≤ 69) by omega) am_fp0))
        · refine aw_iinc (npc := 124) (v := 3) (L' := [some (.ref 69), some (.int 3), some (.int u2), some (.int u3), some (.int u4)]) dX8_takesKey_121 rfl rfl (by decide) (by decide) rfl rfl ?_
          refine aw_goto (npc := 12) dX8_takesKey_124 (by decide) ?_
          refine aw_iload_n (npc := 13) rfl dX8_takesKey_12 rfl ?_
          refine aw_iconst (npc := 14) (v := 3) (by decide) dX8_takesKey_13 rfl ?_
          refine aw_icmp_ge (npc := 17) (tgt := 127) dX8_takesKey_14 rfl (by decide) (fun _ => ?_) (fun hc => absurd (by decide) hc)
          refine aw_iconst (npc := 128) (v := 0) (by decide) dX8_takesKey_127 rfl ?_
          refine aw_zret rfl rfl dX8_takesKey_128 ?_
          exact kf (fun _ => ⟨hz2, hz4, hz6⟩)
  · have hc1N : ¬ (mtk K.1) = 1 := fun z9q => hc1 ((nI_eq (a := (mtk K.1)) (b := 1) (by omega) (by omega)).mpr z9q)
    have hK1 : ¬ K.1 = 1 := fun z => hc1N ((mtk_eq wk.2.2.1 wk.2.2.2.1 (by omega)).mpr z)
    refine aw_iconst (npc := 9) (v := 0) (by decide) dX8_takesKey_8 rfl ?_
    refine aw_zret rfl rfl dX8_takesKey_9 ?_
    exact kf (fun z => absurd z hK1)
