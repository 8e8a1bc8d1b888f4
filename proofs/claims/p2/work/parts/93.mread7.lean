theorem m_goE {X : List Int32} {d rc rs n : Nat} {Q : am_Q} {L : Nat} {o0 N : Nat → Int32} {a0 : Nat → Nat → Int32} {h : am_H} {σ : ES} (H : EX σ L o0 N a0 h) (hL : L ≤ 96) (wk : WFK L (a0 75) σ.1) (h9 : o0 9 = nI L) (ht : σ.1.1 = 1 ∨ σ.1.1 = 2 ∨ σ.1.1 = 3) (hq : ∀ h9, EX (adv L (a0 75) σ.1, σ.2) L o0 N a0 h9 → am_fp (fun k => k < 69 ∨ 92 ≤ k) h9 h → Q none n h9) : AW X mX8_go (d + 2) rc rs 0 [some (.ref 69), none] [] n h Q := by
  obtain ⟨o, a, F, ⟨vk, m19, m20, m22, mc, mw, mq⟩, ho, ha⟩ := H
  have e75 : a 75 = a0 75 := ha 75 (by decide) (by decide) (by decide)
  refine m_adv (L := L) (i := σ.1.2.2) (w := wd σ.1) F ((ho 9 (by decide) (by decide) (by decide) (by decide)).trans h9) hL vk.1 wk.1 (vk.2.2.2.2.2 ht) (fun o9 h9x F9 vk9 gk f9 => ?_)
  rw [e75] at vk9
  exact hq _ ⟨o9, a, F9, ⟨vk9, (gk 19 (by decide) (by decide) (by decide) (by decide) (by decide)).trans m19, (gk 20 (by decide) (by decide) (by decide) (by decide) (by decide)).trans m20, (gk 22 (by decide) (by decide) (by decide) (by decide) (by decide)).trans m22, mc, mw, mq⟩, (fun k k1 k2 k3 k4 => (gk k (by omega) (by omega) (by omega) (by omega) (by omega)).trans (ho k k1 k2 k3 k4)), ha⟩ f9
def nmK (y : Int32) (tp : Nat → Int32) (K : Nat × Nat × Nat) : Option Nat := if K.1 = 1 ∧ K.2.2 = K.2.1 + 1 then nmF (nmS y) (fN (tp K.2.1)) else none
def ptO (y : Int32) (tp : Nat → Int32) (K : Nat × Nat × Nat) : Option Int32 := if K.1 = 2 then some (nuV tp (K.2.2 - K.2.1) K.2.1 0) else (nmK y tp K).map (fun j => nI (10000 + j))
theorem nmF_lt {s v j : Nat} (h : nmF s v = some j) : j < 4 := by
  unfold nmF at h
  repeat' split at h
  all_goals first | (have z := Option.some.inj h; omega) | cases h
set_option maxHeartbeats 4000000 in
set_option maxRecDepth 100000 in
theorem m_part {X : List Int32} {d rc rs n : Nat} {Q : am_Q} {L : Nat} {o0 N : Nat → Int32} {a0 : Nat → Nat → Int32} {h : am_H} {K : Nat × Nat × Nat} {cs ws : List Int32} {at_ : Nat} {tq : Nat → Int32} (H : EX (K, cs, ws, at_, tq) L o0 N a0 h) (hL : L ≤ 96) (wk : WFK L (a0 75) K) (h9 : o0 9 = nI L) (hb : cs.length + ws.length < 96) (hat : at_ ≤ 96) (k1 : ∀ c, ptO (o0 15) (a0 75) K = some c → ∀ h9, EX (adv L (a0 75) K, (stl 6 (cs ++ [c]) ws).1, (stl 6 (cs ++ [c]) ws).2, at_ + 1, tq) L o0 N a0 h9 → am_fp (fun k => k < 69 ∨ 92 ≤ k) h9 h → Q (some (.int 1)) n h9) (k0 : ptO (o0 15) (a0 75) K = none → Q (some (.int 0)) n h) : AW X mX8_takesPart (d + 3) rc rs 0 [some (.ref 69), none] [] n h Q := by
  have hmt : mtk K.1 ≤ 5 := by have z := wk.2.2.1; unfold mtk; split <;> omega
  have we := wk.1
  have wf := wk.2.1
  refine aw_aload_n (npc := 1) rfl dX8_takesPart_0 rfl ?_
  obtain ⟨o1u, a1u, F1u, ⟨vk1, m19_1, m20_1, m22_1, mc1, mw1, mq1⟩, ho1, ha1⟩ := id H
  refine aw_get (npc := 4) dX8_takesPart_1 rfl kf_X8_204 F1u.1 rfl ?_
  refine aw_top (y := nI (mtk K.1)) (vk1.2.2.1) ?_
  refine aw_iconst (npc := 5) (v := 1) (by decide) dX8_takesPart_4 rfl ?_
  refine aw_icmp_ne (npc := 8) (tgt := 36) dX8_takesPart_5 rfl (by decide) (fun hc1 => ?_) (fun hc1 => ?_)
  · have hc1N : ¬ (mtk K.1) = 1 := fun z9q => hc1 ((nI_eq (a := (mtk K.1)) (b := 1) (by omega) (by omega)).mpr z9q)
    refine aw_iconst (npc := 37) (v := 0) (by decide) dX8_takesPart_36 rfl ?_
    refine aw_istore_n (npc := 38) (L' := [some (.ref 69), some (.int 0)]) dX8_takesPart_37 rfl (by decide) rfl rfl ?_
    refine aw_aload_n (npc := 39) rfl dX8_takesPart_38 rfl ?_
    refine aw_get (npc := 42) dX8_takesPart_39 rfl kf_X8_204 F1u.1 rfl ?_
    refine aw_top (y := nI (mtk K.1)) (vk1.2.2.1) ?_
    refine aw_iconst (npc := 43) (v := 2) (by decide) dX8_takesPart_42 rfl ?_
    refine aw_icmp_eq (npc := 46) (tgt := 52) dX8_takesPart_43 rfl (by decide) (fun hc2 => ?_) (fun hc2 => ?_)
    · have hc2N := (nI_eq (a := (mtk K.1)) (b := 2) (by omega) (by omega)).mp hc2
      refine aw_aload_n (npc := 53) rfl dX8_takesPart_52 rfl ?_
      refine aw_get (npc := 56) dX8_takesPart_53 rfl kf_X8_39 F1u.1 rfl ?_
      refine aw_aload_n (npc := 57) rfl dX8_takesPart_56 rfl ?_
      refine aw_get (npc := 60) dX8_takesPart_57 rfl kf_X8_228 F1u.1 rfl ?_
      refine aw_top (y := nI cs.length) (m19_1) ?_
      refine aw_aload_n (npc := 61) rfl dX8_takesPart_60 rfl ?_
      refine aw_get (npc := 64) dX8_takesPart_61 rfl kf_X8_204 F1u.1 rfl ?_
      refine aw_top (y := nI (mtk K.1)) (vk1.2.2.1) ?_
      refine aw_iconst (npc := 65) (v := 2) (by decide) dX8_takesPart_64 rfl ?_
      refine aw_icmp_ne (npc := 68) (tgt := 75) dX8_takesPart_65 rfl (by decide) (fun hc => absurd (hc2) hc) (fun _ => ?_)
      refine aw_aload_n (npc := 69) rfl dX8_takesPart_68 rfl ?_
      refine aw_get (npc := 72) dX8_takesPart_69 rfl kf_X8_210 F1u.1 rfl ?_
      refine aw_goto (npc := 87) dX8_takesPart_72 (by decide) ?_
      have hK2 : K.1 = 2 := (mtk_eq wk.2.2.1 wk.2.2.2.1 (by omega)).mp hc2N
      refine aw_top (y := nuV (a0 75) (K.2.2 - K.2.1) K.2.1 0) (vk1.2.2.2.2.1 hK2) ?_
      refine aw_iast (npc := 88) (j := cs.length) dX8_takesPart_87 rfl F1u.2.2.2.2.2.2.2.2.2.1 (am_ix_nI (by omega)) (by rw [tl_len]; omega) rfl ?_
      have F4 := mr_78 (j := cs.length) (v := nuV (a0 75) (K.2.2 - K.2.1) K.2.1 0) F1u
      refine aw_aload_n (npc := 89) rfl dX8_takesPart_88 rfl ?_
      refine aw_dup (npc := 90) rfl dX8_takesPart_89 rfl ?_
      refine aw_get (npc := 93) dX8_takesPart_90 rfl kf_X8_228 F4.1 rfl ?_
      refine aw_top (y := nI cs.length) (m19_1) ?_
      refine aw_iconst (npc := 94) (v := 1) (by decide) dX8_takesPart_93 rfl ?_
      refine aw_iaddV (npc := 95) (v := nI (cs.length + 1)) dX8_takesPart_94 rfl (nI_add _ 1) ?_
      refine aw_put (npc := 98) dX8_takesPart_95 rfl kf_X8_228 F4.1 (Nat.le_of_ble_eq_true rfl) (am_ok_int _) rfl ?_
      have F5 := mr_o19 (v := nI (cs.length + 1)) F4
      refine aw_aload_n (npc := 99) rfl dX8_takesPart_98 rfl ?_
      refine aw_dup (npc := 100) rfl dX8_takesPart_99 rfl ?_
      refine aw_get (npc := 103) dX8_takesPart_100 rfl kf_X8_234 F5.1 rfl ?_
      refine aw_top (y := o1u 20) ((pk_un (by omega))) ?_
      refine aw_top (y := nI at_) (m20_1) ?_
      refine aw_iconst (npc := 104) (v := 1) (by decide) dX8_takesPart_103 rfl ?_
      refine aw_iaddV (npc := 105) (v := nI (at_ + 1)) dX8_takesPart_104 rfl (nI_add _ 1) ?_
      refine aw_put (npc := 108) dX8_takesPart_105 rfl kf_X8_234 F5.1 (Nat.le_of_ble_eq_true rfl) (am_ok_int _) rfl ?_
      have F6 := mr_o20 (v := nI (at_ + 1)) F5
      have Hp7 : EX (K, cs ++ [nuV (a0 75) (K.2.2 - K.2.1) K.2.1 0], ws, at_ + 1, tq) L o0 N a0 _ := ⟨_, _, F6, ⟨(vk_u (by decide) (vk_u (by decide) vk1)), ((((pk_un (by omega))).trans pk_us).trans (show nI (cs.length + 1) = nI (cs ++ [nuV (a0 75) (K.2.2 - K.2.1) K.2.1 0]).length by rw [List.length_append, List.length_singleton])), (pk_us), ((((pk_un (by omega))).trans (pk_un (by omega))).trans m22_1), (e_push mc1), (fun j hj => (congrFun (aup_n (by decide)) j).trans (mw1 j hj)), (fun j hj => (congrFun (aup_n (by decide)) j).trans (mq1 j hj))⟩, (fun k k1 k2 k3 k4 => (pk_un k3).trans ((pk_un k2).trans (ho1 k k1 k2 k3 k4))), (fun k k1 k2 k3 => (aup_n k1).trans (ha1 k k1 k2 k3))⟩
      refine aw_aload_n (npc := 109) rfl dX8_takesPart_108 rfl ?_
      refine aw_bipush (npc := 111) (v := 6) (by decide) dX8_takesPart_109 rfl ?_
      obtain ⟨o2u, a2u, F2u, ⟨vk2, m19_2, m20_2, m22_2, mc2, mw2, mq2⟩, ho2, ha2⟩ := id Hp7
      refine aw_callV (npc := 114) (N := mX8_settle) (b := 69) (mc := 0) (ms := 0) (A := [.int 6]) (S := []) (L0 := [some (.ref 69), some (.int 6)]) dX8_takesPart_111 rfl km_X8_settle kk_X8_237 F2u.1 ⟨by decide, rfl⟩ rfl ⟨rfl, by decide⟩ rfl (Nat.le_of_ble_eq_true rfl) (Nat.zero_add _) (Nat.zero_add _) rfl ?_
      refine m_settle (r := 6) ws (cs ++ [nuV (a0 75) (K.2.2 - K.2.1) K.2.1 0]) _ Hp7 (by rw [List.length_append, List.length_singleton]; omega) (fun hp8 Hs9 fz10 => ?_)
      have fyfz10 : ∀ k, (k < 69 ∨ 92 ≤ k) → hp8 k = _ := fun k hk => fz10 k hk
      refine aw_aload_n (npc := 115) rfl dX8_takesPart_114 rfl ?_
      obtain ⟨o3u, a3u, F3u, ⟨vk3, m19_3, m20_3, m22_3, mc3, mw3, mq3⟩, ho3, ha3⟩ := id Hs9
      refine aw_callV (npc := 118) (N := mX8_go) (b := 69) (mc := 0) (ms := 0) (A := []) (S := []) (L0 := [some (.ref 69), none]) dX8_takesPart_115 rfl km_X8_go kk_X8_219 F3u.1 ⟨by decide, rfl⟩ rfl ⟨rfl, by decide⟩ rfl (Nat.le_of_ble_eq_true rfl) (Nat.zero_add _) (Nat.zero_add _) rfl ?_
      refine m_goE Hs9 hL wk h9 (Or.inr (Or.inl hK2)) (fun hp11 Hg12 fz13 => ?_)
      have fyfz13 : ∀ k, (k < 69 ∨ 92 ≤ k) → hp11 k = _ := fun k hk => fz13 k hk
      refine aw_iconst (npc := 119) (v := 1) (by decide) dX8_takesPart_118 rfl ?_
      refine aw_zret rfl rfl dX8_takesPart_119 ?_
      refine k1 _ ?_ _ Hg12 (am_fpT (fun k (hk : k < 69 ∨ 92 ≤ k) => fyfz13 k (by omega)) (am_fpT (fun k (hk : k < 69 ∨ 92 ≤ k) => fyfz10 k (by omega)) (am_fpU (show ¬ (69 < 69 ∨ 92 ≤ 69) by omega) (am_fpU (show ¬ (69 < 69 ∨ 92 ≤ 69) by omega) (am_fpU (show ¬ (78 < 69 ∨ 92 ≤ 78) by omega) am_fp0)))))
      exact if_pos hK2
    · have hc2N : ¬ (mtk K.1) = 2 := fun z9q => hc2 ((nI_eq (a := (mtk K.1)) (b := 2) (by omega) (by omega)).mpr z9q)
      refine aw_iload_n (npc := 47) rfl dX8_takesPart_46 rfl ?_
      refine aw_if_ne (npc := 50) (tgt := 52) dX8_takesPart_47 rfl (by decide) (fun hc => absurd (by decide) hc) (fun _ => ?_)
      refine aw_iconst (npc := 51) (v := 0) (by decide) dX8_takesPart_50 rfl ?_
      refine aw_zret rfl rfl dX8_takesPart_51 ?_
      have hn2 : ¬ K.1 = 2 := fun z => hc2N ((mtk_eq wk.2.2.1 wk.2.2.2.1 (by omega)).mpr z)
      refine k0 ?_
      unfold ptO
      rw [if_neg hn2, show nmK (o0 15) (a0 75) K = none from if_neg (fun z => hc1N ((mtk_eq wk.2.2.1 wk.2.2.2.1 (by omega)).mpr z.1))]; rfl
  · have hc1N := (nI_eq (a := (mtk K.1)) (b := 1) (by omega) (by omega)).mp hc1
    refine aw_aload_n (npc := 9) rfl dX8_takesPart_8 rfl ?_
    refine aw_get (npc := 12) dX8_takesPart_9 rfl kf_X8_195 F1u.1 rfl ?_
    refine aw_top (y := nI K.2.2) (vk1.1) ?_
    refine aw_aload_n (npc := 13) rfl dX8_takesPart_12 rfl ?_
    refine aw_get (npc := 16) dX8_takesPart_13 rfl kf_X8_198 F1u.1 rfl ?_
    refine aw_top (y := nI K.2.1) (vk1.2.1) ?_
    refine aw_isubV (npc := 17) (v := nI (K.2.2 - K.2.1)) dX8_takesPart_16 rfl (pk_sub (by omega)) ?_
    refine aw_iconst (npc := 18) (v := 1) (by decide) dX8_takesPart_17 rfl ?_
    refine aw_icmp_ne (npc := 21) (tgt := 36) dX8_takesPart_18 rfl (by decide) (fun hc14 => ?_) (fun hc14 => ?_)
    · have hc14N : ¬ (K.2.2 - K.2.1) = 1 := fun z9q => hc14 ((nI_eq (a := (K.2.2 - K.2.1)) (b := 1) (by omega) (by omega)).mpr z9q)
      refine aw_iconst (npc := 37) (v := 0) (by decide) dX8_takesPart_36 rfl ?_
      refine aw_istore_n (npc := 38) (L' := [some (.ref 69), some (.int 0)]) dX8_takesPart_37 rfl (by decide) rfl rfl ?_
      refine aw_aload_n (npc := 39) rfl dX8_takesPart_38 rfl ?_
      refine aw_get (npc := 42) dX8_takesPart_39 rfl kf_X8_204 F1u.1 rfl ?_
      refine aw_top (y := nI (mtk K.1)) (vk1.2.2.1) ?_
      refine aw_iconst (npc := 43) (v := 2) (by decide) dX8_takesPart_42 rfl ?_
      refine aw_icmp_eq (npc := 46) (tgt := 52) dX8_takesPart_43 rfl (by decide) (fun hc15 => ?_) (fun hc15 => ?_)
      · have hc15N := (nI_eq (a := (mtk K.1)) (b := 2) (by omega) (by omega)).mp hc15
        refine aw_aload_n (npc := 53) rfl dX8_takesPart_52 rfl ?_
        refine aw_get (npc := 56) dX8_takesPart_53 rfl kf_X8_39 F1u.1 rfl ?_
        refine aw_aload_n (npc := 57) rfl dX8_takesPart_56 rfl ?_
        refine aw_get (npc := 60) dX8_takesPart_57 rfl kf_X8_228 F1u.1 rfl ?_
        refine aw_top (y := nI cs.length) (m19_1) ?_
        refine aw_aload_n (npc := 61) rfl dX8_takesPart_60 rfl ?_
        refine aw_get (npc := 64) dX8_takesPart_61 rfl kf_X8_204 F1u.1 rfl ?_
        refine aw_top (y := nI (mtk K.1)) (vk1.2.2.1) ?_
        refine aw_iconst (npc := 65) (v := 2) (by decide) dX8_takesPart_64 rfl ?_
        refine aw_icmp_ne (npc := 68) (tgt := 75) dX8_takesPart_65 rfl (by decide) (fun hc => absurd (hc15) hc) (fun _ => ?_)
        refine aw_aload_n (npc := 69) rfl dX8_takesPart_68 rfl ?_
        refine aw_get (npc := 72) dX8_takesPart_69 rfl kf_X8_210 F1u.1 rfl ?_
        refine aw_goto (npc := 87) dX8_takesPart_72 (by decide) ?_
        have hK2 : K.1 = 2 := (mtk_eq wk.2.2.1 wk.2.2.2.1 (by omega)).mp hc15N
        refine aw_top (y := nuV (a0 75) (K.2.2 - K.2.1) K.2.1 0) (vk1.2.2.2.2.1 hK2) ?_
        refine aw_iast (npc := 88) (j := cs.length) dX8_takesPart_87 rfl F1u.2.2.2.2.2.2.2.2.2.1 (am_ix_nI (by omega)) (by rw [tl_len]; omega) rfl ?_
        have F17 := mr_78 (j := cs.length) (v := nuV (a0 75) (K.2.2 - K.2.1) K.2.1 0) F1u
        refine aw_aload_n (npc := 89) rfl dX8_takesPart_88 rfl ?_
        refine aw_dup (npc := 90) rfl dX8_takesPart_89 rfl ?_
        refine aw_get (npc := 93) dX8_takesPart_90 rfl kf_X8_228 F17.1 rfl ?_
        refine aw_top (y := nI cs.length) (m19_1) ?_
        refine aw_iconst (npc := 94) (v := 1) (by decide) dX8_takesPart_93 rfl ?_
        refine aw_iaddV (npc := 95) (v := nI (cs.length + 1)) dX8_takesPart_94 rfl (nI_add _ 1) ?_
        refine aw_put (npc := 98) dX8_takesPart_95 rfl kf_X8_228 F17.1 (Nat.le_of_ble_eq_true rfl) (am_ok_int _) rfl ?_
        have F18 := mr_o19 (v := nI (cs.length + 1)) F17
        refine aw_aload_n (npc := 99) rfl dX8_takesPart_98 rfl ?_
        refine aw_dup (npc := 100) rfl dX8_takesPart_99 rfl ?_
        refine aw_get (npc := 103) dX8_takesPart_100 rfl kf_X8_234 F18.1 rfl ?_
        refine aw_top (y := o1u 20) ((pk_un (by omega))) ?_
        refine aw_top (y := nI at_) (m20_1) ?_
        refine aw_iconst (npc := 104) (v := 1) (by decide) dX8_takesPart_103 rfl ?_
        refine aw_iaddV (npc := 105) (v := nI (at_ + 1)) dX8_takesPart_104 rfl (nI_add _ 1) ?_
        refine aw_put (npc := 108) dX8_takesPart_105 rfl kf_X8_234 F18.1 (Nat.le_of_ble_eq_true rfl) (am_ok_int _) rfl ?_
        have F19 := mr_o20 (v := nI (at_ + 1)) F18
        have Hp20 : EX (K, cs ++ [nuV (a0 75) (K.2.2 - K.2.1) K.2.1 0], ws, at_ + 1, tq) L o0 N a0 _ := ⟨_, _, F19, ⟨(vk_u (by decide) (vk_u (by decide) vk1)), ((((pk_un (by omega))).trans pk_us).trans (show nI (cs.length + 1) = nI (cs ++ [nuV (a0 75) (K.2.2 - K.2.1) K.2.1 0]).length by rw [List.length_append, List.length_singleton])), (pk_us), ((((pk_un (by omega))).trans (pk_un (by omega))).trans m22_1), (e_push mc1), (fun j hj => (congrFun (aup_n (by decide)) j).trans (mw1 j hj)), (fun j hj => (congrFun (aup_n (by decide)) j).trans (mq1 j hj))⟩, (fun k k1 k2 k3 k4 => (pk_un k3).trans ((pk_un k2).trans (ho1 k k1 k2 k3 k4))), (fun k k1 k2 k3 => (aup_n k1).trans (ha1 k k1 k2 k3))⟩
        refine aw_aload_n (npc := 109) rfl dX8_takesPart_108 rfl ?_
        refine aw_bipush (npc := 111) (v := 6) (by decide) dX8_takesPart_109 rfl ?_
        obtain ⟨o4u, a4u, F4u, ⟨vk4, m19_4, m20_4, m22_4, mc4, mw4, mq4⟩, ho4, ha4⟩ := id Hp20
        refine aw_callV (npc := 114) (N := mX8_settle) (b := 69) (mc := 0) (ms := 0) (A := [.int 6]) (S := []) (L0 := [some (.ref 69), some (.int 6)]) dX8_takesPart_111 rfl km_X8_settle kk_X8_237 F4u.1 ⟨by decide, rfl⟩ rfl ⟨rfl, by decide⟩ rfl (Nat.le_of_ble_eq_true rfl) (Nat.zero_add _) (Nat.zero_add _) rfl ?_
        refine m_settle (r := 6) ws (cs ++ [nuV (a0 75) (K.2.2 - K.2.1) K.2.1 0]) _ Hp20 (by rw [List.length_append, List.length_singleton]; omega) (fun hp21 Hs22 fz23 => ?_)
        have fyfz23 : ∀ k, (k < 69 ∨ 92 ≤ k) → hp21 k = _ := fun k hk => fz23 k hk
        refine aw_aload_n (npc := 115) rfl dX8_takesPart_114 rfl ?_
        obtain ⟨o5u, a5u, F5u, ⟨vk5, m19_5, m20_5, m22_5, mc5, mw5, mq5⟩, ho5, ha5⟩ := id Hs22
        refine aw_callV (npc := 118) (N := mX8_go) (b := 69) (mc := 0) (ms := 0) (A := []) (S := []) (L0 := [some (.ref 69), none]) dX8_takesPart_115 rfl km_X8_go kk_X8_219 F5u.1 ⟨by decide, rfl⟩ rfl ⟨rfl, by decide⟩ rfl (Nat.le_of_ble_eq_true rfl) (Nat.zero_add _) (Nat.zero_add _) rfl ?_
        refine m_goE Hs22 hL wk h9 (Or.inr (Or.inl hK2)) (fun hp24 Hg25 fz26 => ?_)
        have fyfz26 : ∀ k, (k < 69 ∨ 92 ≤ k) → hp24 k = _ := fun k hk => fz26 k hk
        refine aw_iconst (npc := 119) (v := 1) (by decide) dX8_takesPart_118 rfl ?_
        refine aw_zret rfl rfl dX8_takesPart_119 ?_
        refine k1 _ ?_ _ Hg25 (am_fpT (fun k (hk : k < 69 ∨ 92 ≤ k) => fyfz26 k (by omega)) (am_fpT (fun k (hk : k < 69 ∨ 92 ≤ k) => fyfz23 k (by omega)) (am_fpU (show ¬ (69 < 69 ∨ 92 ≤ 69) by omega) (am_fpU (show ¬ (69 < 69 ∨ 92 ≤ 69) by omega) (am_fpU (show ¬ (78 < 69 ∨ 92 ≤ 78) by omega) am_fp0)))))
        exact if_pos hK2
      · have hc15N : ¬ (mtk K.1) = 2 := fun z9q => hc15 ((nI_eq (a := (mtk K.1)) (b := 2) (by omega) (by omega)).mpr z9q)
        refine aw_iload_n (npc := 47) rfl dX8_takesPart_46 rfl ?_
        refine aw_if_ne (npc := 50) (tgt := 52) dX8_takesPart_47 rfl (by decide) (fun hc => absurd (by decide) hc) (fun _ => ?_)
        refine aw_iconst (npc := 51) (v := 0) (by decide) dX8_takesPart_50 rfl ?_
        refine aw_zret rfl rfl dX8_takesPart_51 ?_
        have hn2 : ¬ K.1 = 2 := fun z => hc15N ((mtk_eq wk.2.2.1 wk.2.2.2.1 (by omega)).mpr z)
        refine k0 ?_
        unfold ptO
        rw [if_neg hn2, show nmK (o0 15) (a0 75) K = none from if_neg (fun z => hc14N (by have y := z.2; omega))]; rfl
    · have hc14N := (nI_eq (a := (K.2.2 - K.2.1)) (b := 1) (by omega) (by omega)).mp hc14
      have hK1 : K.1 = 1 := (mtk_eq wk.2.2.1 wk.2.2.2.1 (by omega)).mp hc1N
      obtain ⟨v, hv1, hv2, ev⟩ := so_let (wk.2.2.2.2.2.2.1 hK1 K.2.1 (Nat.le_refl _) (by omega))
      have e13 : o1u 13 = nI v := (vk1.2.2.2.1 (Or.inl hK1)).trans ev
      have enk : nmK (o0 15) (a0 75) K = nmF (nmS (o0 15)) v := by unfold nmK; rw [if_pos ⟨hK1, by omega⟩, ev, fN_nI (by omega)]
      rcases enm : nmF (nmS (o0 15)) v with _ | j
      · refine aw_aload_n (npc := 22) rfl dX8_takesPart_21 rfl ?_
        refine aw_aload_n (npc := 23) rfl dX8_takesPart_22 rfl ?_
        refine aw_get (npc := 26) dX8_takesPart_23 rfl kf_X8_210 F1u.1 rfl ?_
        refine aw_top (y := nI v) (e13) ?_
        refine aw_callV (npc := 29) (N := mX8_nameOf) (b := 69) (mc := 0) (ms := 0) (A := [.int (nI v)]) (S := []) (L0 := [some (.ref 69), some (.int (nI v))]) dX8_takesPart_26 rfl km_X8_nameOf kk_X8_231 F1u.1 ⟨by decide, rfl⟩ rfl ⟨rfl, by decide⟩ rfl (Nat.le_of_ble_eq_true rfl) (Nat.zero_add _) (Nat.zero_add _) rfl ?_
        refine m_nameOf (L := L) (v := v) F1u (by omega) (ho1 15 (by decide) (by decide) (by decide) (by decide)) ?_
        refine aw_re (S' := [.int (bI (nmF (nmS (o0 15)) v))]) rfl ?_
        refine aw_top (y := (-1)) (by rw [enm]; rfl) ?_
        refine aw_if_lt (npc := 32) (tgt := 36) dX8_takesPart_29 rfl (by decide) (fun _ => ?_) (fun hc => absurd (by decide) hc)
        refine aw_iconst (npc := 37) (v := 0) (by decide) dX8_takesPart_36 rfl ?_
        refine aw_istore_n (npc := 38) (L' := [some (.ref 69), some (.int 0)]) dX8_takesPart_37 rfl (by decide) rfl rfl ?_
        refine aw_aload_n (npc := 39) rfl dX8_takesPart_38 rfl ?_
        refine aw_get (npc := 42) dX8_takesPart_39 rfl kf_X8_204 F1u.1 rfl ?_
        refine aw_top (y := nI (mtk K.1)) (vk1.2.2.1) ?_
        refine aw_iconst (npc := 43) (v := 2) (by decide) dX8_takesPart_42 rfl ?_
        refine aw_icmp_eq (npc := 46) (tgt := 52) dX8_takesPart_43 rfl (by decide) (fun hc => absurd hc ((fun z => absurd ((mtk_eq wk.2.2.1 wk.2.2.2.1 (by omega)).mp ((nI_eq (a := mtk K.1) (b := 2) (by omega) (by omega)).mp z)) (by omega)))) (fun _ => ?_)
        refine aw_iload_n (npc := 47) rfl dX8_takesPart_46 rfl ?_
        refine aw_if_ne (npc := 50) (tgt := 52) dX8_takesPart_47 rfl (by decide) (fun hc => absurd (by decide) hc) (fun _ => ?_)
        refine aw_iconst (npc := 51) (v := 0) (by decide) dX8_takesPart_50 rfl ?_
        refine aw_zret rfl rfl dX8_takesPart_51 ?_
        have hn2 : ¬ K.1 = 2 := by omega
        refine k0 ?_
        unfold ptO
        rw [if_neg hn2, enk, enm]; rfl
      · have hj := nmF_lt enm
        refine aw_aload_n (npc := 22) rfl dX8_takesPart_21 rfl ?_
        refine aw_aload_n (npc := 23) rfl dX8_takesPart_22 rfl ?_
        refine aw_get (npc := 26) dX8_takesPart_23 rfl kf_X8_210 F1u.1 rfl ?_
        refine aw_top (y := nI v) (e13) ?_
        refine aw_callV (npc := 29) (N := mX8_nameOf) (b := 69) (mc := 0) (ms := 0) (A := [.int (nI v)]) (S := []) (L0 := [some (.ref 69), some (.int (nI v))]) dX8_takesPart_26 rfl km_X8_nameOf kk_X8_231 F1u.1 ⟨by decide, rfl⟩ rfl ⟨rfl, by decide⟩ rfl (Nat.le_of_ble_eq_true rfl) (Nat.zero_add _) (Nat.zero_add _) rfl ?_
        refine m_nameOf (L := L) (v := v) F1u (by omega) (ho1 15 (by decide) (by decide) (by decide) (by decide)) ?_
        refine aw_re (S' := [.int (bI (nmF (nmS (o0 15)) v))]) rfl ?_
        refine aw_top (y := nI j) (by rw [enm]; rfl) ?_
        refine aw_if_lt (npc := 32) (tgt := 36) dX8_takesPart_29 rfl (by decide) (fun hc => absurd hc (nI_pos (by omega))) (fun _ => ?_)
        refine aw_iconst (npc := 33) (v := 1) (by decide) dX8_takesPart_32 rfl ?_
        refine aw_goto (npc := 37) dX8_takesPart_33 (by decide) ?_
        refine aw_istore_n (npc := 38) (L' := [some (.ref 69), some (.int 1)]) dX8_takesPart_37 rfl (by decide) rfl rfl ?_
        refine aw_aload_n (npc := 39) rfl dX8_takesPart_38 rfl ?_
        refine aw_get (npc := 42) dX8_takesPart_39 rfl kf_X8_204 F1u.1 rfl ?_
        refine aw_top (y := nI (mtk K.1)) (vk1.2.2.1) ?_
        refine aw_iconst (npc := 43) (v := 2) (by decide) dX8_takesPart_42 rfl ?_
        refine aw_icmp_eq (npc := 46) (tgt := 52) dX8_takesPart_43 rfl (by decide) (fun hc => absurd hc ((fun z => absurd ((mtk_eq wk.2.2.1 wk.2.2.2.1 (by omega)).mp ((nI_eq (a := mtk K.1) (b := 2) (by omega) (by omega)).mp z)) (by omega)))) (fun _ => ?_)
        refine aw_iload_n (npc := 47) rfl dX8_takesPart_46 rfl ?_
        refine aw_if_ne (npc := 50) (tgt := 52) dX8_takesPart_47 rfl (by decide) (fun _ => ?_) (fun hc => absurd hc (by decide))
        refine aw_aload_n (npc := 53) rfl dX8_takesPart_52 rfl ?_
        refine aw_get (npc := 56) dX8_takesPart_53 rfl kf_X8_39 F1u.1 rfl ?_
        refine aw_aload_n (npc := 57) rfl dX8_takesPart_56 rfl ?_
        refine aw_get (npc := 60) dX8_takesPart_57 rfl kf_X8_228 F1u.1 rfl ?_
        refine aw_top (y := nI cs.length) (m19_1) ?_
        refine aw_aload_n (npc := 61) rfl dX8_takesPart_60 rfl ?_
        refine aw_get (npc := 64) dX8_takesPart_61 rfl kf_X8_204 F1u.1 rfl ?_
        refine aw_top (y := nI (mtk K.1)) (vk1.2.2.1) ?_
        refine aw_iconst (npc := 65) (v := 2) (by decide) dX8_takesPart_64 rfl ?_
        refine aw_icmp_ne (npc := 68) (tgt := 75) dX8_takesPart_65 rfl (by decide) (fun _ => ?_) (fun hc => absurd hc ((fun z => absurd ((mtk_eq wk.2.2.1 wk.2.2.2.1 (by omega)).mp ((nI_eq (a := mtk K.1) (b := 2) (by omega) (by omega)).mp z)) (by omega))))
        refine aw_sipush (npc := 78) (v := 10000) (by decide) dX8_takesPart_75 rfl ?_
        refine aw_aload_n (npc := 79) rfl dX8_takesPart_78 rfl ?_
        refine aw_aload_n (npc := 80) rfl dX8_takesPart_79 rfl ?_
        refine aw_get (npc := 83) dX8_takesPart_80 rfl kf_X8_210 F1u.1 rfl ?_
        refine aw_top (y := nI v) (e13) ?_
        refine aw_callV (npc := 86) (N := mX8_nameOf) (b := 69) (mc := 0) (ms := 0) (A := [.int (nI v)]) (S := [.int 10000, .int (nI cs.length), .ref 78]) (L0 := [some (.ref 69), some (.int (nI v))]) dX8_takesPart_83 rfl km_X8_nameOf kk_X8_231 F1u.1 ⟨by decide, rfl⟩ rfl ⟨rfl, by decide⟩ rfl (Nat.le_of_ble_eq_true rfl) (Nat.zero_add _) (Nat.zero_add _) rfl ?_
        refine m_nameOf (L := L) (v := v) F1u (by omega) (ho1 15 (by decide) (by decide) (by decide) (by decide)) ?_
        refine aw_re (S' := [.int (bI (nmF (nmS (o0 15)) v)), .int 10000, .int (nI cs.length), .ref 78]) rfl ?_
        refine aw_top (y := nI j) (by rw [enm]; rfl) ?_
        refine aw_iaddV (npc := 87) (v := nI (10000 + j)) dX8_takesPart_86 rfl (nI_add 10000 _) ?_
        refine aw_iast (npc := 88) (j := cs.length) dX8_takesPart_87 rfl F1u.2.2.2.2.2.2.2.2.2.1 (am_ix_nI (by omega)) (by rw [tl_len]; omega) rfl ?_
        have F31 := mr_78 (j := cs.length) (v := nI (10000 + j)) F1u
        refine aw_aload_n (npc := 89) rfl dX8_takesPart_88 rfl ?_
        refine aw_dup (npc := 90) rfl dX8_takesPart_89 rfl ?_
        refine aw_get (npc := 93) dX8_takesPart_90 rfl kf_X8_228 F31.1 rfl ?_
        refine aw_top (y := nI cs.length) (m19_1) ?_
        refine aw_iconst (npc := 94) (v := 1) (by decide) dX8_takesPart_93 rfl ?_
        refine aw_iaddV (npc := 95) (v := nI (cs.length + 1)) dX8_takesPart_94 rfl (nI_add _ 1) ?_
        refine aw_put (npc := 98) dX8_takesPart_95 rfl kf_X8_228 F31.1 (Nat.le_of_ble_eq_true rfl) (am_ok_int _) rfl ?_
        have F32 := mr_o19 (v := nI (cs.length + 1)) F31
        refine aw_aload_n (npc := 99) rfl dX8_takesPart_98 rfl ?_
        refine aw_dup (npc := 100) rfl dX8_takesPart_99 rfl ?_
        refine aw_get (npc := 103) dX8_takesPart_100 rfl kf_X8_234 F32.1 rfl ?_
        refine aw_top (y := o1u 20) ((pk_un (by omega))) ?_
        refine aw_top (y := nI at_) (m20_1) ?_
        refine aw_iconst (npc := 104) (v := 1) (by decide) dX8_takesPart_103 rfl ?_
        refine aw_iaddV (npc := 105) (v := nI (at_ + 1)) dX8_takesPart_104 rfl (nI_add _ 1) ?_
        refine aw_put (npc := 108) dX8_takesPart_105 rfl kf_X8_234 F32.1 (Nat.le_of_ble_eq_true rfl) (am_ok_int _) rfl ?_
        have F33 := mr_o20 (v := nI (at_ + 1)) F32
        have Hp34 : EX (K, cs ++ [nI (10000 + j)], ws, at_ + 1, tq) L o0 N a0 _ := ⟨_, _, F33, ⟨(vk_u (by decide) (vk_u (by decide) vk1)), ((((pk_un (by omega))).trans pk_us).trans (show nI (cs.length + 1) = nI (cs ++ [nI (10000 + j)]).length by rw [List.length_append, List.length_singleton])), (pk_us), ((((pk_un (by omega))).trans (pk_un (by omega))).trans m22_1), (e_push mc1), (fun j hj => (congrFun (aup_n (by decide)) j).trans (mw1 j hj)), (fun j hj => (congrFun (aup_n (by decide)) j).trans (mq1 j hj))⟩, (fun k k1 k2 k3 k4 => (pk_un k3).trans ((pk_un k2).trans (ho1 k k1 k2 k3 k4))), (fun k k1 k2 k3 => (aup_n k1).trans (ha1 k k1 k2 k3))⟩
        refine aw_aload_n (npc := 109) rfl dX8_takesPart_108 rfl ?_
        refine aw_bipush (npc := 111) (v := 6) (by decide) dX8_takesPart_109 rfl ?_
        obtain ⟨o6u, a6u, F6u, ⟨vk6, m19_6, m20_6, m22_6, mc6, mw6, mq6⟩, ho6, ha6⟩ := id Hp34
        refine aw_callV (npc := 114) (N := mX8_settle) (b := 69) (mc := 0) (ms := 0) (A := [.int 6]) (S := []) (L0 := [some (.ref 69), some (.int 6)]) dX8_takesPart_111 rfl km_X8_settle kk_X8_237 F6u.1 ⟨by decide, rfl⟩ rfl ⟨rfl, by decide⟩ rfl (Nat.le_of_ble_eq_true rfl) (Nat.zero_add _) (Nat.zero_add _) rfl ?_
        refine m_settle (r := 6) ws (cs ++ [nI (10000 + j)]) _ Hp34 (by rw [List.length_append, List.length_singleton]; omega) (fun hp35 Hs36 fz37 => ?_)
        have fyfz37 : ∀ k, (k < 69 ∨ 92 ≤ k) → hp35 k = _ := fun k hk => fz37 k hk
        refine aw_aload_n (npc := 115) rfl dX8_takesPart_114 rfl ?_
        obtain ⟨o7u, a7u, F7u, ⟨vk7, m19_7, m20_7, m22_7, mc7, mw7, mq7⟩, ho7, ha7⟩ := id Hs36
        refine aw_callV (npc := 118) (N := mX8_go) (b := 69) (mc := 0) (ms := 0) (A := []) (S := []) (L0 := [some (.ref 69), none]) dX8_takesPart_115 rfl km_X8_go kk_X8_219 F7u.1 ⟨by decide, rfl⟩ rfl ⟨rfl, by decide⟩ rfl (Nat.le_of_ble_eq_true rfl) (Nat.zero_add _) (Nat.zero_add _) rfl ?_
        refine m_goE Hs36 hL wk h9 (Or.inl hK1) (fun hp38 Hg39 fz40 => ?_)
        have fyfz40 : ∀ k, (k < 69 ∨ 92 ≤ k) → hp38 k = _ := fun k hk => fz40 k hk
        refine aw_iconst (npc := 119) (v := 1) (by decide) dX8_takesPart_118 rfl ?_
        refine aw_zret rfl rfl dX8_takesPart_119 ?_
        refine k1 _ ?_ _ Hg39 (am_fpT (fun k (hk : k < 69 ∨ 92 ≤ k) => fyfz40 k (by omega)) (am_fpT (fun k (hk : k < 69 ∨ 92 ≤ k) => fyfz37 k (by omega)) (am_fpU (show ¬ (69 < 69 ∨ 92 ≤ 69) by omega) (am_fpU (show ¬ (69 < 69 ∨ 92 ≤ 69) by omega) (am_fpU (show ¬ (78 < 69 ∨ 92 ≤ 78) by omega) am_fp0)))))
        unfold ptO
        rw [if_neg (by omega), enk, enm]; rfl
