theorem ex_c {σ σ' : ES} {L : Nat} {o0 N : Nat → Int32} {a0 : Nat → Nat → Int32} {h : am_H} (e : σ = σ') (H : EX σ L o0 N a0 h) : EX σ' L o0 N a0 h := e ▸ H
theorem sg_c {L : Nat} {tp : Nat → Int32} {K : Nat × Nat × Nat} {o : Nat → Int32} (vk : VK L tp K o) (wk : WFK L tp K) : sgV (mtk K.1) (o 13) = sgV K.1 (tp K.2.1) := by
  by_cases e : K.1 = 3
  · rw [vk.2.2.2.1 (Or.inr e), e]; rfl
  · unfold sgV
    rw [if_neg e, if_neg (fun z => e ((mtk_eq wk.2.2.1 wk.2.2.2.1 (by omega)).mp z))]
theorem sg_3 {t : Nat} {y : Int32} (h : ¬ sgV t y = 0) : t = 3 := by
  unfold sgV at h
  split at h
  · assumption
  · exact absurd rfl h
set_option maxHeartbeats 4000000 in
set_option maxRecDepth 100000 in
theorem m_turnN {X : List Int32} {d rc rs n : Nat} {Q : am_Q} {L : Nat} {o0 N : Nat → Int32} {a0 : Nat → Nat → Int32} {h : am_H} {K : Nat × Nat × Nat} {cs ws : List Int32} {at_ p : Nat} {tq : Nat → Int32} {v4 : Option Value} (H : EX (K, cs, ws, at_, tq) L o0 N a0 h) (hL : L ≤ 96) (wk : WFK L (a0 75) K) (h9 : o0 9 = nI L) {g : Int32} (hg : sgV K.1 (a0 75 K.2.1) = g) (hb : cs.length + ws.length ≤ 96) (hb2 : K.1 ≠ 0 → cs.length + ws.length < 96) (hat : at_ ≤ 96) (hp : p ≤ 8) (hop : 0 < p → ∃ c1 w2, stl 0 cs ws = (c1, (-11) :: w2))
    (kE1 : K.1 = 0 → p = 0 → ∀ h9, EX (K, (stl 0 cs ws).1, (stl 0 cs ws).2, at_, tq) L o0 N a0 h9 → am_fp (fun k => k < 69 ∨ 92 ≤ k) h9 h → Q (some (.int 1)) n h9)
    (kE0 : K.1 = 0 → ¬ p = 0 → ∀ h9, EX (K, (stl 0 cs ws).1, (stl 0 cs ws).2, at_, tq) L o0 N a0 h9 → am_fp (fun k => k < 69 ∨ 92 ≤ k) h9 h → Q (some (.int 0)) n h9)
    (k41 : ¬ K.1 = 0 → K.1 = 3 ∧ a0 75 K.2.1 = 41 ∧ 0 < p → ∀ c1 w2, stl 0 cs ws = (c1, (-11) :: w2) → ∀ v4 h9, EX (adv L (a0 75) K, (stl 6 c1 w2).1, (stl 6 c1 w2).2, at_, tq) L o0 N a0 h9 → am_fp (fun k => k < 69 ∨ 92 ≤ k) h9 h → AW X mX8_takesE (d + 4) rc rs 28 [some (.ref 69), some (.int (nI (p - 1))), some (.int (nI (nO (stl 6 c1 w2).2))), some (.int 0), v4] [] n h9 Q)
    (ksg : ¬ K.1 = 0 → ¬ (K.1 = 3 ∧ a0 75 K.2.1 = 41 ∧ 0 < p) → ¬ g = 0 → ¬ (rkM g = 3 ∧ ¬ tq p = 0) → ∀ tv : Int32, tv = (if rkM g = 3 ∨ (3 < rkM g ∧ ¬ tq p = 0) then 1 else 0) → ∀ v4 h9, EX (adv L (a0 75) K, (stl (rkM g) cs ws).1, g :: (stl (rkM g) cs ws).2, at_, upd tq p tv) L o0 N a0 h9 → am_fp (fun k => k < 69 ∨ 92 ≤ k) h9 h → AW X mX8_takesE (d + 4) rc rs 28 [some (.ref 69), some (.int (nI p)), some (.int (nI (nO ws))), some (.int 1), v4] [] n h9 Q)
    (kno : ¬ K.1 = 0 → ¬ (K.1 = 3 ∧ a0 75 K.2.1 = 41 ∧ 0 < p) → (g = 0 ∨ (rkM g = 3 ∧ ¬ tq p = 0)) → Q (some (.int 0)) n h) : AW X mX8_takesE (d + 4) rc rs 28 [some (.ref 69), some (.int (nI p)), some (.int (nI (nO ws))), some (.int 0), v4] [] n h Q := by
  have hmt : mtk K.1 ≤ 5 := by have z := wk.2.2.1; unfold mtk; split <;> omega
  have hno := nO_le ws
  have we := wk.1
  have wf := wk.2.1
  refine aw_iload_n (npc := 29) rfl dX8_takesE_28 rfl ?_
  refine aw_if_ne (npc := 32) (tgt := 39) dX8_takesE_29 rfl (by decide) (fun hc => absurd (by decide) hc) (fun _ => ?_)
  refine aw_aload_n (npc := 33) rfl dX8_takesE_32 rfl ?_
  obtain ⟨o1u, a1u, F1u, ⟨vk1, m19_1, m20_1, m22_1, mc1, mw1, mq1⟩, ho1, ha1⟩ := id H
  refine aw_get (npc := 36) dX8_takesE_33 rfl kf_X8_204 F1u.1 rfl ?_
  refine aw_top (y := nI (mtk K.1)) (vk1.2.2.1) ?_
  refine aw_if_eq (npc := 39) (tgt := 345) dX8_takesE_36 rfl (by decide) (fun hc1 => ?_) (fun hc1 => ?_)
  · have hc1N := (nI_eq (a := (mtk K.1)) (b := 0) (by omega) (by omega)).mp hc1
    have hK0 : K.1 = 0 := (mtk_eq wk.2.2.1 wk.2.2.2.1 (by omega)).mp hc1N
    refine aw_aload_n (npc := 346) rfl dX8_takesE_345 rfl ?_
    refine aw_iconst (npc := 347) (v := 0) (by decide) dX8_takesE_346 rfl ?_
    refine aw_callV (npc := 350) (N := mX8_settle) (b := 69) (mc := 0) (ms := 0) (A := [.int 0]) (S := []) (L0 := [some (.ref 69), some (.int 0)]) dX8_takesE_347 rfl km_X8_settle kk_X8_237 F1u.1 ⟨by decide, rfl⟩ rfl ⟨rfl, by decide⟩ rfl (Nat.le_of_ble_eq_true rfl) (Nat.zero_add _) (Nat.zero_add _) rfl ?_
    refine m_settle (r := 0) ws cs _ H (by omega) (fun hp2 Hs3 fz4 => ?_)
    have fyfz4 : ∀ k, (k < 69 ∨ 92 ≤ k) → hp2 k = _ := fun k hk => fz4 k hk
    refine aw_iload_n (npc := 351) rfl dX8_takesE_350 rfl ?_
    refine aw_if_ne (npc := 354) (tgt := 358) dX8_takesE_351 rfl (by decide) (fun hc5 => ?_) (fun hc5 => ?_)
    · have hc5N : ¬ p = 0 := fun z9q => hc5 ((nI_eq (a := p) (b := 0) (by omega) (by omega)).mpr z9q)
      refine aw_iconst (npc := 359) (v := 0) (by decide) dX8_takesE_358 rfl ?_
      refine aw_zret rfl rfl dX8_takesE_359 ?_
      exact kE0 hK0 (by omega) _ Hs3 (am_fpT (fun k (hk : k < 69 ∨ 92 ≤ k) => fyfz4 k (by omega)) am_fp0)
    · have hc5N := (nI_eq (a := p) (b := 0) (by omega) (by omega)).mp hc5
      refine aw_iconst (npc := 355) (v := 1) (by decide) dX8_takesE_354 rfl ?_
      refine aw_goto (npc := 359) dX8_takesE_355 (by decide) ?_
      refine aw_zret rfl rfl dX8_takesE_359 ?_
      exact kE1 hK0 (by omega) _ Hs3 (am_fpT (fun k (hk : k < 69 ∨ 92 ≤ k) => fyfz4 k (by omega)) am_fp0)
  · have hc1N : ¬ (mtk K.1) = 0 := fun z9q => hc1 ((nI_eq (a := (mtk K.1)) (b := 0) (by omega) (by omega)).mpr z9q)
    have hK0 : ¬ K.1 = 0 := fun z => hc1N ((mtk_eq wk.2.2.1 wk.2.2.2.1 (by omega)).mpr z)
    refine aw_iload_n (npc := 40) rfl dX8_takesE_39 rfl ?_
    refine aw_if_eq (npc := 43) (tgt := 180) dX8_takesE_40 rfl (by decide) (fun _ => ?_) (fun hc => absurd (by decide) hc)
    refine aw_aload_n (npc := 181) rfl dX8_takesE_180 rfl ?_
    refine aw_get (npc := 184) dX8_takesE_181 rfl kf_X8_204 F1u.1 rfl ?_
    refine aw_top (y := nI (mtk K.1)) (vk1.2.2.1) ?_
    refine aw_iconst (npc := 185) (v := 3) (by decide) dX8_takesE_184 rfl ?_
    refine aw_icmp_ne (npc := 188) (tgt := 237) dX8_takesE_185 rfl (by decide) (fun hc6 => ?_) (fun hc6 => ?_)
    · have hc6N : ¬ (mtk K.1) = 3 := fun z9q => hc6 ((nI_eq (a := (mtk K.1)) (b := 3) (by omega) (by omega)).mpr z9q)
      refine aw_aload_n (npc := 238) rfl dX8_takesE_237 rfl ?_
      refine aw_callV (npc := 241) (N := mX8_signHere) (b := 69) (mc := 0) (ms := 0) (A := []) (S := []) (L0 := [some (.ref 69)]) dX8_takesE_238 rfl km_X8_signHere kk_X8_246 F1u.1 ⟨by decide, rfl⟩ rfl ⟨rfl, by decide⟩ rfl (Nat.le_of_ble_eq_true rfl) (Nat.zero_add _) (Nat.zero_add _) rfl ?_
      refine m_sign (L := L) (t := mtk K.1) F1u hmt vk1.2.2.1 rfl ?_
      refine aw_re (S' := [.int (sgV (mtk K.1) (o1u 13))]) rfl ?_
      refine aw_top (y := g) ((sg_c vk1 wk).trans hg) ?_
      refine aw_istore (npc := 243) (L' := [some (.ref 69), some (.int (nI p)), some (.int (nI (nO ws))), some (.int 0), some (.int g)]) dX8_takesE_241 rfl (by decide) rfl rfl ?_
      refine aw_iload (npc := 245) rfl dX8_takesE_243 rfl ?_
      refine aw_if_eq (npc := 248) (tgt := 266) dX8_takesE_245 rfl (by decide) (fun hc7 => ?_) (fun hc7 => ?_)
      · refine aw_iconst (npc := 267) (v := 0) (by decide) dX8_takesE_266 rfl ?_
        refine aw_zret rfl rfl dX8_takesE_267 ?_
        exact kno hK0 (fun z => hc6N ((mtk_eq wk.2.2.1 wk.2.2.2.1 (by omega)).mpr z.1)) (Or.inl hc7)
      · refine aw_iload (npc := 250) rfl dX8_takesE_248 rfl ?_
        refine aw_callS (npc := 253) (N := mX8_rank) (mc := 0) (ms := 0) (A := [.int g]) (S := []) (L0 := [some (.int g)]) dX8_takesE_250 rfl km_X8_rank kk_X8_225 rfl ⟨rfl, by decide⟩ rfl (Nat.le_of_ble_eq_true rfl) (Nat.zero_add _) (Nat.zero_add _) rfl ?_
        refine m_rank ?_
        refine aw_re (S' := [.int (rkM g)]) rfl ?_
        refine aw_iconst (npc := 254) (v := 3) (by decide) dX8_takesE_253 rfl ?_
        refine aw_icmp_ne (npc := 257) (tgt := 268) dX8_takesE_254 rfl (by decide) (fun hc8 => ?_) (fun hc8 => ?_)
        · refine aw_aload_n (npc := 269) rfl dX8_takesE_268 rfl ?_
          refine aw_get (npc := 272) dX8_takesE_269 rfl kf_X8_45 F1u.1 rfl ?_
          refine aw_iload_n (npc := 273) rfl dX8_takesE_272 rfl ?_
          refine aw_iload (npc := 275) rfl dX8_takesE_273 rfl ?_
          refine aw_callS (npc := 278) (N := mX8_rank) (mc := 0) (ms := 0) (A := [.int g]) (S := [.int (nI p), .ref 80]) (L0 := [some (.int g)]) dX8_takesE_275 rfl km_X8_rank kk_X8_225 rfl ⟨rfl, by decide⟩ rfl (Nat.le_of_ble_eq_true rfl) (Nat.zero_add _) (Nat.zero_add _) rfl ?_
          refine m_rank ?_
          refine aw_re (S' := [.int (rkM g), .int (nI p), .ref 80]) rfl ?_
          refine aw_iconst (npc := 279) (v := 3) (by decide) dX8_takesE_278 rfl ?_
          refine aw_icmp_eq (npc := 282) (tgt := 300) dX8_takesE_279 rfl (by decide) (fun hc => absurd hc (hc8)) (fun _ => ?_)
          refine aw_iload (npc := 284) rfl dX8_takesE_282 rfl ?_
          refine aw_callS (npc := 287) (N := mX8_rank) (mc := 0) (ms := 0) (A := [.int g]) (S := [.int (nI p), .ref 80]) (L0 := [some (.int g)]) dX8_takesE_284 rfl km_X8_rank kk_X8_225 rfl ⟨rfl, by decide⟩ rfl (Nat.le_of_ble_eq_true rfl) (Nat.zero_add _) (Nat.zero_add _) rfl ?_
          refine m_rank ?_
          refine aw_re (S' := [.int (rkM g), .int (nI p), .ref 80]) rfl ?_
          refine aw_iconst (npc := 288) (v := 3) (by decide) dX8_takesE_287 rfl ?_
          refine aw_icmp_le (npc := 291) (tgt := 304) dX8_takesE_288 rfl (by decide) (fun hc10 => ?_) (fun hc10 => ?_)
          · refine aw_iconst (npc := 305) (v := 0) (by decide) dX8_takesE_304 rfl ?_
            refine aw_zast (npc := 306) (j := p) dX8_takesE_305 rfl F1u.2.2.2.2.2.2.2.2.2.2.2.1 (am_ix_nI (by omega)) (by rw [tl_len]; omega) (show vp_nar .boolean 0 = 0 by decide) rfl ?_
            have F11 := mr_80 (j := p) (v := 0) F1u
            have hK3 : K.1 = 3 := sg_3 (y := a0 75 K.2.1) (by rw [hg]; exact hc7)
            have Hp12 : EX (K, cs, ws, at_, upd tq p 0) L o0 N a0 _ := ⟨_, _, F11, ⟨vk1, m19_1, m20_1, m22_1, (fun j hj => (congrFun (aup_n (by decide)) j).trans (mc1 j hj)), (fun j hj => (congrFun (aup_n (by decide)) j).trans (mw1 j hj)), (e_tst mq1)⟩, (fun k k1 k2 k3 k4 => ho1 k k1 k2 k3 k4), (fun k k1 k2 k3 => (aup_n k3).trans (ha1 k k1 k2 k3))⟩
            refine aw_aload_n (npc := 307) rfl dX8_takesE_306 rfl ?_
            refine aw_iload (npc := 309) rfl dX8_takesE_307 rfl ?_
            refine aw_callS (npc := 312) (N := mX8_rank) (mc := 0) (ms := 0) (A := [.int g]) (S := [.ref 69]) (L0 := [some (.int g)]) dX8_takesE_309 rfl km_X8_rank kk_X8_225 rfl ⟨rfl, by decide⟩ rfl (Nat.le_of_ble_eq_true rfl) (Nat.zero_add _) (Nat.zero_add _) rfl ?_
            refine m_rank ?_
            refine aw_re (S' := [.int (rkM g), .ref 69]) rfl ?_
            obtain ⟨o2u, a2u, F2u, ⟨vk2, m19_2, m20_2, m22_2, mc2, mw2, mq2⟩, ho2, ha2⟩ := id Hp12
            refine aw_callV (npc := 315) (N := mX8_settle) (b := 69) (mc := 0) (ms := 0) (A := [.int (rkM g)]) (S := []) (L0 := [some (.ref 69), some (.int (rkM g))]) dX8_takesE_312 rfl km_X8_settle kk_X8_237 F2u.1 ⟨by decide, rfl⟩ rfl ⟨rfl, by decide⟩ rfl (Nat.le_of_ble_eq_true rfl) (Nat.zero_add _) (Nat.zero_add _) rfl ?_
            refine m_settle (r := rkM g) ws cs _ Hp12 (by omega) (fun hp13 Hs14 fz15 => ?_)
            have fyfz15 : ∀ k, (k < 69 ∨ 92 ≤ k) → hp13 k = _ := fun k hk => fz15 k hk
            have hls := stl_len (r := rkM g) ws cs
            refine aw_aload_n (npc := 316) rfl dX8_takesE_315 rfl ?_
            obtain ⟨o3u, a3u, F3u, ⟨vk3, m19_3, m20_3, m22_3, mc3, mw3, mq3⟩, ho3, ha3⟩ := id Hs14
            refine aw_get (npc := 319) dX8_takesE_316 rfl kf_X8_42 F3u.1 rfl ?_
            refine aw_aload_n (npc := 320) rfl dX8_takesE_319 rfl ?_
            refine aw_get (npc := 323) dX8_takesE_320 rfl kf_X8_222 F3u.1 rfl ?_
            refine aw_top (y := nI ((stl (rkM g) cs ws).2).length) (m22_3) ?_
            refine aw_iload (npc := 325) rfl dX8_takesE_323 rfl ?_
            refine aw_iast (npc := 326) (j := (((stl (rkM g) cs ws).2).length)) dX8_takesE_325 rfl F3u.2.2.2.2.2.2.2.2.2.2.1 (am_ix_nI (by omega)) (by rw [tl_len]; omega) rfl ?_
            have F16 := mr_79 (j := (((stl (rkM g) cs ws).2).length)) (v := g) F3u
            refine aw_aload_n (npc := 327) rfl dX8_takesE_326 rfl ?_
            refine aw_dup (npc := 328) rfl dX8_takesE_327 rfl ?_
            refine aw_get (npc := 331) dX8_takesE_328 rfl kf_X8_222 F16.1 rfl ?_
            refine aw_top (y := nI ((stl (rkM g) cs ws).2).length) (m22_3) ?_
            refine aw_iconst (npc := 332) (v := 1) (by decide) dX8_takesE_331 rfl ?_
            refine aw_iaddV (npc := 333) (v := nI (((stl (rkM g) cs ws).2).length + 1)) dX8_takesE_332 rfl (nI_add _ 1) ?_
            refine aw_put (npc := 336) dX8_takesE_333 rfl kf_X8_222 F16.1 (Nat.le_of_ble_eq_true rfl) (am_ok_int _) rfl ?_
            have F17 := mr_o22 (v := nI (((stl (rkM g) cs ws).2).length + 1)) F16
            have Hp18 : EX (K, (stl (rkM g) cs ws).1, g :: (stl (rkM g) cs ws).2, at_, upd tq p 0) L o0 N a0 _ := ⟨_, _, F17, ⟨(vk_u (by decide) vk3), (((pk_un (by omega))).trans m19_3), (((pk_un (by omega))).trans m20_3), (pk_us), (fun j hj => (congrFun (aup_n (by decide)) j).trans (mc3 j hj)), (e_wait mw3), (fun j hj => (congrFun (aup_n (by decide)) j).trans (mq3 j hj))⟩, (fun k k1 k2 k3 k4 => (pk_un k4).trans (ho3 k k1 k2 k3 k4)), (fun k k1 k2 k3 => (aup_n k2).trans (ha3 k k1 k2 k3))⟩
            refine aw_iconst (npc := 337) (v := 1) (by decide) dX8_takesE_336 rfl ?_
            refine aw_istore_n (npc := 338) (L' := [some (.ref 69), some (.int (nI p)), some (.int (nI (nO ws))), some (.int 1), some (.int g)]) dX8_takesE_337 rfl (by decide) rfl rfl ?_
            refine aw_aload_n (npc := 339) rfl dX8_takesE_338 rfl ?_
            obtain ⟨o4u, a4u, F4u, ⟨vk4, m19_4, m20_4, m22_4, mc4, mw4, mq4⟩, ho4, ha4⟩ := id Hp18
            refine aw_callV (npc := 342) (N := mX8_go) (b := 69) (mc := 0) (ms := 0) (A := []) (S := []) (L0 := [some (.ref 69), none]) dX8_takesE_339 rfl km_X8_go kk_X8_219 F4u.1 ⟨by decide, rfl⟩ rfl ⟨rfl, by decide⟩ rfl (Nat.le_of_ble_eq_true rfl) (Nat.zero_add _) (Nat.zero_add _) rfl ?_
            refine m_goE Hp18 hL wk h9 (Or.inr (Or.inr hK3)) (fun hp19 Hg20 fz21 => ?_)
            have fyfz21 : ∀ k, (k < 69 ∨ 92 ≤ k) → hp19 k = _ := fun k hk => fz21 k hk
            refine aw_goto (npc := 28) dX8_takesE_342 (by decide) ?_
            refine ksg hK0 (fun z => hc6N ((mtk_eq wk.2.2.1 wk.2.2.2.1 (by omega)).mpr z.1)) hc7 ?_ 0 ?_ _ _ Hg20 (am_fpT (fun k (hk : k < 69 ∨ 92 ≤ k) => fyfz21 k (by omega)) (am_fpU (show ¬ (69 < 69 ∨ 92 ≤ 69) by omega) (am_fpU (show ¬ (79 < 69 ∨ 92 ≤ 79) by omega) (am_fpT (fun k (hk : k < 69 ∨ 92 ≤ k) => fyfz15 k (by omega)) (am_fpU (show ¬ (80 < 69 ∨ 92 ≤ 80) by omega) am_fp0)))))
            · exact fun z => hc8 z.1
            · exact (if_neg (fun z => z.elim hc8 (fun y => absurd y.1 (Int32.not_lt.mpr hc10)))).symm
          · refine aw_aload_n (npc := 292) rfl dX8_takesE_291 rfl ?_
            refine aw_get (npc := 295) dX8_takesE_292 rfl kf_X8_45 F1u.1 rfl ?_
            refine aw_iload_n (npc := 296) rfl dX8_takesE_295 rfl ?_
            refine aw_zald (npc := 297) (x := (a1u 80) p) (j := p) dX8_takesE_296 rfl F1u.2.2.2.2.2.2.2.2.2.2.2.1 (am_ix_nI (by omega)) (tl_at (by omega)) ?_
            refine aw_top (y := tq p) (mq1 p (by omega)) ?_
            refine aw_if_eq (npc := 300) (tgt := 304) dX8_takesE_297 rfl (by decide) (fun hc22 => ?_) (fun hc22 => ?_)
            · refine aw_iconst (npc := 305) (v := 0) (by decide) dX8_takesE_304 rfl ?_
              refine aw_zast (npc := 306) (j := p) dX8_takesE_305 rfl F1u.2.2.2.2.2.2.2.2.2.2.2.1 (am_ix_nI (by omega)) (by rw [tl_len]; omega) (show vp_nar .boolean 0 = 0 by decide) rfl ?_
              have F23 := mr_80 (j := p) (v := 0) F1u
              have hK3 : K.1 = 3 := sg_3 (y := a0 75 K.2.1) (by rw [hg]; exact hc7)
              have Hp24 : EX (K, cs, ws, at_, upd tq p 0) L o0 N a0 _ := ⟨_, _, F23, ⟨vk1, m19_1, m20_1, m22_1, (fun j hj => (congrFun (aup_n (by decide)) j).trans (mc1 j hj)), (fun j hj => (congrFun (aup_n (by decide)) j).trans (mw1 j hj)), (e_tst mq1)⟩, (fun k k1 k2 k3 k4 => ho1 k k1 k2 k3 k4), (fun k k1 k2 k3 => (aup_n k3).trans (ha1 k k1 k2 k3))⟩
              refine aw_aload_n (npc := 307) rfl dX8_takesE_306 rfl ?_
              refine aw_iload (npc := 309) rfl dX8_takesE_307 rfl ?_
              refine aw_callS (npc := 312) (N := mX8_rank) (mc := 0) (ms := 0) (A := [.int g]) (S := [.ref 69]) (L0 := [some (.int g)]) dX8_takesE_309 rfl km_X8_rank kk_X8_225 rfl ⟨rfl, by decide⟩ rfl (Nat.le_of_ble_eq_true rfl) (Nat.zero_add _) (Nat.zero_add _) rfl ?_
              refine m_rank ?_
              refine aw_re (S' := [.int (rkM g), .ref 69]) rfl ?_
              obtain ⟨o5u, a5u, F5u, ⟨vk5, m19_5, m20_5, m22_5, mc5, mw5, mq5⟩, ho5, ha5⟩ := id Hp24
              refine aw_callV (npc := 315) (N := mX8_settle) (b := 69) (mc := 0) (ms := 0) (A := [.int (rkM g)]) (S := []) (L0 := [some (.ref 69), some (.int (rkM g))]) dX8_takesE_312 rfl km_X8_settle kk_X8_237 F5u.1 ⟨by decide, rfl⟩ rfl ⟨rfl, by decide⟩ rfl (Nat.le_of_ble_eq_true rfl) (Nat.zero_add _) (Nat.zero_add _) rfl ?_
              refine m_settle (r := rkM g) ws cs _ Hp24 (by omega) (fun hp25 Hs26 fz27 => ?_)
              have fyfz27 : ∀ k, (k < 69 ∨ 92 ≤ k) → hp25 k = _ := fun k hk => fz27 k hk
              have hls := stl_len (r := rkM g) ws cs
              refine aw_aload_n (npc := 316) rfl dX8_takesE_315 rfl ?_
              obtain ⟨o6u, a6u, F6u, ⟨vk6, m19_6, m20_6, m22_6, mc6, mw6, mq6⟩, ho6, ha6⟩ := id Hs26
              refine aw_get (npc := 319) dX8_takesE_316 rfl kf_X8_42 F6u.1 rfl ?_
              refine aw_aload_n (npc := 320) rfl dX8_takesE_319 rfl ?_
              refine aw_get (npc := 323) dX8_takesE_320 rfl kf_X8_222 F6u.1 rfl ?_
              refine aw_top (y := nI ((stl (rkM g) cs ws).2).length) (m22_6) ?_
              refine aw_iload (npc := 325) rfl dX8_takesE_323 rfl ?_
              refine aw_iast (npc := 326) (j := (((stl (rkM g) cs ws).2).length)) dX8_takesE_325 rfl F6u.2.2.2.2.2.2.2.2.2.2.1 (am_ix_nI (by omega)) (by rw [tl_len]; omega) rfl ?_
              have F28 := mr_79 (j := (((stl (rkM g) cs ws).2).length)) (v := g) F6u
              refine aw_aload_n (npc := 327) rfl dX8_takesE_326 rfl ?_
              refine aw_dup (npc := 328) rfl dX8_takesE_327 rfl ?_
              refine aw_get (npc := 331) dX8_takesE_328 rfl kf_X8_222 F28.1 rfl ?_
              refine aw_top (y := nI ((stl (rkM g) cs ws).2).length) (m22_6) ?_
              refine aw_iconst (npc := 332) (v := 1) (by decide) dX8_takesE_331 rfl ?_
              refine aw_iaddV (npc := 333) (v := nI (((stl (rkM g) cs ws).2).length + 1)) dX8_takesE_332 rfl (nI_add _ 1) ?_
              refine aw_put (npc := 336) dX8_takesE_333 rfl kf_X8_222 F28.1 (Nat.le_of_ble_eq_true rfl) (am_ok_int _) rfl ?_
              have F29 := mr_o22 (v := nI (((stl (rkM g) cs ws).2).length + 1)) F28
              have Hp30 : EX (K, (stl (rkM g) cs ws).1, g :: (stl (rkM g) cs ws).2, at_, upd tq p 0) L o0 N a0 _ := ⟨_, _, F29, ⟨(vk_u (by decide) vk6), (((pk_un (by omega))).trans m19_6), (((pk_un (by omega))).trans m20_6), (pk_us), (fun j hj => (congrFun (aup_n (by decide)) j).trans (mc6 j hj)), (e_wait mw6), (fun j hj => (congrFun (aup_n (by decide)) j).trans (mq6 j hj))⟩, (fun k k1 k2 k3 k4 => (pk_un k4).trans (ho6 k k1 k2 k3 k4)), (fun k k1 k2 k3 => (aup_n k2).trans (ha6 k k1 k2 k3))⟩
              refine aw_iconst (npc := 337) (v := 1) (by decide) dX8_takesE_336 rfl ?_
              refine aw_istore_n (npc := 338) (L' := [some (.ref 69), some (.int (nI p)), some (.int (nI (nO ws))), some (.int 1), some (.int g)]) dX8_takesE_337 rfl (by decide) rfl rfl ?_
              refine aw_aload_n (npc := 339) rfl dX8_takesE_338 rfl ?_
              obtain ⟨o7u, a7u, F7u, ⟨vk7, m19_7, m20_7, m22_7, mc7, mw7, mq7⟩, ho7, ha7⟩ := id Hp30
              refine aw_callV (npc := 342) (N := mX8_go) (b := 69) (mc := 0) (ms := 0) (A := []) (S := []) (L0 := [some (.ref 69), none]) dX8_takesE_339 rfl km_X8_go kk_X8_219 F7u.1 ⟨by decide, rfl⟩ rfl ⟨rfl, by decide⟩ rfl (Nat.le_of_ble_eq_true rfl) (Nat.zero_add _) (Nat.zero_add _) rfl ?_
              refine m_goE Hp30 hL wk h9 (Or.inr (Or.inr hK3)) (fun hp31 Hg32 fz33 => ?_)
              have fyfz33 : ∀ k, (k < 69 ∨ 92 ≤ k) → hp31 k = _ := fun k hk => fz33 k hk
              refine aw_goto (npc := 28) dX8_takesE_342 (by decide) ?_
              refine ksg hK0 (fun z => hc6N ((mtk_eq wk.2.2.1 wk.2.2.2.1 (by omega)).mpr z.1)) hc7 ?_ 0 ?_ _ _ Hg32 (am_fpT (fun k (hk : k < 69 ∨ 92 ≤ k) => fyfz33 k (by omega)) (am_fpU (show ¬ (69 < 69 ∨ 92 ≤ 69) by omega) (am_fpU (show ¬ (79 < 69 ∨ 92 ≤ 79) by omega) (am_fpT (fun k (hk : k < 69 ∨ 92 ≤ k) => fyfz27 k (by omega)) (am_fpU (show ¬ (80 < 69 ∨ 92 ≤ 80) by omega) am_fp0)))))
              · exact fun z => hc8 z.1
              · exact (if_neg (fun z => z.elim hc8 (fun y => y.2 hc22))).symm
            · refine aw_iconst (npc := 301) (v := 1) (by decide) dX8_takesE_300 rfl ?_
              refine aw_goto (npc := 305) dX8_takesE_301 (by decide) ?_
              refine aw_zast (npc := 306) (j := p) dX8_takesE_305 rfl F1u.2.2.2.2.2.2.2.2.2.2.2.1 (am_ix_nI (by omega)) (by rw [tl_len]; omega) (show vp_nar .boolean 1 = 1 by decide) rfl ?_
              have F34 := mr_80 (j := p) (v := 1) F1u
              have hK3 : K.1 = 3 := sg_3 (y := a0 75 K.2.1) (by rw [hg]; exact hc7)
              have Hp35 : EX (K, cs, ws, at_, upd tq p 1) L o0 N a0 _ := ⟨_, _, F34, ⟨vk1, m19_1, m20_1, m22_1, (fun j hj => (congrFun (aup_n (by decide)) j).trans (mc1 j hj)), (fun j hj => (congrFun (aup_n (by decide)) j).trans (mw1 j hj)), (e_tst mq1)⟩, (fun k k1 k2 k3 k4 => ho1 k k1 k2 k3 k4), (fun k k1 k2 k3 => (aup_n k3).trans (ha1 k k1 k2 k3))⟩
              refine aw_aload_n (npc := 307) rfl dX8_takesE_306 rfl ?_
              refine aw_iload (npc := 309) rfl dX8_takesE_307 rfl ?_
              refine aw_callS (npc := 312) (N := mX8_rank) (mc := 0) (ms := 0) (A := [.int g]) (S := [.ref 69]) (L0 := [some (.int g)]) dX8_takesE_309 rfl km_X8_rank kk_X8_225 rfl ⟨rfl, by decide⟩ rfl (Nat.le_of_ble_eq_true rfl) (Nat.zero_add _) (Nat.zero_add _) rfl ?_
              refine m_rank ?_
              refine aw_re (S' := [.int (rkM g), .ref 69]) rfl ?_
              obtain ⟨o8u, a8u, F8u, ⟨vk8, m19_8, m20_8, m22_8, mc8, mw8, mq8⟩, ho8, ha8⟩ := id Hp35
              refine aw_callV (npc := 315) (N := mX8_settle) (b := 69) (mc := 0) (ms := 0) (A := [.int (rkM g)]) (S := []) (L0 := [some (.ref 69), some (.int (rkM g))]) dX8_takesE_312 rfl km_X8_settle kk_X8_237 F8u.1 ⟨by decide, rfl⟩ rfl ⟨rfl, by decide⟩ rfl (Nat.le_of_ble_eq_true rfl) (Nat.zero_add _) (Nat.zero_add _) rfl ?_
              refine m_settle (r := rkM g) ws cs _ Hp35 (by omega) (fun hp36 Hs37 fz38 => ?_)
              have fyfz38 : ∀ k, (k < 69 ∨ 92 ≤ k) → hp36 k = _ := fun k hk => fz38 k hk
              have hls := stl_len (r := rkM g) ws cs
              refine aw_aload_n (npc := 316) rfl dX8_takesE_315 rfl ?_
              obtain ⟨o9u, a9u, F9u, ⟨vk9, m19_9, m20_9, m22_9, mc9, mw9, mq9⟩, ho9, ha9⟩ := id Hs37
              refine aw_get (npc := 319) dX8_takesE_316 rfl kf_X8_42 F9u.1 rfl ?_
              refine aw_aload_n (npc := 320) rfl dX8_takesE_319 rfl ?_
              refine aw_get (npc := 323) dX8_takesE_320 rfl kf_X8_222 F9u.1 rfl ?_
              refine aw_top (y := nI ((stl (rkM g) cs ws).2).length) (m22_9) ?_
              refine aw_iload (npc := 325) rfl dX8_takesE_323 rfl ?_
              refine aw_iast (npc := 326) (j := (((stl (rkM g) cs ws).2).length)) dX8_takesE_325 rfl F9u.2.2.2.2.2.2.2.2.2.2.1 (am_ix_nI (by omega)) (by rw [tl_len]; omega) rfl ?_
              have F39 := mr_79 (j := (((stl (rkM g) cs ws).2).length)) (v := g) F9u
              refine aw_aload_n (npc := 327) rfl dX8_takesE_326 rfl ?_
              refine aw_dup (npc := 328) rfl dX8_takesE_327 rfl ?_
              refine aw_get (npc := 331) dX8_takesE_328 rfl kf_X8_222 F39.1 rfl ?_
              refine aw_top (y := nI ((stl (rkM g) cs ws).2).length) (m22_9) ?_
              refine aw_iconst (npc := 332) (v := 1) (by decide) dX8_takesE_331 rfl ?_
              refine aw_iaddV (npc := 333) (v := nI (((stl (rkM g) cs ws).2).length + 1)) dX8_takesE_332 rfl (nI_add _ 1) ?_
              refine aw_put (npc := 336) dX8_takesE_333 rfl kf_X8_222 F39.1 (Nat.le_of_ble_eq_true rfl) (am_ok_int _) rfl ?_
              have F40 := mr_o22 (v := nI (((stl (rkM g) cs ws).2).length + 1)) F39
              have Hp41 : EX (K, (stl (rkM g) cs ws).1, g :: (stl (rkM g) cs ws).2, at_, upd tq p 1) L o0 N a0 _ := ⟨_, _, F40, ⟨(vk_u (by decide) vk9), (((pk_un (by omega))).trans m19_9), (((pk_un (by omega))).trans m20_9), (pk_us), (fun j hj => (congrFun (aup_n (by decide)) j).trans (mc9 j hj)), (e_wait mw9), (fun j hj => (congrFun (aup_n (by decide)) j).trans (mq9 j hj))⟩, (fun k k1 k2 k3 k4 => (pk_un k4).trans (ho9 k k1 k2 k3 k4)), (fun k k1 k2 k3 => (aup_n k2).trans (ha9 k k1 k2 k3))⟩
              refine aw_iconst (npc := 337) (v := 1) (by decide) dX8_takesE_336 rfl ?_
              refine aw_istore_n (npc := 338) (L' := [some (.ref 69), some (.int (nI p)), some (.int (nI (nO ws))), some (.int 1), some (.int g)]) dX8_takesE_337 rfl (by decide) rfl rfl ?_
              refine aw_aload_n (npc := 339) rfl dX8_takesE_338 rfl ?_
              obtain ⟨o10u, a10u, F10u, ⟨vk10, m19_10, m20_10, m22_10, mc10, mw10, mq10⟩, ho10, ha10⟩ := id Hp41
              refine aw_callV (npc := 342) (N := mX8_go) (b := 69) (mc := 0) (ms := 0) (A := []) (S := []) (L0 := [some (.ref 69), none]) dX8_takesE_339 rfl km_X8_go kk_X8_219 F10u.1 ⟨by decide, rfl⟩ rfl ⟨rfl, by decide⟩ rfl (Nat.le_of_ble_eq_true rfl) (Nat.zero_add _) (Nat.zero_add _) rfl ?_
              refine m_goE Hp41 hL wk h9 (Or.inr (Or.inr hK3)) (fun hp42 Hg43 fz44 => ?_)
              have fyfz44 : ∀ k, (k < 69 ∨ 92 ≤ k) → hp42 k = _ := fun k hk => fz44 k hk
              refine aw_goto (npc := 28) dX8_takesE_342 (by decide) ?_
              refine ksg hK0 (fun z => hc6N ((mtk_eq wk.2.2.1 wk.2.2.2.1 (by omega)).mpr z.1)) hc7 ?_ 1 ?_ _ _ Hg43 (am_fpT (fun k (hk : k < 69 ∨ 92 ≤ k) => fyfz44 k (by omega)) (am_fpU (show ¬ (69 < 69 ∨ 92 ≤ 69) by omega) (am_fpU (show ¬ (79 < 69 ∨ 92 ≤ 79) by omega) (am_fpT (fun k (hk : k < 69 ∨ 92 ≤ k) => fyfz38 k (by omega)) (am_fpU (show ¬ (80 < 69 ∨ 92 ≤ 80) by omega) am_fp0)))))
              · exact fun z => hc8 z.1
              · exact (if_pos (Or.inr ⟨Int32.not_le.mp hc10, hc22⟩)).symm
        · refine aw_aload_n (npc := 258) rfl dX8_takesE_257 rfl ?_
          refine aw_get (npc := 261) dX8_takesE_258 rfl kf_X8_45 F1u.1 rfl ?_
          refine aw_iload_n (npc := 262) rfl dX8_takesE_261 rfl ?_
          refine aw_zald (npc := 263) (x := (a1u 80) p) (j := p) dX8_takesE_262 rfl F1u.2.2.2.2.2.2.2.2.2.2.2.1 (am_ix_nI (by omega)) (tl_at (by omega)) ?_
          refine aw_top (y := tq p) (mq1 p (by omega)) ?_
          refine aw_if_eq (npc := 266) (tgt := 268) dX8_takesE_263 rfl (by decide) (fun hc45 => ?_) (fun hc45 => ?_)
          · refine aw_aload_n (npc := 269) rfl dX8_takesE_268 rfl ?_
            refine aw_get (npc := 272) dX8_takesE_269 rfl kf_X8_45 F1u.1 rfl ?_
            refine aw_iload_n (npc := 273) rfl dX8_takesE_272 rfl ?_
            refine aw_iload (npc := 275) rfl dX8_takesE_273 rfl ?_
            refine aw_callS (npc := 278) (N := mX8_rank) (mc := 0) (ms := 0) (A := [.int g]) (S := [.int (nI p), .ref 80]) (L0 := [some (.int g)]) dX8_takesE_275 rfl km_X8_rank kk_X8_225 rfl ⟨rfl, by decide⟩ rfl (Nat.le_of_ble_eq_true rfl) (Nat.zero_add _) (Nat.zero_add _) rfl ?_
            refine m_rank ?_
            refine aw_re (S' := [.int (rkM g), .int (nI p), .ref 80]) rfl ?_
            refine aw_iconst (npc := 279) (v := 3) (by decide) dX8_takesE_278 rfl ?_
            refine aw_icmp_eq (npc := 282) (tgt := 300) dX8_takesE_279 rfl (by decide) (fun _ => ?_) (fun hc => absurd (hc8) hc)
            refine aw_iconst (npc := 301) (v := 1) (by decide) dX8_takesE_300 rfl ?_
            refine aw_goto (npc := 305) dX8_takesE_301 (by decide) ?_
            refine aw_zast (npc := 306) (j := p) dX8_takesE_305 rfl F1u.2.2.2.2.2.2.2.2.2.2.2.1 (am_ix_nI (by omega)) (by rw [tl_len]; omega) (show vp_nar .boolean 1 = 1 by decide) rfl ?_
            have F47 := mr_80 (j := p) (v := 1) F1u
            have hK3 : K.1 = 3 := sg_3 (y := a0 75 K.2.1) (by rw [hg]; exact hc7)
            have Hp48 : EX (K, cs, ws, at_, upd tq p 1) L o0 N a0 _ := ⟨_, _, F47, ⟨vk1, m19_1, m20_1, m22_1, (fun j hj => (congrFun (aup_n (by decide)) j).trans (mc1 j hj)), (fun j hj => (congrFun (aup_n (by decide)) j).trans (mw1 j hj)), (e_tst mq1)⟩, (fun k k1 k2 k3 k4 => ho1 k k1 k2 k3 k4), (fun k k1 k2 k3 => (aup_n k3).trans (ha1 k k1 k2 k3))⟩
            refine aw_aload_n (npc := 307) rfl dX8_takesE_306 rfl ?_
            refine aw_iload (npc := 309) rfl dX8_takesE_307 rfl ?_
            refine aw_callS (npc := 312) (N := mX8_rank) (mc := 0) (ms := 0) (A := [.int g]) (S := [.ref 69]) (L0 := [some (.int g)]) dX8_takesE_309 rfl km_X8_rank kk_X8_225 rfl ⟨rfl, by decide⟩ rfl (Nat.le_of_ble_eq_true rfl) (Nat.zero_add _) (Nat.zero_add _) rfl ?_
            refine m_rank ?_
            refine aw_re (S' := [.int (rkM g), .ref 69]) rfl ?_
            obtain ⟨o11u, a11u, F11u, ⟨vk11, m19_11, m20_11, m22_11, mc11, mw11, mq11⟩, ho11, ha11⟩ := id Hp48
            refine aw_callV (npc := 315) (N := mX8_settle) (b := 69) (mc := 0) (ms := 0) (A := [.int (rkM g)]) (S := []) (L0 := [some (.ref 69), some (.int (rkM g))]) dX8_takesE_312 rfl km_X8_settle kk_X8_237 F11u.1 ⟨by decide, rfl⟩ rfl ⟨rfl, by decide⟩ rfl (Nat.le_of_ble_eq_true rfl) (Nat.zero_add _) (Nat.zero_add _) rfl ?_
            refine m_settle (r := rkM g) ws cs _ Hp48 (by omega) (fun hp49 Hs50 fz51 => ?_)
            have fyfz51 : ∀ k, (k < 69 ∨ 92 ≤ k) → hp49 k = _ := fun k hk => fz51 k hk
            have hls := stl_len (r := rkM g) ws cs
            refine aw_aload_n (npc := 316) rfl dX8_takesE_315 rfl ?_
            obtain ⟨o12u, a12u, F12u, ⟨vk12, m19_12, m20_12, m22_12, mc12, mw12, mq12⟩, ho12, ha12⟩ := id Hs50
            refine aw_get (npc := 319) dX8_takesE_316 rfl kf_X8_42 F12u.1 rfl ?_
            refine aw_aload_n (npc := 320) rfl dX8_takesE_319 rfl ?_
            refine aw_get (npc := 323) dX8_takesE_320 rfl kf_X8_222 F12u.1 rfl ?_
            refine aw_top (y := nI ((stl (rkM g) cs ws).2).length) (m22_12) ?_
            refine aw_iload (npc := 325) rfl dX8_takesE_323 rfl ?_
            refine aw_iast (npc := 326) (j := (((stl (rkM g) cs ws).2).length)) dX8_takesE_325 rfl F12u.2.2.2.2.2.2.2.2.2.2.1 (am_ix_nI (by omega)) (by rw [tl_len]; omega) rfl ?_
            have F52 := mr_79 (j := (((stl (rkM g) cs ws).2).length)) (v := g) F12u
            refine aw_aload_n (npc := 327) rfl dX8_takesE_326 rfl ?_
            refine aw_dup (npc := 328) rfl dX8_takesE_327 rfl ?_
            refine aw_get (npc := 331) dX8_takesE_328 rfl kf_X8_222 F52.1 rfl ?_
            refine aw_top (y := nI ((stl (rkM g) cs ws).2).length) (m22_12) ?_
            refine aw_iconst (npc := 332) (v := 1) (by decide) dX8_takesE_331 rfl ?_
            refine aw_iaddV (npc := 333) (v := nI (((stl (rkM g) cs ws).2).length + 1)) dX8_takesE_332 rfl (nI_add _ 1) ?_
            refine aw_put (npc := 336) dX8_takesE_333 rfl kf_X8_222 F52.1 (Nat.le_of_ble_eq_true rfl) (am_ok_int _) rfl ?_
            have F53 := mr_o22 (v := nI (((stl (rkM g) cs ws).2).length + 1)) F52
            have Hp54 : EX (K, (stl (rkM g) cs ws).1, g :: (stl (rkM g) cs ws).2, at_, upd tq p 1) L o0 N a0 _ := ⟨_, _, F53, ⟨(vk_u (by decide) vk12), (((pk_un (by omega))).trans m19_12), (((pk_un (by omega))).trans m20_12), (pk_us), (fun j hj => (congrFun (aup_n (by decide)) j).trans (mc12 j hj)), (e_wait mw12), (fun j hj => (congrFun (aup_n (by decide)) j).trans (mq12 j hj))⟩, (fun k k1 k2 k3 k4 => (pk_un k4).trans (ho12 k k1 k2 k3 k4)), (fun k k1 k2 k3 => (aup_n k2).trans (ha12 k k1 k2 k3))⟩
            refine aw_iconst (npc := 337) (v := 1) (by decide) dX8_takesE_336 rfl ?_
            refine aw_istore_n (npc := 338) (L' := [some (.ref 69), some (.int (nI p)), some (.int (nI (nO ws))), some (.int 1), some (.int g)]) dX8_takesE_337 rfl (by decide) rfl rfl ?_
            refine aw_aload_n (npc := 339) rfl dX8_takesE_338 rfl ?_
            obtain ⟨o13u, a13u, F13u, ⟨vk13, m19_13, m20_13, m22_13, mc13, mw13, mq13⟩, ho13, ha13⟩ := id Hp54
            refine aw_callV (npc := 342) (N := mX8_go) (b := 69) (mc := 0) (ms := 0) (A := []) (S := []) (L0 := [some (.ref 69), none]) dX8_takesE_339 rfl km_X8_go kk_X8_219 F13u.1 ⟨by decide, rfl⟩ rfl ⟨rfl, by decide⟩ rfl (Nat.le_of_ble_eq_true rfl) (Nat.zero_add _) (Nat.zero_add _) rfl ?_
            refine m_goE Hp54 hL wk h9 (Or.inr (Or.inr hK3)) (fun hp55 Hg56 fz57 => ?_)
            have fyfz57 : ∀ k, (k < 69 ∨ 92 ≤ k) → hp55 k = _ := fun k hk => fz57 k hk
            refine aw_goto (npc := 28) dX8_takesE_342 (by decide) ?_
            refine ksg hK0 (fun z => hc6N ((mtk_eq wk.2.2.1 wk.2.2.2.1 (by omega)).mpr z.1)) hc7 ?_ 1 ?_ _ _ Hg56 (am_fpT (fun k (hk : k < 69 ∨ 92 ≤ k) => fyfz57 k (by omega)) (am_fpU (show ¬ (69 < 69 ∨ 92 ≤ 69) by omega) (am_fpU (show ¬ (79 < 69 ∨ 92 ≤ 79) by omega) (am_fpT (fun k (hk : k < 69 ∨ 92 ≤ k) => fyfz51 k (by omega)) (am_fpU (show ¬ (80 < 69 ∨ 92 ≤ 80) by omega) am_fp0)))))
            · exact fun z => z.2 hc45
            · exact (if_pos (Or.inl hc8)).symm
          · refine aw_iconst (npc := 267) (v := 0) (by decide) dX8_takesE_266 rfl ?_
            refine aw_zret rfl rfl dX8_takesE_267 ?_
            exact kno hK0 (fun z => hc6N ((mtk_eq wk.2.2.1 wk.2.2.2.1 (by omega)).mpr z.1)) (Or.inr ⟨hc8, hc45⟩)
    · have hc6N := (nI_eq (a := (mtk K.1)) (b := 3) (by omega) (by omega)).mp hc6
      have hK3 : K.1 = 3 := (mtk_eq wk.2.2.1 wk.2.2.2.1 (by omega)).mp hc6N
      refine aw_aload_n (npc := 189) rfl dX8_takesE_188 rfl ?_
      refine aw_get (npc := 192) dX8_takesE_189 rfl kf_X8_210 F1u.1 rfl ?_
      refine aw_top (y := a0 75 K.2.1) (vk1.2.2.2.1 (Or.inr hK3)) ?_
      refine aw_bipush (npc := 194) (v := 41) (by decide) dX8_takesE_192 rfl ?_
      refine aw_icmp_ne (npc := 197) (tgt := 237) dX8_takesE_194 rfl (by decide) (fun hc58 => ?_) (fun hc58 => ?_)
      · refine aw_aload_n (npc := 238) rfl dX8_takesE_237 rfl ?_
        refine aw_callV (npc := 241) (N := mX8_signHere) (b := 69) (mc := 0) (ms := 0) (A := []) (S := []) (L0 := [some (.ref 69)]) dX8_takesE_238 rfl km_X8_signHere kk_X8_246 F1u.1 ⟨by decide, rfl⟩ rfl ⟨rfl, by decide⟩ rfl (Nat.le_of_ble_eq_true rfl) (Nat.zero_add _) (Nat.zero_add _) rfl ?_
        refine m_sign (L := L) (t := mtk K.1) F1u hmt vk1.2.2.1 rfl ?_
        refine aw_re (S' := [.int (sgV (mtk K.1) (o1u 13))]) rfl ?_
        refine aw_top (y := g) ((sg_c vk1 wk).trans hg) ?_
        refine aw_istore (npc := 243) (L' := [some (.ref 69), some (.int (nI p)), some (.int (nI (nO ws))), some (.int 0), some (.int g)]) dX8_takesE_241 rfl (by decide) rfl rfl ?_
        refine aw_iload (npc := 245) rfl dX8_takesE_243 rfl ?_
        refine aw_if_eq (npc := 248) (tgt := 266) dX8_takesE_245 rfl (by decide) (fun hc59 => ?_) (fun hc59 => ?_)
        · refine aw_iconst (npc := 267) (v := 0) (by decide) dX8_takesE_266 rfl ?_
          refine aw_zret rfl rfl dX8_takesE_267 ?_
          exact kno hK0 (fun z => hc58 z.2.1) (Or.inl hc59)
        · refine aw_iload (npc := 250) rfl dX8_takesE_248 rfl ?_
          refine aw_callS (npc := 253) (N := mX8_rank) (mc := 0) (ms := 0) (A := [.int g]) (S := []) (L0 := [some (.int g)]) dX8_takesE_250 rfl km_X8_rank kk_X8_225 rfl ⟨rfl, by decide⟩ rfl (Nat.le_of_ble_eq_true rfl) (Nat.zero_add _) (Nat.zero_add _) rfl ?_
          refine m_rank ?_
          refine aw_re (S' := [.int (rkM g)]) rfl ?_
          refine aw_iconst (npc := 254) (v := 3) (by decide) dX8_takesE_253 rfl ?_
          refine aw_icmp_ne (npc := 257) (tgt := 268) dX8_takesE_254 rfl (by decide) (fun hc60 => ?_) (fun hc60 => ?_)
          · refine aw_aload_n (npc := 269) rfl dX8_takesE_268 rfl ?_
            refine aw_get (npc := 272) dX8_takesE_269 rfl kf_X8_45 F1u.1 rfl ?_
            refine aw_iload_n (npc := 273) rfl dX8_takesE_272 rfl ?_
            refine aw_iload (npc := 275) rfl dX8_takesE_273 rfl ?_
            refine aw_callS (npc := 278) (N := mX8_rank) (mc := 0) (ms := 0) (A := [.int g]) (S := [.int (nI p), .ref 80]) (L0 := [some (.int g)]) dX8_takesE_275 rfl km_X8_rank kk_X8_225 rfl ⟨rfl, by decide⟩ rfl (Nat.le_of_ble_eq_true rfl) (Nat.zero_add _) (Nat.zero_add _) rfl ?_
            refine m_rank ?_
            refine aw_re (S' := [.int (rkM g), .int (nI p), .ref 80]) rfl ?_
            refine aw_iconst (npc := 279) (v := 3) (by decide) dX8_takesE_278 rfl ?_
            refine aw_icmp_eq (npc := 282) (tgt := 300) dX8_takesE_279 rfl (by decide) (fun hc => absurd hc (hc60)) (fun _ => ?_)
            refine aw_iload (npc := 284) rfl dX8_takesE_282 rfl ?_
            refine aw_callS (npc := 287) (N := mX8_rank) (mc := 0) (ms := 0) (A := [.int g]) (S := [.int (nI p), .ref 80]) (L0 := [some (.int g)]) dX8_takesE_284 rfl km_X8_rank kk_X8_225 rfl ⟨rfl, by decide⟩ rfl (Nat.le_of_ble_eq_true rfl) (Nat.zero_add _) (Nat.zero_add _) rfl ?_
            refine m_rank ?_
            refine aw_re (S' := [.int (rkM g), .int (nI p), .ref 80]) rfl ?_
            refine aw_iconst (npc := 288) (v := 3) (by decide) dX8_takesE_287 rfl ?_
            refine aw_icmp_le (npc := 291) (tgt := 304) dX8_takesE_288 rfl (by decide) (fun hc62 => ?_) (fun hc62 => ?_)
            · refine aw_iconst (npc := 305) (v := 0) (by decide) dX8_takesE_304 rfl ?_
              refine aw_zast (npc := 306) (j := p) dX8_takesE_305 rfl F1u.2.2.2.2.2.2.2.2.2.2.2.1 (am_ix_nI (by omega)) (by rw [tl_len]; omega) (show vp_nar .boolean 0 = 0 by decide) rfl ?_
              have F63 := mr_80 (j := p) (v := 0) F1u
              have hK3 : K.1 = 3 := sg_3 (y := a0 75 K.2.1) (by rw [hg]; exact hc59)
              have Hp64 : EX (K, cs, ws, at_, upd tq p 0) L o0 N a0 _ := ⟨_, _, F63, ⟨vk1, m19_1, m20_1, m22_1, (fun j hj => (congrFun (aup_n (by decide)) j).trans (mc1 j hj)), (fun j hj => (congrFun (aup_n (by decide)) j).trans (mw1 j hj)), (e_tst mq1)⟩, (fun k k1 k2 k3 k4 => ho1 k k1 k2 k3 k4), (fun k k1 k2 k3 => (aup_n k3).trans (ha1 k k1 k2 k3))⟩
              refine aw_aload_n (npc := 307) rfl dX8_takesE_306 rfl ?_
              refine aw_iload (npc := 309) rfl dX8_takesE_307 rfl ?_
              refine aw_callS (npc := 312) (N := mX8_rank) (mc := 0) (ms := 0) (A := [.int g]) (S := [.ref 69]) (L0 := [some (.int g)]) dX8_takesE_309 rfl km_X8_rank kk_X8_225 rfl ⟨rfl, by decide⟩ rfl (Nat.le_of_ble_eq_true rfl) (Nat.zero_add _) (Nat.zero_add _) rfl ?_
              refine m_rank ?_
              refine aw_re (S' := [.int (rkM g), .ref 69]) rfl ?_
              obtain ⟨o14u, a14u, F14u, ⟨vk14, m19_14, m20_14, m22_14, mc14, mw14, mq14⟩, ho14, ha14⟩ := id Hp64
              refine aw_callV (npc := 315) (N := mX8_settle) (b := 69) (mc := 0) (ms := 0) (A := [.int (rkM g)]) (S := []) (L0 := [some (.ref 69), some (.int (rkM g))]) dX8_takesE_312 rfl km_X8_settle kk_X8_237 F14u.1 ⟨by decide, rfl⟩ rfl ⟨rfl, by decide⟩ rfl (Nat.le_of_ble_eq_true rfl) (Nat.zero_add _) (Nat.zero_add _) rfl ?_
              refine m_settle (r := rkM g) ws cs _ Hp64 (by omega) (fun hp65 Hs66 fz67 => ?_)
              have fyfz67 : ∀ k, (k < 69 ∨ 92 ≤ k) → hp65 k = _ := fun k hk => fz67 k hk
              have hls := stl_len (r := rkM g) ws cs
              refine aw_aload_n (npc := 316) rfl dX8_takesE_315 rfl ?_
              obtain ⟨o15u, a15u, F15u, ⟨vk15, m19_15, m20_15, m22_15, mc15, mw15, mq15⟩, ho15, ha15⟩ := id Hs66
              refine aw_get (npc := 319) dX8_takesE_316 rfl kf_X8_42 F15u.1 rfl ?_
              refine aw_aload_n (npc := 320) rfl dX8_takesE_319 rfl ?_
              refine aw_get (npc := 323) dX8_takesE_320 rfl kf_X8_222 F15u.1 rfl ?_
              refine aw_top (y := nI ((stl (rkM g) cs ws).2).length) (m22_15) ?_
              refine aw_iload (npc := 325) rfl dX8_takesE_323 rfl ?_
              refine aw_iast (npc := 326) (j := (((stl (rkM g) cs ws).2).length)) dX8_takesE_325 rfl F15u.2.2.2.2.2.2.2.2.2.2.1 (am_ix_nI (by omega)) (by rw [tl_len]; omega) rfl ?_
              have F68 := mr_79 (j := (((stl (rkM g) cs ws).2).length)) (v := g) F15u
              refine aw_aload_n (npc := 327) rfl dX8_takesE_326 rfl ?_
              refine aw_dup (npc := 328) rfl dX8_takesE_327 rfl ?_
              refine aw_get (npc := 331) dX8_takesE_328 rfl kf_X8_222 F68.1 rfl ?_
              refine aw_top (y := nI ((stl (rkM g) cs ws).2).length) (m22_15) ?_
              refine aw_iconst (npc := 332) (v := 1) (by decide) dX8_takesE_331 rfl ?_
              refine aw_iaddV (npc := 333) (v := nI (((stl (rkM g) cs ws).2).length + 1)) dX8_takesE_332 rfl (nI_add _ 1) ?_
              refine aw_put (npc := 336) dX8_takesE_333 rfl kf_X8_222 F68.1 (Nat.le_of_ble_eq_true rfl) (am_ok_int _) rfl ?_
              have F69 := mr_o22 (v := nI (((stl (rkM g) cs ws).2).length + 1)) F68
              have Hp70 : EX (K, (stl (rkM g) cs ws).1, g :: (stl (rkM g) cs ws).2, at_, upd tq p 0) L o0 N a0 _ := ⟨_, _, F69, ⟨(vk_u (by decide) vk15), (((pk_un (by omega))).trans m19_15), (((pk_un (by omega))).trans m20_15), (pk_us), (fun j hj => (congrFun (aup_n (by decide)) j).trans (mc15 j hj)), (e_wait mw15), (fun j hj => (congrFun (aup_n (by decide)) j).trans (mq15 j hj))⟩, (fun k k1 k2 k3 k4 => (pk_un k4).trans (ho15 k k1 k2 k3 k4)), (fun k k1 k2 k3 => (aup_n k2).trans (ha15 k k1 k2 k3))⟩
              refine aw_iconst (npc := 337) (v := 1) (by decide) dX8_takesE_336 rfl ?_
              refine aw_istore_n (npc := 338) (L' := [some (.ref 69), some (.int (nI p)), some (.int (nI (nO ws))), some (.int 1), some (.int g)]) dX8_takesE_337 rfl (by decide) rfl rfl ?_
              refine aw_aload_n (npc := 339) rfl dX8_takesE_338 rfl ?_
              obtain ⟨o16u, a16u, F16u, ⟨vk16, m19_16, m20_16, m22_16, mc16, mw16, mq16⟩, ho16, ha16⟩ := id Hp70
              refine aw_callV (npc := 342) (N := mX8_go) (b := 69) (mc := 0) (ms := 0) (A := []) (S := []) (L0 := [some (.ref 69), none]) dX8_takesE_339 rfl km_X8_go kk_X8_219 F16u.1 ⟨by decide, rfl⟩ rfl ⟨rfl, by decide⟩ rfl (Nat.le_of_ble_eq_true rfl) (Nat.zero_add _) (Nat.zero_add _) rfl ?_
              refine m_goE Hp70 hL wk h9 (Or.inr (Or.inr hK3)) (fun hp71 Hg72 fz73 => ?_)
              have fyfz73 : ∀ k, (k < 69 ∨ 92 ≤ k) → hp71 k = _ := fun k hk => fz73 k hk
              refine aw_goto (npc := 28) dX8_takesE_342 (by decide) ?_
              refine ksg hK0 (fun z => hc58 z.2.1) hc59 ?_ 0 ?_ _ _ Hg72 (am_fpT (fun k (hk : k < 69 ∨ 92 ≤ k) => fyfz73 k (by omega)) (am_fpU (show ¬ (69 < 69 ∨ 92 ≤ 69) by omega) (am_fpU (show ¬ (79 < 69 ∨ 92 ≤ 79) by omega) (am_fpT (fun k (hk : k < 69 ∨ 92 ≤ k) => fyfz67 k (by omega)) (am_fpU (show ¬ (80 < 69 ∨ 92 ≤ 80) by omega) am_fp0)))))
              · exact fun z => hc60 z.1
              · exact (if_neg (fun z => z.elim hc60 (fun y => absurd y.1 (Int32.not_lt.mpr hc62)))).symm
            · refine aw_aload_n (npc := 292) rfl dX8_takesE_291 rfl ?_
              refine aw_get (npc := 295) dX8_takesE_292 rfl kf_X8_45 F1u.1 rfl ?_
              refine aw_iload_n (npc := 296) rfl dX8_takesE_295 rfl ?_
              refine aw_zald (npc := 297) (x := (a1u 80) p) (j := p) dX8_takesE_296 rfl F1u.2.2.2.2.2.2.2.2.2.2.2.1 (am_ix_nI (by omega)) (tl_at (by omega)) ?_
              refine aw_top (y := tq p) (mq1 p (by omega)) ?_
              refine aw_if_eq (npc := 300) (tgt := 304) dX8_takesE_297 rfl (by decide) (fun hc74 => ?_) (fun hc74 => ?_)
              · refine aw_iconst (npc := 305) (v := 0) (by decide) dX8_takesE_304 rfl ?_
                refine aw_zast (npc := 306) (j := p) dX8_takesE_305 rfl F1u.2.2.2.2.2.2.2.2.2.2.2.1 (am_ix_nI (by omega)) (by rw [tl_len]; omega) (show vp_nar .boolean 0 = 0 by decide) rfl ?_
                have F75 := mr_80 (j := p) (v := 0) F1u
                have hK3 : K.1 = 3 := sg_3 (y := a0 75 K.2.1) (by rw [hg]; exact hc59)
                have Hp76 : EX (K, cs, ws, at_, upd tq p 0) L o0 N a0 _ := ⟨_, _, F75, ⟨vk1, m19_1, m20_1, m22_1, (fun j hj => (congrFun (aup_n (by decide)) j).trans (mc1 j hj)), (fun j hj => (congrFun (aup_n (by decide)) j).trans (mw1 j hj)), (e_tst mq1)⟩, (fun k k1 k2 k3 k4 => ho1 k k1 k2 k3 k4), (fun k k1 k2 k3 => (aup_n k3).trans (ha1 k k1 k2 k3))⟩
                refine aw_aload_n (npc := 307) rfl dX8_takesE_306 rfl ?_
                refine aw_iload (npc := 309) rfl dX8_takesE_307 rfl ?_
                refine aw_callS (npc := 312) (N := mX8_rank) (mc := 0) (ms := 0) (A := [.int g]) (S := [.ref 69]) (L0 := [some (.int g)]) dX8_takesE_309 rfl km_X8_rank kk_X8_225 rfl ⟨rfl, by decide⟩ rfl (Nat.le_of_ble_eq_true rfl) (Nat.zero_add _) (Nat.zero_add _) rfl ?_
                refine m_rank ?_
                refine aw_re (S' := [.int (rkM g), .ref 69]) rfl ?_
                obtain ⟨o17u, a17u, F17u, ⟨vk17, m19_17, m20_17, m22_17, mc17, mw17, mq17⟩, ho17, ha17⟩ := id Hp76
                refine aw_callV (npc := 315) (N := mX8_settle) (b := 69) (mc := 0) (ms := 0) (A := [.int (rkM g)]) (S := []) (L0 := [some (.ref 69), some (.int (rkM g))]) dX8_takesE_312 rfl km_X8_settle kk_X8_237 F17u.1 ⟨by decide, rfl⟩ rfl ⟨rfl, by decide⟩ rfl (Nat.le_of_ble_eq_true rfl) (Nat.zero_add _) (Nat.zero_add _) rfl ?_
                refine m_settle (r := rkM g) ws cs _ Hp76 (by omega) (fun hp77 Hs78 fz79 => ?_)
                have fyfz79 : ∀ k, (k < 69 ∨ 92 ≤ k) → hp77 k = _ := fun k hk => fz79 k hk
                have hls := stl_len (r := rkM g) ws cs
                refine aw_aload_n (npc := 316) rfl dX8_takesE_315 rfl ?_
                obtain ⟨o18u, a18u, F18u, ⟨vk18, m19_18, m20_18, m22_18, mc18, mw18, mq18⟩, ho18, ha18⟩ := id Hs78
                refine aw_get (npc := 319) dX8_takesE_316 rfl kf_X8_42 F18u.1 rfl ?_
                refine aw_aload_n (npc := 320) rfl dX8_takesE_319 rfl ?_
                refine aw_get (npc := 323) dX8_takesE_320 rfl kf_X8_222 F18u.1 rfl ?_
                refine aw_top (y := nI ((stl (rkM g) cs ws).2).length) (m22_18) ?_
                refine aw_iload (npc := 325) rfl dX8_takesE_323 rfl ?_
                refine aw_iast (npc := 326) (j := (((stl (rkM g) cs ws).2).length)) dX8_takesE_325 rfl F18u.2.2.2.2.2.2.2.2.2.2.1 (am_ix_nI (by omega)) (by rw [tl_len]; omega) rfl ?_
                have F80 := mr_79 (j := (((stl (rkM g) cs ws).2).length)) (v := g) F18u
                refine aw_aload_n (npc := 327) rfl dX8_takesE_326 rfl ?_
                refine aw_dup (npc := 328) rfl dX8_takesE_327 rfl ?_
                refine aw_get (npc := 331) dX8_takesE_328 rfl kf_X8_222 F80.1 rfl ?_
                refine aw_top (y := nI ((stl (rkM g) cs ws).2).length) (m22_18) ?_
                refine aw_iconst (npc := 332) (v := 1) (by decide) dX8_takesE_331 rfl ?_
                refine aw_iaddV (npc := 333) (v := nI (((stl (rkM g) cs ws).2).length + 1)) dX8_takesE_332 rfl (nI_add _ 1) ?_
                refine aw_put (npc := 336) dX8_takesE_333 rfl kf_X8_222 F80.1 (Nat.le_of_ble_eq_true rfl) (am_ok_int _) rfl ?_
                have F81 := mr_o22 (v := nI (((stl (rkM g) cs ws).2).length + 1)) F80
                have Hp82 : EX (K, (stl (rkM g) cs ws).1, g :: (stl (rkM g) cs ws).2, at_, upd tq p 0) L o0 N a0 _ := ⟨_, _, F81, ⟨(vk_u (by decide) vk18), (((pk_un (by omega))).trans m19_18), (((pk_un (by omega))).trans m20_18), (pk_us), (fun j hj => (congrFun (aup_n (by decide)) j).trans (mc18 j hj)), (e_wait mw18), (fun j hj => (congrFun (aup_n (by decide)) j).trans (mq18 j hj))⟩, (fun k k1 k2 k3 k4 => (pk_un k4).trans (ho18 k k1 k2 k3 k4)), (fun k k1 k2 k3 => (aup_n k2).trans (ha18 k k1 k2 k3))⟩
                refine aw_iconst (npc := 337) (v := 1) (by decide) dX8_takesE_336 rfl ?_
                refine aw_istore_n (npc := 338) (L' := [some (.ref 69), some (.int (nI p)), some (.int (nI (nO ws))), some (.int 1), some (.int g)]) dX8_takesE_337 rfl (by decide) rfl rfl ?_
                refine aw_aload_n (npc := 339) rfl dX8_takesE_338 rfl ?_
                obtain ⟨o19u, a19u, F19u, ⟨vk19, m19_19, m20_19, m22_19, mc19, mw19, mq19⟩, ho19, ha19⟩ := id Hp82
                refine aw_callV (npc := 342) (N := mX8_go) (b := 69) (mc := 0) (ms := 0) (A := []) (S := []) (L0 := [some (.ref 69), none]) dX8_takesE_339 rfl km_X8_go kk_X8_219 F19u.1 ⟨by decide, rfl⟩ rfl ⟨rfl, by decide⟩ rfl (Nat.le_of_ble_eq_true rfl) (Nat.zero_add _) (Nat.zero_add _) rfl ?_
                refine m_goE Hp82 hL wk h9 (Or.inr (Or.inr hK3)) (fun hp83 Hg84 fz85 => ?_)
                have fyfz85 : ∀ k, (k < 69 ∨ 92 ≤ k) → hp83 k = _ := fun k hk => fz85 k hk
                refine aw_goto (npc := 28) dX8_takesE_342 (by decide) ?_
                refine ksg hK0 (fun z => hc58 z.2.1) hc59 ?_ 0 ?_ _ _ Hg84 (am_fpT (fun k (hk : k < 69 ∨ 92 ≤ k) => fyfz85 k (by omega)) (am_fpU (show ¬ (69 < 69 ∨ 92 ≤ 69) by omega) (am_fpU (show ¬ (79 < 69 ∨ 92 ≤ 79) by omega) (am_fpT (fun k (hk : k < 69 ∨ 92 ≤ k) => fyfz79 k (by omega)) (am_fpU (show ¬ (80 < 69 ∨ 92 ≤ 80) by omega) am_fp0)))))
                · exact fun z => hc60 z.1
                · exact (if_neg (fun z => z.elim hc60 (fun y => y.2 hc74))).symm
              · refine aw_iconst (npc := 301) (v := 1) (by decide) dX8_takesE_300 rfl ?_
                refine aw_goto (npc := 305) dX8_takesE_301 (by decide) ?_
                refine aw_zast (npc := 306) (j := p) dX8_takesE_305 rfl F1u.2.2.2.2.2.2.2.2.2.2.2.1 (am_ix_nI (by omega)) (by rw [tl_len]; omega) (show vp_nar .boolean 1 = 1 by decide) rfl ?_
                have F86 := mr_80 (j := p) (v := 1) F1u
                have hK3 : K.1 = 3 := sg_3 (y := a0 75 K.2.1) (by rw [hg]; exact hc59)
                have Hp87 : EX (K, cs, ws, at_, upd tq p 1) L o0 N a0 _ := ⟨_, _, F86, ⟨vk1, m19_1, m20_1, m22_1, (fun j hj => (congrFun (aup_n (by decide)) j).trans (mc1 j hj)), (fun j hj => (congrFun (aup_n (by decide)) j).trans (mw1 j hj)), (e_tst mq1)⟩, (fun k k1 k2 k3 k4 => ho1 k k1 k2 k3 k4), (fun k k1 k2 k3 => (aup_n k3).trans (ha1 k k1 k2 k3))⟩
                refine aw_aload_n (npc := 307) rfl dX8_takesE_306 rfl ?_
                refine aw_iload (npc := 309) rfl dX8_takesE_307 rfl ?_
                refine aw_callS (npc := 312) (N := mX8_rank) (mc := 0) (ms := 0) (A := [.int g]) (S := [.ref 69]) (L0 := [some (.int g)]) dX8_takesE_309 rfl km_X8_rank kk_X8_225 rfl ⟨rfl, by decide⟩ rfl (Nat.le_of_ble_eq_true rfl) (Nat.zero_add _) (Nat.zero_add _) rfl ?_
                refine m_rank ?_
                refine aw_re (S' := [.int (rkM g), .ref 69]) rfl ?_
                obtain ⟨o20u, a20u, F20u, ⟨vk20, m19_20, m20_20, m22_20, mc20, mw20, mq20⟩, ho20, ha20⟩ := id Hp87
                refine aw_callV (npc := 315) (N := mX8_settle) (b := 69) (mc := 0) (ms := 0) (A := [.int (rkM g)]) (S := []) (L0 := [some (.ref 69), some (.int (rkM g))]) dX8_takesE_312 rfl km_X8_settle kk_X8_237 F20u.1 ⟨by decide, rfl⟩ rfl ⟨rfl, by decide⟩ rfl (Nat.le_of_ble_eq_true rfl) (Nat.zero_add _) (Nat.zero_add _) rfl ?_
                refine m_settle (r := rkM g) ws cs _ Hp87 (by omega) (fun hp88 Hs89 fz90 => ?_)
                have fyfz90 : ∀ k, (k < 69 ∨ 92 ≤ k) → hp88 k = _ := fun k hk => fz90 k hk
                have hls := stl_len (r := rkM g) ws cs
                refine aw_aload_n (npc := 316) rfl dX8_takesE_315 rfl ?_
                obtain ⟨o21u, a21u, F21u, ⟨vk21, m19_21, m20_21, m22_21, mc21, mw21, mq21⟩, ho21, ha21⟩ := id Hs89
                refine aw_get (npc := 319) dX8_takesE_316 rfl kf_X8_42 F21u.1 rfl ?_
                refine aw_aload_n (npc := 320) rfl dX8_takesE_319 rfl ?_
                refine aw_get (npc := 323) dX8_takesE_320 rfl kf_X8_222 F21u.1 rfl ?_
                refine aw_top (y := nI ((stl (rkM g) cs ws).2).length) (m22_21) ?_
                refine aw_iload (npc := 325) rfl dX8_takesE_323 rfl ?_
                refine aw_iast (npc := 326) (j := (((stl (rkM g) cs ws).2).length)) dX8_takesE_325 rfl F21u.2.2.2.2.2.2.2.2.2.2.1 (am_ix_nI (by omega)) (by rw [tl_len]; omega) rfl ?_
                have F91 := mr_79 (j := (((stl (rkM g) cs ws).2).length)) (v := g) F21u
                refine aw_aload_n (npc := 327) rfl dX8_takesE_326 rfl ?_
                refine aw_dup (npc := 328) rfl dX8_takesE_327 rfl ?_
                refine aw_get (npc := 331) dX8_takesE_328 rfl kf_X8_222 F91.1 rfl ?_
                refine aw_top (y := nI ((stl (rkM g) cs ws).2).length) (m22_21) ?_
                refine aw_iconst (npc := 332) (v := 1) (by decide) dX8_takesE_331 rfl ?_
                refine aw_iaddV (npc := 333) (v := nI (((stl (rkM g) cs ws).2).length + 1)) dX8_takesE_332 rfl (nI_add _ 1) ?_
                refine aw_put (npc := 336) dX8_takesE_333 rfl kf_X8_222 F91.1 (Nat.le_of_ble_eq_true rfl) (am_ok_int _) rfl ?_
                have F92 := mr_o22 (v := nI (((stl (rkM g) cs ws).2).length + 1)) F91
                have Hp93 : EX (K, (stl (rkM g) cs ws).1, g :: (stl (rkM g) cs ws).2, at_, upd tq p 1) L o0 N a0 _ := ⟨_, _, F92, ⟨(vk_u (by decide) vk21), (((pk_un (by omega))).trans m19_21), (((pk_un (by omega))).trans m20_21), (pk_us), (fun j hj => (congrFun (aup_n (by decide)) j).trans (mc21 j hj)), (e_wait mw21), (fun j hj => (congrFun (aup_n (by decide)) j).trans (mq21 j hj))⟩, (fun k k1 k2 k3 k4 => (pk_un k4).trans (ho21 k k1 k2 k3 k4)), (fun k k1 k2 k3 => (aup_n k2).trans (ha21 k k1 k2 k3))⟩
                refine aw_iconst (npc := 337) (v := 1) (by decide) dX8_takesE_336 rfl ?_
                refine aw_istore_n (npc := 338) (L' := [some (.ref 69), some (.int (nI p)), some (.int (nI (nO ws))), some (.int 1), some (.int g)]) dX8_takesE_337 rfl (by decide) rfl rfl ?_
                refine aw_aload_n (npc := 339) rfl dX8_takesE_338 rfl ?_
                obtain ⟨o22u, a22u, F22u, ⟨vk22, m19_22, m20_22, m22_22, mc22, mw22, mq22⟩, ho22, ha22⟩ := id Hp93
                refine aw_callV (npc := 342) (N := mX8_go) (b := 69) (mc := 0) (ms := 0) (A := []) (S := []) (L0 := [some (.ref 69), none]) dX8_takesE_339 rfl km_X8_go kk_X8_219 F22u.1 ⟨by decide, rfl⟩ rfl ⟨rfl, by decide⟩ rfl (Nat.le_of_ble_eq_true rfl) (Nat.zero_add _) (Nat.zero_add _) rfl ?_
                refine m_goE Hp93 hL wk h9 (Or.inr (Or.inr hK3)) (fun hp94 Hg95 fz96 => ?_)
                have fyfz96 : ∀ k, (k < 69 ∨ 92 ≤ k) → hp94 k = _ := fun k hk => fz96 k hk
                refine aw_goto (npc := 28) dX8_takesE_342 (by decide) ?_
                refine ksg hK0 (fun z => hc58 z.2.1) hc59 ?_ 1 ?_ _ _ Hg95 (am_fpT (fun k (hk : k < 69 ∨ 92 ≤ k) => fyfz96 k (by omega)) (am_fpU (show ¬ (69 < 69 ∨ 92 ≤ 69) by omega) (am_fpU (show ¬ (79 < 69 ∨ 92 ≤ 79) by omega) (am_fpT (fun k (hk : k < 69 ∨ 92 ≤ k) => fyfz90 k (by omega)) (am_fpU (show ¬ (80 < 69 ∨ 92 ≤ 80) by omega) am_fp0)))))
                · exact fun z => hc60 z.1
                · exact (if_pos (Or.inr ⟨Int32.not_le.mp hc62, hc74⟩)).symm
          · refine aw_aload_n (npc := 258) rfl dX8_takesE_257 rfl ?_
            refine aw_get (npc := 261) dX8_takesE_258 rfl kf_X8_45 F1u.1 rfl ?_
            refine aw_iload_n (npc := 262) rfl dX8_takesE_261 rfl ?_
            refine aw_zald (npc := 263) (x := (a1u 80) p) (j := p) dX8_takesE_262 rfl F1u.2.2.2.2.2.2.2.2.2.2.2.1 (am_ix_nI (by omega)) (tl_at (by omega)) ?_
            refine aw_top (y := tq p) (mq1 p (by omega)) ?_
            refine aw_if_eq (npc := 266) (tgt := 268) dX8_takesE_263 rfl (by decide) (fun hc97 => ?_) (fun hc97 => ?_)
            · refine aw_aload_n (npc := 269) rfl dX8_takesE_268 rfl ?_
              refine aw_get (npc := 272) dX8_takesE_269 rfl kf_X8_45 F1u.1 rfl ?_
              refine aw_iload_n (npc := 273) rfl dX8_takesE_272 rfl ?_
              refine aw_iload (npc := 275) rfl dX8_takesE_273 rfl ?_
              refine aw_callS (npc := 278) (N := mX8_rank) (mc := 0) (ms := 0) (A := [.int g]) (S := [.int (nI p), .ref 80]) (L0 := [some (.int g)]) dX8_takesE_275 rfl km_X8_rank kk_X8_225 rfl ⟨rfl, by decide⟩ rfl (Nat.le_of_ble_eq_true rfl) (Nat.zero_add _) (Nat.zero_add _) rfl ?_
              refine m_rank ?_
              refine aw_re (S' := [.int (rkM g), .int (nI p), .ref 80]) rfl ?_
              refine aw_iconst (npc := 279) (v := 3) (by decide) dX8_takesE_278 rfl ?_
              refine aw_icmp_eq (npc := 282) (tgt := 300) dX8_takesE_279 rfl (by decide) (fun _ => ?_) (fun hc => absurd (hc60) hc)
              refine aw_iconst (npc := 301) (v := 1) (by decide) dX8_takesE_300 rfl ?_
              refine aw_goto (npc := 305) dX8_takesE_301 (by decide) ?_
              refine aw_zast (npc := 306) (j := p) dX8_takesE_305 rfl F1u.2.2.2.2.2.2.2.2.2.2.2.1 (am_ix_nI (by omega)) (by rw [tl_len]; omega) (show vp_nar .boolean 1 = 1 by decide) rfl ?_
              have F99 := mr_80 (j := p) (v := 1) F1u
              have hK3 : K.1 = 3 := sg_3 (y := a0 75 K.2.1) (by rw [hg]; exact hc59)
              have Hp100 : EX (K, cs, ws, at_, upd tq p 1) L o0 N a0 _ := ⟨_, _, F99, ⟨vk1, m19_1, m20_1, m22_1, (fun j hj => (congrFun (aup_n (by decide)) j).trans (mc1 j hj)), (fun j hj => (congrFun (aup_n (by decide)) j).trans (mw1 j hj)), (e_tst mq1)⟩, (fun k k1 k2 k3 k4 => ho1 k k1 k2 k3 k4), (fun k k1 k2 k3 => (aup_n k3).trans (ha1 k k1 k2 k3))⟩
              refine aw_aload_n (npc := 307) rfl dX8_takesE_306 rfl ?_
              refine aw_iload (npc := 309) rfl dX8_takesE_307 rfl ?_
              refine aw_callS (npc := 312) (N := mX8_rank) (mc := 0) (ms := 0) (A := [.int g]) (S := [.ref 69]) (L0 := [some (.int g)]) dX8_takesE_309 rfl km_X8_rank kk_X8_225 rfl ⟨rfl, by decide⟩ rfl (Nat.le_of_ble_eq_true rfl) (Nat.zero_add _) (Nat.zero_add _) rfl ?_
              refine m_rank ?_
              refine aw_re (S' := [.int (rkM g), .ref 69]) rfl ?_
              obtain ⟨o23u, a23u, F23u, ⟨vk23, m19_23, m20_23, m22_23, mc23, mw23, mq23⟩, ho23, ha23⟩ := id Hp100
              refine aw_callV (npc := 315) (N := mX8_settle) (b := 69) (mc := 0) (ms := 0) (A := [.int (rkM g)]) (S := []) (L0 := [some (.ref 69), some (.int (rkM g))]) dX8_takesE_312 rfl km_X8_settle kk_X8_237 F23u.1 ⟨by decide, rfl⟩ rfl ⟨rfl, by decide⟩ rfl (Nat.le_of_ble_eq_true rfl) (Nat.zero_add _) (Nat.zero_add _) rfl ?_
              refine m_settle (r := rkM g) ws cs _ Hp100 (by omega) (fun hp101 Hs102 fz103 => ?_)
              have fyfz103 : ∀ k, (k < 69 ∨ 92 ≤ k) → hp101 k = _ := fun k hk => fz103 k hk
              have hls := stl_len (r := rkM g) ws cs
              refine aw_aload_n (npc := 316) rfl dX8_takesE_315 rfl ?_
              obtain ⟨o24u, a24u, F24u, ⟨vk24, m19_24, m20_24, m22_24, mc24, mw24, mq24⟩, ho24, ha24⟩ := id Hs102
              refine aw_get (npc := 319) dX8_takesE_316 rfl kf_X8_42 F24u.1 rfl ?_
              refine aw_aload_n (npc := 320) rfl dX8_takesE_319 rfl ?_
              refine aw_get (npc := 323) dX8_takesE_320 rfl kf_X8_222 F24u.1 rfl ?_
              refine aw_top (y := nI ((stl (rkM g) cs ws).2).length) (m22_24) ?_
              refine aw_iload (npc := 325) rfl dX8_takesE_323 rfl ?_
              refine aw_iast (npc := 326) (j := (((stl (rkM g) cs ws).2).length)) dX8_takesE_325 rfl F24u.2.2.2.2.2.2.2.2.2.2.1 (am_ix_nI (by omega)) (by rw [tl_len]; omega) rfl ?_
              have F104 := mr_79 (j := (((stl (rkM g) cs ws).2).length)) (v := g) F24u
              refine aw_aload_n (npc := 327) rfl dX8_takesE_326 rfl ?_
              refine aw_dup (npc := 328) rfl dX8_takesE_327 rfl ?_
              refine aw_get (npc := 331) dX8_takesE_328 rfl kf_X8_222 F104.1 rfl ?_
              refine aw_top (y := nI ((stl (rkM g) cs ws).2).length) (m22_24) ?_
              refine aw_iconst (npc := 332) (v := 1) (by decide) dX8_takesE_331 rfl ?_
              refine aw_iaddV (npc := 333) (v := nI (((stl (rkM g) cs ws).2).length + 1)) dX8_takesE_332 rfl (nI_add _ 1) ?_
              refine aw_put (npc := 336) dX8_takesE_333 rfl kf_X8_222 F104.1 (Nat.le_of_ble_eq_true rfl) (am_ok_int _) rfl ?_
              have F105 := mr_o22 (v := nI (((stl (rkM g) cs ws).2).length + 1)) F104
              have Hp106 : EX (K, (stl (rkM g) cs ws).1, g :: (stl (rkM g) cs ws).2, at_, upd tq p 1) L o0 N a0 _ := ⟨_, _, F105, ⟨(vk_u (by decide) vk24), (((pk_un (by omega))).trans m19_24), (((pk_un (by omega))).trans m20_24), (pk_us), (fun j hj => (congrFun (aup_n (by decide)) j).trans (mc24 j hj)), (e_wait mw24), (fun j hj => (congrFun (aup_n (by decide)) j).trans (mq24 j hj))⟩, (fun k k1 k2 k3 k4 => (pk_un k4).trans (ho24 k k1 k2 k3 k4)), (fun k k1 k2 k3 => (aup_n k2).trans (ha24 k k1 k2 k3))⟩
              refine aw_iconst (npc := 337) (v := 1) (by decide) dX8_takesE_336 rfl ?_
              refine aw_istore_n (npc := 338) (L' := [some (.ref 69), some (.int (nI p)), some (.int (nI (nO ws))), some (.int 1), some (.int g)]) dX8_takesE_337 rfl (by decide) rfl rfl ?_
              refine aw_aload_n (npc := 339) rfl dX8_takesE_338 rfl ?_
              obtain ⟨o25u, a25u, F25u, ⟨vk25, m19_25, m20_25, m22_25, mc25, mw25, mq25⟩, ho25, ha25⟩ := id Hp106
              refine aw_callV (npc := 342) (N := mX8_go) (b := 69) (mc := 0) (ms := 0) (A := []) (S := []) (L0 := [some (.ref 69), none]) dX8_takesE_339 rfl km_X8_go kk_X8_219 F25u.1 ⟨by decide, rfl⟩ rfl ⟨rfl, by decide⟩ rfl (Nat.le_of_ble_eq_true rfl) (Nat.zero_add _) (Nat.zero_add _) rfl ?_
              refine m_goE Hp106 hL wk h9 (Or.inr (Or.inr hK3)) (fun hp107 Hg108 fz109 => ?_)
              have fyfz109 : ∀ k, (k < 69 ∨ 92 ≤ k) → hp107 k = _ := fun k hk => fz109 k hk
              refine aw_goto (npc := 28) dX8_takesE_342 (by decide) ?_
              refine ksg hK0 (fun z => hc58 z.2.1) hc59 ?_ 1 ?_ _ _ Hg108 (am_fpT (fun k (hk : k < 69 ∨ 92 ≤ k) => fyfz109 k (by omega)) (am_fpU (show ¬ (69 < 69 ∨ 92 ≤ 69) by omega) (am_fpU (show ¬ (79 < 69 ∨ 92 ≤ 79) by omega) (am_fpT (fun k (hk : k < 69 ∨ 92 ≤ k) => fyfz103 k (by omega)) (am_fpU (show ¬ (80 < 69 ∨ 92 ≤ 80) by omega) am_fp0)))))
              · exact fun z => z.2 hc97
              · exact (if_pos (Or.inl hc60)).symm
            · refine aw_iconst (npc := 267) (v := 0) (by decide) dX8_takesE_266 rfl ?_
              refine aw_zret rfl rfl dX8_takesE_267 ?_
              exact kno hK0 (fun z => hc58 z.2.1) (Or.inr ⟨hc60, hc97⟩)
      · refine aw_iload_n (npc := 198) rfl dX8_takesE_197 rfl ?_
        refine aw_if_le (npc := 201) (tgt := 237) dX8_takesE_198 rfl (by decide) (fun hc110 => ?_) (fun hc110 => ?_)
        · have hc110N := (nI_leI (a := p) (b := 0) (by omega) (by omega)).mp hc110
          refine aw_aload_n (npc := 238) rfl dX8_takesE_237 rfl ?_
          refine aw_callV (npc := 241) (N := mX8_signHere) (b := 69) (mc := 0) (ms := 0) (A := []) (S := []) (L0 := [some (.ref 69)]) dX8_takesE_238 rfl km_X8_signHere kk_X8_246 F1u.1 ⟨by decide, rfl⟩ rfl ⟨rfl, by decide⟩ rfl (Nat.le_of_ble_eq_true rfl) (Nat.zero_add _) (Nat.zero_add _) rfl ?_
          refine m_sign (L := L) (t := mtk K.1) F1u hmt vk1.2.2.1 rfl ?_
          refine aw_re (S' := [.int (sgV (mtk K.1) (o1u 13))]) rfl ?_
          refine aw_top (y := g) ((sg_c vk1 wk).trans hg) ?_
          refine aw_istore (npc := 243) (L' := [some (.ref 69), some (.int (nI p)), some (.int (nI (nO ws))), some (.int 0), some (.int g)]) dX8_takesE_241 rfl (by decide) rfl rfl ?_
          refine aw_iload (npc := 245) rfl dX8_takesE_243 rfl ?_
          refine aw_if_eq (npc := 248) (tgt := 266) dX8_takesE_245 rfl (by decide) (fun hc111 => ?_) (fun hc111 => ?_)
          · refine aw_iconst (npc := 267) (v := 0) (by decide) dX8_takesE_266 rfl ?_
            refine aw_zret rfl rfl dX8_takesE_267 ?_
            exact kno hK0 (fun z => absurd ((nI_leI (a := p) (b := 0) (by omega) (by omega)).mp hc110) (by have y := z.2.2; omega)) (Or.inl hc111)
          · refine aw_iload (npc := 250) rfl dX8_takesE_248 rfl ?_
            refine aw_callS (npc := 253) (N := mX8_rank) (mc := 0) (ms := 0) (A := [.int g]) (S := []) (L0 := [some (.int g)]) dX8_takesE_250 rfl km_X8_rank kk_X8_225 rfl ⟨rfl, by decide⟩ rfl (Nat.le_of_ble_eq_true rfl) (Nat.zero_add _) (Nat.zero_add _) rfl ?_
            refine m_rank ?_
            refine aw_re (S' := [.int (rkM g)]) rfl ?_
            refine aw_iconst (npc := 254) (v := 3) (by decide) dX8_takesE_253 rfl ?_
            refine aw_icmp_ne (npc := 257) (tgt := 268) dX8_takesE_254 rfl (by decide) (fun hc112 => ?_) (fun hc112 => ?_)
            · refine aw_aload_n (npc := 269) rfl dX8_takesE_268 rfl ?_
              refine aw_get (npc := 272) dX8_takesE_269 rfl kf_X8_45 F1u.1 rfl ?_
              refine aw_iload_n (npc := 273) rfl dX8_takesE_272 rfl ?_
              refine aw_iload (npc := 275) rfl dX8_takesE_273 rfl ?_
              refine aw_callS (npc := 278) (N := mX8_rank) (mc := 0) (ms := 0) (A := [.int g]) (S := [.int (nI p), .ref 80]) (L0 := [some (.int g)]) dX8_takesE_275 rfl km_X8_rank kk_X8_225 rfl ⟨rfl, by decide⟩ rfl (Nat.le_of_ble_eq_true rfl) (Nat.zero_add _) (Nat.zero_add _) rfl ?_
              refine m_rank ?_
              refine aw_re (S' := [.int (rkM g), .int (nI p), .ref 80]) rfl ?_
              refine aw_iconst (npc := 279) (v := 3) (by decide) dX8_takesE_278 rfl ?_
              refine aw_icmp_eq (npc := 282) (tgt := 300) dX8_takesE_279 rfl (by decide) (fun hc => absurd hc (hc112)) (fun _ => ?_)
              refine aw_iload (npc := 284) rfl dX8_takesE_282 rfl ?_
              refine aw_callS (npc := 287) (N := mX8_rank) (mc := 0) (ms := 0) (A := [.int g]) (S := [.int (nI p), .ref 80]) (L0 := [some (.int g)]) dX8_takesE_284 rfl km_X8_rank kk_X8_225 rfl ⟨rfl, by decide⟩ rfl (Nat.le_of_ble_eq_true rfl) (Nat.zero_add _) (Nat.zero_add _) rfl ?_
              refine m_rank ?_
              refine aw_re (S' := [.int (rkM g), .int (nI p), .ref 80]) rfl ?_
              refine aw_iconst (npc := 288) (v := 3) (by decide) dX8_takesE_287 rfl ?_
              refine aw_icmp_le (npc := 291) (tgt := 304) dX8_takesE_288 rfl (by decide) (fun hc114 => ?_) (fun hc114 => ?_)
              · refine aw_iconst (npc := 305) (v := 0) (by decide) dX8_takesE_304 rfl ?_
                refine aw_zast (npc := 306) (j := p) dX8_takesE_305 rfl F1u.2.2.2.2.2.2.2.2.2.2.2.1 (am_ix_nI (by omega)) (by rw [tl_len]; omega) (show vp_nar .boolean 0 = 0 by decide) rfl ?_
                have F115 := mr_80 (j := p) (v := 0) F1u
                have hK3 : K.1 = 3 := sg_3 (y := a0 75 K.2.1) (by rw [hg]; exact hc111)
                have Hp116 : EX (K, cs, ws, at_, upd tq p 0) L o0 N a0 _ := ⟨_, _, F115, ⟨vk1, m19_1, m20_1, m22_1, (fun j hj => (congrFun (aup_n (by decide)) j).trans (mc1 j hj)), (fun j hj => (congrFun (aup_n (by decide)) j).trans (mw1 j hj)), (e_tst mq1)⟩, (fun k k1 k2 k3 k4 => ho1 k k1 k2 k3 k4), (fun k k1 k2 k3 => (aup_n k3).trans (ha1 k k1 k2 k3))⟩
                refine aw_aload_n (npc := 307) rfl dX8_takesE_306 rfl ?_
                refine aw_iload (npc := 309) rfl dX8_takesE_307 rfl ?_
                refine aw_callS (npc := 312) (N := mX8_rank) (mc := 0) (ms := 0) (A := [.int g]) (S := [.ref 69]) (L0 := [some (.int g)]) dX8_takesE_309 rfl km_X8_rank kk_X8_225 rfl ⟨rfl, by decide⟩ rfl (Nat.le_of_ble_eq_true rfl) (Nat.zero_add _) (Nat.zero_add _) rfl ?_
                refine m_rank ?_
                refine aw_re (S' := [.int (rkM g), .ref 69]) rfl ?_
                obtain ⟨o26u, a26u, F26u, ⟨vk26, m19_26, m20_26, m22_26, mc26, mw26, mq26⟩, ho26, ha26⟩ := id Hp116
                refine aw_callV (npc := 315) (N := mX8_settle) (b := 69) (mc := 0) (ms := 0) (A := [.int (rkM g)]) (S := []) (L0 := [some (.ref 69), some (.int (rkM g))]) dX8_takesE_312 rfl km_X8_settle kk_X8_237 F26u.1 ⟨by decide, rfl⟩ rfl ⟨rfl, by decide⟩ rfl (Nat.le_of_ble_eq_true rfl) (Nat.zero_add _) (Nat.zero_add _) rfl ?_
                refine m_settle (r := rkM g) ws cs _ Hp116 (by omega) (fun hp117 Hs118 fz119 => ?_)
                have fyfz119 : ∀ k, (k < 69 ∨ 92 ≤ k) → hp117 k = _ := fun k hk => fz119 k hk
                have hls := stl_len (r := rkM g) ws cs
                refine aw_aload_n (npc := 316) rfl dX8_takesE_315 rfl ?_
                obtain ⟨o27u, a27u, F27u, ⟨vk27, m19_27, m20_27, m22_27, mc27, mw27, mq27⟩, ho27, ha27⟩ := id Hs118
                refine aw_get (npc := 319) dX8_takesE_316 rfl kf_X8_42 F27u.1 rfl ?_
                refine aw_aload_n (npc := 320) rfl dX8_takesE_319 rfl ?_
                refine aw_get (npc := 323) dX8_takesE_320 rfl kf_X8_222 F27u.1 rfl ?_
                refine aw_top (y := nI ((stl (rkM g) cs ws).2).length) (m22_27) ?_
                refine aw_iload (npc := 325) rfl dX8_takesE_323 rfl ?_
                refine aw_iast (npc := 326) (j := (((stl (rkM g) cs ws).2).length)) dX8_takesE_325 rfl F27u.2.2.2.2.2.2.2.2.2.2.1 (am_ix_nI (by omega)) (by rw [tl_len]; omega) rfl ?_
                have F120 := mr_79 (j := (((stl (rkM g) cs ws).2).length)) (v := g) F27u
                refine aw_aload_n (npc := 327) rfl dX8_takesE_326 rfl ?_
                refine aw_dup (npc := 328) rfl dX8_takesE_327 rfl ?_
                refine aw_get (npc := 331) dX8_takesE_328 rfl kf_X8_222 F120.1 rfl ?_
                refine aw_top (y := nI ((stl (rkM g) cs ws).2).length) (m22_27) ?_
                refine aw_iconst (npc := 332) (v := 1) (by decide) dX8_takesE_331 rfl ?_
                refine aw_iaddV (npc := 333) (v := nI (((stl (rkM g) cs ws).2).length + 1)) dX8_takesE_332 rfl (nI_add _ 1) ?_
                refine aw_put (npc := 336) dX8_takesE_333 rfl kf_X8_222 F120.1 (Nat.le_of_ble_eq_true rfl) (am_ok_int _) rfl ?_
                have F121 := mr_o22 (v := nI (((stl (rkM g) cs ws).2).length + 1)) F120
                have Hp122 : EX (K, (stl (rkM g) cs ws).1, g :: (stl (rkM g) cs ws).2, at_, upd tq p 0) L o0 N a0 _ := ⟨_, _, F121, ⟨(vk_u (by decide) vk27), (((pk_un (by omega))).trans m19_27), (((pk_un (by omega))).trans m20_27), (pk_us), (fun j hj => (congrFun (aup_n (by decide)) j).trans (mc27 j hj)), (e_wait mw27), (fun j hj => (congrFun (aup_n (by decide)) j).trans (mq27 j hj))⟩, (fun k k1 k2 k3 k4 => (pk_un k4).trans (ho27 k k1 k2 k3 k4)), (fun k k1 k2 k3 => (aup_n k2).trans (ha27 k k1 k2 k3))⟩
                refine aw_iconst (npc := 337) (v := 1) (by decide) dX8_takesE_336 rfl ?_
                refine aw_istore_n (npc := 338) (L' := [some (.ref 69), some (.int (nI p)), some (.int (nI (nO ws))), some (.int 1), some (.int g)]) dX8_takesE_337 rfl (by decide) rfl rfl ?_
                refine aw_aload_n (npc := 339) rfl dX8_takesE_338 rfl ?_
                obtain ⟨o28u, a28u, F28u, ⟨vk28, m19_28, m20_28, m22_28, mc28, mw28, mq28⟩, ho28, ha28⟩ := id Hp122
                refine aw_callV (npc := 342) (N := mX8_go) (b := 69) (mc := 0) (ms := 0) (A := []) (S := []) (L0 := [some (.ref 69), none]) dX8_takesE_339 rfl km_X8_go kk_X8_219 F28u.1 ⟨by decide, rfl⟩ rfl ⟨rfl, by decide⟩ rfl (Nat.le_of_ble_eq_true rfl) (Nat.zero_add _) (Nat.zero_add _) rfl ?_
                refine m_goE Hp122 hL wk h9 (Or.inr (Or.inr hK3)) (fun hp123 Hg124 fz125 => ?_)
                have fyfz125 : ∀ k, (k < 69 ∨ 92 ≤ k) → hp123 k = _ := fun k hk => fz125 k hk
                refine aw_goto (npc := 28) dX8_takesE_342 (by decide) ?_
                refine ksg hK0 (fun z => absurd ((nI_leI (a := p) (b := 0) (by omega) (by omega)).mp hc110) (by have y := z.2.2; omega)) hc111 ?_ 0 ?_ _ _ Hg124 (am_fpT (fun k (hk : k < 69 ∨ 92 ≤ k) => fyfz125 k (by omega)) (am_fpU (show ¬ (69 < 69 ∨ 92 ≤ 69) by omega) (am_fpU (show ¬ (79 < 69 ∨ 92 ≤ 79) by omega) (am_fpT (fun k (hk : k < 69 ∨ 92 ≤ k) => fyfz119 k (by omega)) (am_fpU (show ¬ (80 < 69 ∨ 92 ≤ 80) by omega) am_fp0)))))
                · exact fun z => hc112 z.1
                · exact (if_neg (fun z => z.elim hc112 (fun y => absurd y.1 (Int32.not_lt.mpr hc114)))).symm
              · refine aw_aload_n (npc := 292) rfl dX8_takesE_291 rfl ?_
                refine aw_get (npc := 295) dX8_takesE_292 rfl kf_X8_45 F1u.1 rfl ?_
                refine aw_iload_n (npc := 296) rfl dX8_takesE_295 rfl ?_
                refine aw_zald (npc := 297) (x := (a1u 80) p) (j := p) dX8_takesE_296 rfl F1u.2.2.2.2.2.2.2.2.2.2.2.1 (am_ix_nI (by omega)) (tl_at (by omega)) ?_
                refine aw_top (y := tq p) (mq1 p (by omega)) ?_
                refine aw_if_eq (npc := 300) (tgt := 304) dX8_takesE_297 rfl (by decide) (fun hc126 => ?_) (fun hc126 => ?_)
                · refine aw_iconst (npc := 305) (v := 0) (by decide) dX8_takesE_304 rfl ?_
                  refine aw_zast (npc := 306) (j := p) dX8_takesE_305 rfl F1u.2.2.2.2.2.2.2.2.2.2.2.1 (am_ix_nI (by omega)) (by rw [tl_len]; omega) (show vp_nar .boolean 0 = 0 by decide) rfl ?_
                  have F127 := mr_80 (j := p) (v := 0) F1u
                  have hK3 : K.1 = 3 := sg_3 (y := a0 75 K.2.1) (by rw [hg]; exact hc111)
                  have Hp128 : EX (K, cs, ws, at_, upd tq p 0) L o0 N a0 _ := ⟨_, _, F127, ⟨vk1, m19_1, m20_1, m22_1, (fun j hj => (congrFun (aup_n (by decide)) j).trans (mc1 j hj)), (fun j hj => (congrFun (aup_n (by decide)) j).trans (mw1 j hj)), (e_tst mq1)⟩, (fun k k1 k2 k3 k4 => ho1 k k1 k2 k3 k4), (fun k k1 k2 k3 => (aup_n k3).trans (ha1 k k1 k2 k3))⟩
                  refine aw_aload_n (npc := 307) rfl dX8_takesE_306 rfl ?_
                  refine aw_iload (npc := 309) rfl dX8_takesE_307 rfl ?_
                  refine aw_callS (npc := 312) (N := mX8_rank) (mc := 0) (ms := 0) (A := [.int g]) (S := [.ref 69]) (L0 := [some (.int g)]) dX8_takesE_309 rfl km_X8_rank kk_X8_225 rfl ⟨rfl, by decide⟩ rfl (Nat.le_of_ble_eq_true rfl) (Nat.zero_add _) (Nat.zero_add _) rfl ?_
                  refine m_rank ?_
                  refine aw_re (S' := [.int (rkM g), .ref 69]) rfl ?_
                  obtain ⟨o29u, a29u, F29u, ⟨vk29, m19_29, m20_29, m22_29, mc29, mw29, mq29⟩, ho29, ha29⟩ := id Hp128
                  refine aw_callV (npc := 315) (N := mX8_settle) (b := 69) (mc := 0) (ms := 0) (A := [.int (rkM g)]) (S := []) (L0 := [some (.ref 69), some (.int (rkM g))]) dX8_takesE_312 rfl km_X8_settle kk_X8_237 F29u.1 ⟨by decide, rfl⟩ rfl ⟨rfl, by decide⟩ rfl (Nat.le_of_ble_eq_true rfl) (Nat.zero_add _) (Nat.zero_add _) rfl ?_
                  refine m_settle (r := rkM g) ws cs _ Hp128 (by omega) (fun hp129 Hs130 fz131 => ?_)
                  have fyfz131 : ∀ k, (k < 69 ∨ 92 ≤ k) → hp129 k = _ := fun k hk => fz131 k hk
                  have hls := stl_len (r := rkM g) ws cs
                  refine aw_aload_n (npc := 316) rfl dX8_takesE_315 rfl ?_
                  obtain ⟨o30u, a30u, F30u, ⟨vk30, m19_30, m20_30, m22_30, mc30, mw30, mq30⟩, ho30, ha30⟩ := id Hs130
                  refine aw_get (npc := 319) dX8_takesE_316 rfl kf_X8_42 F30u.1 rfl ?_
                  refine aw_aload_n (npc := 320) rfl dX8_takesE_319 rfl ?_
                  refine aw_get (npc := 323) dX8_takesE_320 rfl kf_X8_222 F30u.1 rfl ?_
                  refine aw_top (y := nI ((stl (rkM g) cs ws).2).length) (m22_30) ?_
                  refine aw_iload (npc := 325) rfl dX8_takesE_323 rfl ?_
                  refine aw_iast (npc := 326) (j := (((stl (rkM g) cs ws).2).length)) dX8_takesE_325 rfl F30u.2.2.2.2.2.2.2.2.2.2.1 (am_ix_nI (by omega)) (by rw [tl_len]; omega) rfl ?_
                  have F132 := mr_79 (j := (((stl (rkM g) cs ws).2).length)) (v := g) F30u
                  refine aw_aload_n (npc := 327) rfl dX8_takesE_326 rfl ?_
                  refine aw_dup (npc := 328) rfl dX8_takesE_327 rfl ?_
                  refine aw_get (npc := 331) dX8_takesE_328 rfl kf_X8_222 F132.1 rfl ?_
                  refine aw_top (y := nI ((stl (rkM g) cs ws).2).length) (m22_30) ?_
                  refine aw_iconst (npc := 332) (v := 1) (by decide) dX8_takesE_331 rfl ?_
                  refine aw_iaddV (npc := 333) (v := nI (((stl (rkM g) cs ws).2).length + 1)) dX8_takesE_332 rfl (nI_add _ 1) ?_
                  refine aw_put (npc := 336) dX8_takesE_333 rfl kf_X8_222 F132.1 (Nat.le_of_ble_eq_true rfl) (am_ok_int _) rfl ?_
                  have F133 := mr_o22 (v := nI (((stl (rkM g) cs ws).2).length + 1)) F132
                  have Hp134 : EX (K, (stl (rkM g) cs ws).1, g :: (stl (rkM g) cs ws).2, at_, upd tq p 0) L o0 N a0 _ := ⟨_, _, F133, ⟨(vk_u (by decide) vk30), (((pk_un (by omega))).trans m19_30), (((pk_un (by omega))).trans m20_30), (pk_us), (fun j hj => (congrFun (aup_n (by decide)) j).trans (mc30 j hj)), (e_wait mw30), (fun j hj => (congrFun (aup_n (by decide)) j).trans (mq30 j hj))⟩, (fun k k1 k2 k3 k4 => (pk_un k4).trans (ho30 k k1 k2 k3 k4)), (fun k k1 k2 k3 => (aup_n k2).trans (ha30 k k1 k2 k3))⟩
                  refine aw_iconst (npc := 337) (v := 1) (by decide) dX8_takesE_336 rfl ?_
                  refine aw_istore_n (npc := 338) (L' := [some (.ref 69), some (.int (nI p)), some (.int (nI (nO ws))), some (.int 1), some (.int g)]) dX8_takesE_337 rfl (by decide) rfl rfl ?_
                  refine aw_aload_n (npc := 339) rfl dX8_takesE_338 rfl ?_
                  obtain ⟨o31u, a31u, F31u, ⟨vk31, m19_31, m20_31, m22_31, mc31, mw31, mq31⟩, ho31, ha31⟩ := id Hp134
                  refine aw_callV (npc := 342) (N := mX8_go) (b := 69) (mc := 0) (ms := 0) (A := []) (S := []) (L0 := [some (.ref 69), none]) dX8_takesE_339 rfl km_X8_go kk_X8_219 F31u.1 ⟨by decide, rfl⟩ rfl ⟨rfl, by decide⟩ rfl (Nat.le_of_ble_eq_true rfl) (Nat.zero_add _) (Nat.zero_add _) rfl ?_
                  refine m_goE Hp134 hL wk h9 (Or.inr (Or.inr hK3)) (fun hp135 Hg136 fz137 => ?_)
                  have fyfz137 : ∀ k, (k < 69 ∨ 92 ≤ k) → hp135 k = _ := fun k hk => fz137 k hk
                  refine aw_goto (npc := 28) dX8_takesE_342 (by decide) ?_
                  refine ksg hK0 (fun z => absurd ((nI_leI (a := p) (b := 0) (by omega) (by omega)).mp hc110) (by have y := z.2.2; omega)) hc111 ?_ 0 ?_ _ _ Hg136 (am_fpT (fun k (hk : k < 69 ∨ 92 ≤ k) => fyfz137 k (by omega)) (am_fpU (show ¬ (69 < 69 ∨ 92 ≤ 69) by omega) (am_fpU (show ¬ (79 < 69 ∨ 92 ≤ 79) by omega) (am_fpT (fun k (hk : k < 69 ∨ 92 ≤ k) => fyfz131 k (by omega)) (am_fpU (show ¬ (80 < 69 ∨ 92 ≤ 80) by omega) am_fp0)))))
                  · exact fun z => hc112 z.1
                  · exact (if_neg (fun z => z.elim hc112 (fun y => y.2 hc126))).symm
                · refine aw_iconst (npc := 301) (v := 1) (by decide) dX8_takesE_300 rfl ?_
                  refine aw_goto (npc := 305) dX8_takesE_301 (by decide) ?_
                  refine aw_zast (npc := 306) (j := p) dX8_takesE_305 rfl F1u.2.2.2.2.2.2.2.2.2.2.2.1 (am_ix_nI (by omega)) (by rw [tl_len]; omega) (show vp_nar .boolean 1 = 1 by decide) rfl ?_
                  have F138 := mr_80 (j := p) (v := 1) F1u
                  have hK3 : K.1 = 3 := sg_3 (y := a0 75 K.2.1) (by rw [hg]; exact hc111)
                  have Hp139 : EX (K, cs, ws, at_, upd tq p 1) L o0 N a0 _ := ⟨_, _, F138, ⟨vk1, m19_1, m20_1, m22_1, (fun j hj => (congrFun (aup_n (by decide)) j).trans (mc1 j hj)), (fun j hj => (congrFun (aup_n (by decide)) j).trans (mw1 j hj)), (e_tst mq1)⟩, (fun k k1 k2 k3 k4 => ho1 k k1 k2 k3 k4), (fun k k1 k2 k3 => (aup_n k3).trans (ha1 k k1 k2 k3))⟩
                  refine aw_aload_n (npc := 307) rfl dX8_takesE_306 rfl ?_
                  refine aw_iload (npc := 309) rfl dX8_takesE_307 rfl ?_
                  refine aw_callS (npc := 312) (N := mX8_rank) (mc := 0) (ms := 0) (A := [.int g]) (S := [.ref 69]) (L0 := [some (.int g)]) dX8_takesE_309 rfl km_X8_rank kk_X8_225 rfl ⟨rfl, by decide⟩ rfl (Nat.le_of_ble_eq_true rfl) (Nat.zero_add _) (Nat.zero_add _) rfl ?_
                  refine m_rank ?_
                  refine aw_re (S' := [.int (rkM g), .ref 69]) rfl ?_
                  obtain ⟨o32u, a32u, F32u, ⟨vk32, m19_32, m20_32, m22_32, mc32, mw32, mq32⟩, ho32, ha32⟩ := id Hp139
                  refine aw_callV (npc := 315) (N := mX8_settle) (b := 69) (mc := 0) (ms := 0) (A := [.int (rkM g)]) (S := []) (L0 := [some (.ref 69), some (.int (rkM g))]) dX8_takesE_312 rfl km_X8_settle kk_X8_237 F32u.1 ⟨by decide, rfl⟩ rfl ⟨rfl, by decide⟩ rfl (Nat.le_of_ble_eq_true rfl) (Nat.zero_add _) (Nat.zero_add _) rfl ?_
                  refine m_settle (r := rkM g) ws cs _ Hp139 (by omega) (fun hp140 Hs141 fz142 => ?_)
                  have fyfz142 : ∀ k, (k < 69 ∨ 92 ≤ k) → hp140 k = _ := fun k hk => fz142 k hk
                  have hls := stl_len (r := rkM g) ws cs
                  refine aw_aload_n (npc := 316) rfl dX8_takesE_315 rfl ?_
                  obtain ⟨o33u, a33u, F33u, ⟨vk33, m19_33, m20_33, m22_33, mc33, mw33, mq33⟩, ho33, ha33⟩ := id Hs141
                  refine aw_get (npc := 319) dX8_takesE_316 rfl kf_X8_42 F33u.1 rfl ?_
                  refine aw_aload_n (npc := 320) rfl dX8_takesE_319 rfl ?_
                  refine aw_get (npc := 323) dX8_takesE_320 rfl kf_X8_222 F33u.1 rfl ?_
                  refine aw_top (y := nI ((stl (rkM g) cs ws).2).length) (m22_33) ?_
                  refine aw_iload (npc := 325) rfl dX8_takesE_323 rfl ?_
                  refine aw_iast (npc := 326) (j := (((stl (rkM g) cs ws).2).length)) dX8_takesE_325 rfl F33u.2.2.2.2.2.2.2.2.2.2.1 (am_ix_nI (by omega)) (by rw [tl_len]; omega) rfl ?_
                  have F143 := mr_79 (j := (((stl (rkM g) cs ws).2).length)) (v := g) F33u
                  refine aw_aload_n (npc := 327) rfl dX8_takesE_326 rfl ?_
                  refine aw_dup (npc := 328) rfl dX8_takesE_327 rfl ?_
                  refine aw_get (npc := 331) dX8_takesE_328 rfl kf_X8_222 F143.1 rfl ?_
                  refine aw_top (y := nI ((stl (rkM g) cs ws).2).length) (m22_33) ?_
                  refine aw_iconst (npc := 332) (v := 1) (by decide) dX8_takesE_331 rfl ?_
                  refine aw_iaddV (npc := 333) (v := nI (((stl (rkM g) cs ws).2).length + 1)) dX8_takesE_332 rfl (nI_add _ 1) ?_
                  refine aw_put (npc := 336) dX8_takesE_333 rfl kf_X8_222 F143.1 (Nat.le_of_ble_eq_true rfl) (am_ok_int _) rfl ?_
                  have F144 := mr_o22 (v := nI (((stl (rkM g) cs ws).2).length + 1)) F143
                  have Hp145 : EX (K, (stl (rkM g) cs ws).1, g :: (stl (rkM g) cs ws).2, at_, upd tq p 1) L o0 N a0 _ := ⟨_, _, F144, ⟨(vk_u (by decide) vk33), (((pk_un (by omega))).trans m19_33), (((pk_un (by omega))).trans m20_33), (pk_us), (fun j hj => (congrFun (aup_n (by decide)) j).trans (mc33 j hj)), (e_wait mw33), (fun j hj => (congrFun (aup_n (by decide)) j).trans (mq33 j hj))⟩, (fun k k1 k2 k3 k4 => (pk_un k4).trans (ho33 k k1 k2 k3 k4)), (fun k k1 k2 k3 => (aup_n k2).trans (ha33 k k1 k2 k3))⟩
                  refine aw_iconst (npc := 337) (v := 1) (by decide) dX8_takesE_336 rfl ?_
                  refine aw_istore_n (npc := 338) (L' := [some (.ref 69), some (.int (nI p)), some (.int (nI (nO ws))), some (.int 1), some (.int g)]) dX8_takesE_337 rfl (by decide) rfl rfl ?_
                  refine aw_aload_n (npc := 339) rfl dX8_takesE_338 rfl ?_
                  obtain ⟨o34u, a34u, F34u, ⟨vk34, m19_34, m20_34, m22_34, mc34, mw34, mq34⟩, ho34, ha34⟩ := id Hp145
                  refine aw_callV (npc := 342) (N := mX8_go) (b := 69) (mc := 0) (ms := 0) (A := []) (S := []) (L0 := [some (.ref 69), none]) dX8_takesE_339 rfl km_X8_go kk_X8_219 F34u.1 ⟨by decide, rfl⟩ rfl ⟨rfl, by decide⟩ rfl (Nat.le_of_ble_eq_true rfl) (Nat.zero_add _) (Nat.zero_add _) rfl ?_
                  refine m_goE Hp145 hL wk h9 (Or.inr (Or.inr hK3)) (fun hp146 Hg147 fz148 => ?_)
                  have fyfz148 : ∀ k, (k < 69 ∨ 92 ≤ k) → hp146 k = _ := fun k hk => fz148 k hk
                  refine aw_goto (npc := 28) dX8_takesE_342 (by decide) ?_
                  refine ksg hK0 (fun z => absurd ((nI_leI (a := p) (b := 0) (by omega) (by omega)).mp hc110) (by have y := z.2.2; omega)) hc111 ?_ 1 ?_ _ _ Hg147 (am_fpT (fun k (hk : k < 69 ∨ 92 ≤ k) => fyfz148 k (by omega)) (am_fpU (show ¬ (69 < 69 ∨ 92 ≤ 69) by omega) (am_fpU (show ¬ (79 < 69 ∨ 92 ≤ 79) by omega) (am_fpT (fun k (hk : k < 69 ∨ 92 ≤ k) => fyfz142 k (by omega)) (am_fpU (show ¬ (80 < 69 ∨ 92 ≤ 80) by omega) am_fp0)))))
                  · exact fun z => hc112 z.1
                  · exact (if_pos (Or.inr ⟨Int32.not_le.mp hc114, hc126⟩)).symm
            · refine aw_aload_n (npc := 258) rfl dX8_takesE_257 rfl ?_
              refine aw_get (npc := 261) dX8_takesE_258 rfl kf_X8_45 F1u.1 rfl ?_
              refine aw_iload_n (npc := 262) rfl dX8_takesE_261 rfl ?_
              refine aw_zald (npc := 263) (x := (a1u 80) p) (j := p) dX8_takesE_262 rfl F1u.2.2.2.2.2.2.2.2.2.2.2.1 (am_ix_nI (by omega)) (tl_at (by omega)) ?_
              refine aw_top (y := tq p) (mq1 p (by omega)) ?_
              refine aw_if_eq (npc := 266) (tgt := 268) dX8_takesE_263 rfl (by decide) (fun hc149 => ?_) (fun hc149 => ?_)
              · refine aw_aload_n (npc := 269) rfl dX8_takesE_268 rfl ?_
                refine aw_get (npc := 272) dX8_takesE_269 rfl kf_X8_45 F1u.1 rfl ?_
                refine aw_iload_n (npc := 273) rfl dX8_takesE_272 rfl ?_
                refine aw_iload (npc := 275) rfl dX8_takesE_273 rfl ?_
                refine aw_callS (npc := 278) (N := mX8_rank) (mc := 0) (ms := 0) (A := [.int g]) (S := [.int (nI p), .ref 80]) (L0 := [some (.int g)]) dX8_takesE_275 rfl km_X8_rank kk_X8_225 rfl ⟨rfl, by decide⟩ rfl (Nat.le_of_ble_eq_true rfl) (Nat.zero_add _) (Nat.zero_add _) rfl ?_
                refine m_rank ?_
                refine aw_re (S' := [.int (rkM g), .int (nI p), .ref 80]) rfl ?_
                refine aw_iconst (npc := 279) (v := 3) (by decide) dX8_takesE_278 rfl ?_
                refine aw_icmp_eq (npc := 282) (tgt := 300) dX8_takesE_279 rfl (by decide) (fun _ => ?_) (fun hc => absurd (hc112) hc)
                refine aw_iconst (npc := 301) (v := 1) (by decide) dX8_takesE_300 rfl ?_
                refine aw_goto (npc := 305) dX8_takesE_301 (by decide) ?_
                refine aw_zast (npc := 306) (j := p) dX8_takesE_305 rfl F1u.2.2.2.2.2.2.2.2.2.2.2.1 (am_ix_nI (by omega)) (by rw [tl_len]; omega) (show vp_nar .boolean 1 = 1 by decide) rfl ?_
                have F151 := mr_80 (j := p) (v := 1) F1u
                have hK3 : K.1 = 3 := sg_3 (y := a0 75 K.2.1) (by rw [hg]; exact hc111)
                have Hp152 : EX (K, cs, ws, at_, upd tq p 1) L o0 N a0 _ := ⟨_, _, F151, ⟨vk1, m19_1, m20_1, m22_1, (fun j hj => (congrFun (aup_n (by decide)) j).trans (mc1 j hj)), (fun j hj => (congrFun (aup_n (by decide)) j).trans (mw1 j hj)), (e_tst mq1)⟩, (fun k k1 k2 k3 k4 => ho1 k k1 k2 k3 k4), (fun k k1 k2 k3 => (aup_n k3).trans (ha1 k k1 k2 k3))⟩
                refine aw_aload_n (npc := 307) rfl dX8_takesE_306 rfl ?_
                refine aw_iload (npc := 309) rfl dX8_takesE_307 rfl ?_
                refine aw_callS (npc := 312) (N := mX8_rank) (mc := 0) (ms := 0) (A := [.int g]) (S := [.ref 69]) (L0 := [some (.int g)]) dX8_takesE_309 rfl km_X8_rank kk_X8_225 rfl ⟨rfl, by decide⟩ rfl (Nat.le_of_ble_eq_true rfl) (Nat.zero_add _) (Nat.zero_add _) rfl ?_
                refine m_rank ?_
                refine aw_re (S' := [.int (rkM g), .ref 69]) rfl ?_
                obtain ⟨o35u, a35u, F35u, ⟨vk35, m19_35, m20_35, m22_35, mc35, mw35, mq35⟩, ho35, ha35⟩ := id Hp152
                refine aw_callV (npc := 315) (N := mX8_settle) (b := 69) (mc := 0) (ms := 0) (A := [.int (rkM g)]) (S := []) (L0 := [some (.ref 69), some (.int (rkM g))]) dX8_takesE_312 rfl km_X8_settle kk_X8_237 F35u.1 ⟨by decide, rfl⟩ rfl ⟨rfl, by decide⟩ rfl (Nat.le_of_ble_eq_true rfl) (Nat.zero_add _) (Nat.zero_add _) rfl ?_
                refine m_settle (r := rkM g) ws cs _ Hp152 (by omega) (fun hp153 Hs154 fz155 => ?_)
                have fyfz155 : ∀ k, (k < 69 ∨ 92 ≤ k) → hp153 k = _ := fun k hk => fz155 k hk
                have hls := stl_len (r := rkM g) ws cs
                refine aw_aload_n (npc := 316) rfl dX8_takesE_315 rfl ?_
                obtain ⟨o36u, a36u, F36u, ⟨vk36, m19_36, m20_36, m22_36, mc36, mw36, mq36⟩, ho36, ha36⟩ := id Hs154
                refine aw_get (npc := 319) dX8_takesE_316 rfl kf_X8_42 F36u.1 rfl ?_
                refine aw_aload_n (npc := 320) rfl dX8_takesE_319 rfl ?_
                refine aw_get (npc := 323) dX8_takesE_320 rfl kf_X8_222 F36u.1 rfl ?_
                refine aw_top (y := nI ((stl (rkM g) cs ws).2).length) (m22_36) ?_
                refine aw_iload (npc := 325) rfl dX8_takesE_323 rfl ?_
                refine aw_iast (npc := 326) (j := (((stl (rkM g) cs ws).2).length)) dX8_takesE_325 rfl F36u.2.2.2.2.2.2.2.2.2.2.1 (am_ix_nI (by omega)) (by rw [tl_len]; omega) rfl ?_
                have F156 := mr_79 (j := (((stl (rkM g) cs ws).2).length)) (v := g) F36u
                refine aw_aload_n (npc := 327) rfl dX8_takesE_326 rfl ?_
                refine aw_dup (npc := 328) rfl dX8_takesE_327 rfl ?_
                refine aw_get (npc := 331) dX8_takesE_328 rfl kf_X8_222 F156.1 rfl ?_
                refine aw_top (y := nI ((stl (rkM g) cs ws).2).length) (m22_36) ?_
                refine aw_iconst (npc := 332) (v := 1) (by decide) dX8_takesE_331 rfl ?_
                refine aw_iaddV (npc := 333) (v := nI (((stl (rkM g) cs ws).2).length + 1)) dX8_takesE_332 rfl (nI_add _ 1) ?_
                refine aw_put (npc := 336) dX8_takesE_333 rfl kf_X8_222 F156.1 (Nat.le_of_ble_eq_true rfl) (am_ok_int _) rfl ?_
                have F157 := mr_o22 (v := nI (((stl (rkM g) cs ws).2).length + 1)) F156
                have Hp158 : EX (K, (stl (rkM g) cs ws).1, g :: (stl (rkM g) cs ws).2, at_, upd tq p 1) L o0 N a0 _ := ⟨_, _, F157, ⟨(vk_u (by decide) vk36), (((pk_un (by omega))).trans m19_36), (((pk_un (by omega))).trans m20_36), (pk_us), (fun j hj => (congrFun (aup_n (by decide)) j).trans (mc36 j hj)), (e_wait mw36), (fun j hj => (congrFun (aup_n (by decide)) j).trans (mq36 j hj))⟩, (fun k k1 k2 k3 k4 => (pk_un k4).trans (ho36 k k1 k2 k3 k4)), (fun k k1 k2 k3 => (aup_n k2).trans (ha36 k k1 k2 k3))⟩
                refine aw_iconst (npc := 337) (v := 1) (by decide) dX8_takesE_336 rfl ?_
                refine aw_istore_n (npc := 338) (L' := [some (.ref 69), some (.int (nI p)), some (.int (nI (nO ws))), some (.int 1), some (.int g)]) dX8_takesE_337 rfl (by decide) rfl rfl ?_
                refine aw_aload_n (npc := 339) rfl dX8_takesE_338 rfl ?_
                obtain ⟨o37u, a37u, F37u, ⟨vk37, m19_37, m20_37, m22_37, mc37, mw37, mq37⟩, ho37, ha37⟩ := id Hp158
                refine aw_callV (npc := 342) (N := mX8_go) (b := 69) (mc := 0) (ms := 0) (A := []) (S := []) (L0 := [some (.ref 69), none]) dX8_takesE_339 rfl km_X8_go kk_X8_219 F37u.1 ⟨by decide, rfl⟩ rfl ⟨rfl, by decide⟩ rfl (Nat.le_of_ble_eq_true rfl) (Nat.zero_add _) (Nat.zero_add _) rfl ?_
                refine m_goE Hp158 hL wk h9 (Or.inr (Or.inr hK3)) (fun hp159 Hg160 fz161 => ?_)
                have fyfz161 : ∀ k, (k < 69 ∨ 92 ≤ k) → hp159 k = _ := fun k hk => fz161 k hk
                refine aw_goto (npc := 28) dX8_takesE_342 (by decide) ?_
                refine ksg hK0 (fun z => absurd ((nI_leI (a := p) (b := 0) (by omega) (by omega)).mp hc110) (by have y := z.2.2; omega)) hc111 ?_ 1 ?_ _ _ Hg160 (am_fpT (fun k (hk : k < 69 ∨ 92 ≤ k) => fyfz161 k (by omega)) (am_fpU (show ¬ (69 < 69 ∨ 92 ≤ 69) by omega) (am_fpU (show ¬ (79 < 69 ∨ 92 ≤ 79) by omega) (am_fpT (fun k (hk : k < 69 ∨ 92 ≤ k) => fyfz155 k (by omega)) (am_fpU (show ¬ (80 < 69 ∨ 92 ≤ 80) by omega) am_fp0)))))
                · exact fun z => z.2 hc149
                · exact (if_pos (Or.inl hc112)).symm
              · refine aw_iconst (npc := 267) (v := 0) (by decide) dX8_takesE_266 rfl ?_
                refine aw_zret rfl rfl dX8_takesE_267 ?_
                exact kno hK0 (fun z => absurd ((nI_leI (a := p) (b := 0) (by omega) (by omega)).mp hc110) (by have y := z.2.2; omega)) (Or.inr ⟨hc112, hc149⟩)
        · have hc110N : ¬ p ≤ 0 := fun z9q => hc110 ((nI_leI (a := p) (b := 0) (by omega) (by omega)).mpr z9q)
          have hp0 : 0 < p := by
            rcases Nat.eq_zero_or_pos p with z | z
            · exact absurd (by rw [z]; decide) hc110
            · exact z
          refine aw_aload_n (npc := 202) rfl dX8_takesE_201 rfl ?_
          refine aw_iconst (npc := 203) (v := 0) (by decide) dX8_takesE_202 rfl ?_
          refine aw_callV (npc := 206) (N := mX8_settle) (b := 69) (mc := 0) (ms := 0) (A := [.int 0]) (S := []) (L0 := [some (.ref 69), some (.int 0)]) dX8_takesE_203 rfl km_X8_settle kk_X8_237 F1u.1 ⟨by decide, rfl⟩ rfl ⟨rfl, by decide⟩ rfl (Nat.le_of_ble_eq_true rfl) (Nat.zero_add _) (Nat.zero_add _) rfl ?_
          refine m_settle (r := 0) ws cs _ H (by omega) (fun hp162 Hs163 fz164 => ?_)
          have fyfz164 : ∀ k, (k < 69 ∨ 92 ≤ k) → hp162 k = _ := fun k hk => fz164 k hk
          obtain ⟨c1, w2, e0⟩ := hop hp0
          have Hs2 := ex_c (σ' := (K, c1, (-11) :: w2, at_, tq)) (by rw [e0]) Hs163
          have hl0 := stl_len (r := 0) ws cs
          rw [e0] at hl0
          have hl1 : c1.length + (w2.length + 1) = cs.length + ws.length := hl0
          obtain ⟨o38u, a38u, F38u, ⟨vk38, m19_38, m20_38, m22_38, mc38, mw38, mq38⟩, ho38, ha38⟩ := id Hs2
          refine aw_aload_n (npc := 207) rfl dX8_takesE_206 rfl ?_
          refine aw_dup (npc := 208) rfl dX8_takesE_207 rfl ?_
          refine aw_get (npc := 211) dX8_takesE_208 rfl kf_X8_222 F38u.1 rfl ?_
          refine aw_top (y := nI (w2.length + 1)) (m22_38) ?_
          refine aw_iconst (npc := 212) (v := 1) (by decide) dX8_takesE_211 rfl ?_
          refine aw_isubV (npc := 213) (v := nI w2.length) dX8_takesE_212 rfl (pk_sub (a := w2.length + 1) (b := 1) (by omega)) ?_
          refine aw_put (npc := 216) dX8_takesE_213 rfl kf_X8_222 F38u.1 (Nat.le_of_ble_eq_true rfl) (am_ok_int _) rfl ?_
          have F165 := mr_o22 (v := nI w2.length) F38u
          refine aw_iinc (npc := 219) (v := nI (p - 1)) (L' := [some (.ref 69), some (.int (nI (p - 1))), some (.int (nI (nO ws))), some (.int 0), v4]) dX8_takesE_216 rfl rfl (sb_m1 (by omega)) (by decide) rfl rfl ?_
          have Hp166 : EX (K, c1, w2, at_, tq) L o0 N a0 _ := ⟨_, _, F165, ⟨(vk_u (by decide) vk38), (((pk_un (by omega))).trans m19_38), (((pk_un (by omega))).trans m20_38), (pk_us), mc38, (fun j hj => (mw38 j (by have z : j < w2.length := hj; show j < w2.length + 1; omega)).trans (rev_low hj)), mq38⟩, (fun k k1 k2 k3 k4 => (pk_un k4).trans (ho38 k k1 k2 k3 k4)), (fun k k1 k2 k3 => ha38 k k1 k2 k3)⟩
          refine aw_aload_n (npc := 220) rfl dX8_takesE_219 rfl ?_
          refine aw_bipush (npc := 222) (v := 6) (by decide) dX8_takesE_220 rfl ?_
          obtain ⟨o39u, a39u, F39u, ⟨vk39, m19_39, m20_39, m22_39, mc39, mw39, mq39⟩, ho39, ha39⟩ := id Hp166
          refine aw_callV (npc := 225) (N := mX8_settle) (b := 69) (mc := 0) (ms := 0) (A := [.int 6]) (S := []) (L0 := [some (.ref 69), some (.int 6)]) dX8_takesE_222 rfl km_X8_settle kk_X8_237 F39u.1 ⟨by decide, rfl⟩ rfl ⟨rfl, by decide⟩ rfl (Nat.le_of_ble_eq_true rfl) (Nat.zero_add _) (Nat.zero_add _) rfl ?_
          refine m_settle (r := 6) w2 c1 _ Hp166 (by omega) (fun hp167 Hs168 fz169 => ?_)
          have fyfz169 : ∀ k, (k < 69 ∨ 92 ≤ k) → hp167 k = _ := fun k hk => fz169 k hk
          refine aw_aload_n (npc := 226) rfl dX8_takesE_225 rfl ?_
          obtain ⟨o40u, a40u, F40u, ⟨vk40, m19_40, m20_40, m22_40, mc40, mw40, mq40⟩, ho40, ha40⟩ := id Hs168
          refine aw_callV (npc := 229) (N := mX8_notsOpen) (b := 69) (mc := 0) (ms := 0) (A := []) (S := []) (L0 := [some (.ref 69), none, none]) dX8_takesE_226 rfl km_X8_notsOpen kk_X8_243 F40u.1 ⟨by decide, rfl⟩ rfl ⟨rfl, by decide⟩ rfl (Nat.le_of_ble_eq_true rfl) (Nat.zero_add _) (Nat.zero_add _) rfl ?_
          refine m_nots Hs168 (by have z := stl_len (r := 6) w2 c1; show (stl 6 c1 w2).2.length ≤ 96; omega) ?_
          refine aw_re (S' := [.int (nI (nO ((stl 6 c1 w2).2)))]) rfl ?_
          refine aw_istore_n (npc := 230) (L' := [some (.ref 69), some (.int (nI (p - 1))), some (.int (nI (nO ((stl 6 c1 w2).2)))), some (.int 0), v4]) dX8_takesE_229 rfl (by decide) rfl rfl ?_
          refine aw_aload_n (npc := 231) rfl dX8_takesE_230 rfl ?_
          refine aw_callV (npc := 234) (N := mX8_go) (b := 69) (mc := 0) (ms := 0) (A := []) (S := []) (L0 := [some (.ref 69), none]) dX8_takesE_231 rfl km_X8_go kk_X8_219 F40u.1 ⟨by decide, rfl⟩ rfl ⟨rfl, by decide⟩ rfl (Nat.le_of_ble_eq_true rfl) (Nat.zero_add _) (Nat.zero_add _) rfl ?_
          refine m_goE Hs168 hL wk h9 (Or.inr (Or.inr hK3)) (fun hp170 Hg171 fz172 => ?_)
          have fyfz172 : ∀ k, (k < 69 ∨ 92 ≤ k) → hp170 k = _ := fun k hk => fz172 k hk
          refine aw_goto (npc := 28) dX8_takesE_234 (by decide) ?_
          exact k41 hK0 ⟨hK3, hc58, hp0⟩ c1 w2 e0 _ _ Hg171 (am_fpT (fun k (hk : k < 69 ∨ 92 ≤ k) => fyfz172 k (by omega)) (am_fpT (fun k (hk : k < 69 ∨ 92 ≤ k) => fyfz169 k (by omega)) (am_fpU (show ¬ (69 < 69 ∨ 92 ≤ 69) by omega) (am_fpT (fun k (hk : k < 69 ∨ 92 ≤ k) => fyfz164 k (by omega)) am_fp0))))
