theorem e_tst {a : Nat → Nat → Int32} {tq : Nat → Int32} {j : Nat} {v : Int32} (h : ∀ k, k < 10 → a 80 k = tq k) : ∀ k, k < 10 → aup a 80 j v 80 k = upd tq j v k := by
  rw [aup_eq]
  intro k hk
  by_cases e : k = j
  · subst e; rw [pk_us, pk_us]
  · rw [pk_un e, pk_un e]; exact h k hk
theorem nO_le : ∀ (ws : List Int32), nO ws ≤ ws.length := by
  intro ws
  induction ws with
  | nil => exact Nat.le_refl _
  | cons w ws ih => show (if w = -10 then 1 else 0) + nO ws ≤ ws.length + 1; split <;> omega
theorem stl_len {r : Int32} : ∀ (ws cs : List Int32), (stl r cs ws).1.length + (stl r cs ws).2.length = cs.length + ws.length := by
  intro ws
  induction ws with
  | nil => intro cs; rfl
  | cons w ws ih =>
    intro cs
    unfold stl
    split
    · rfl
    · rw [ih, List.length_append, List.length_singleton]; show cs.length + 1 + ws.length = cs.length + (ws.length + 1); omega
set_option maxHeartbeats 4000000 in
set_option maxRecDepth 100000 in
theorem m_turnW {X : List Int32} {d rc rs n : Nat} {Q : am_Q} {L : Nat} {o0 N : Nat → Int32} {a0 : Nat → Nat → Int32} {h : am_H} {K : Nat × Nat × Nat} {cs ws : List Int32} {at_ p : Nat} {tq : Nat → Int32} {v4 : Option Value} (H : EX (K, cs, ws, at_, tq) L o0 N a0 h) (hL : L ≤ 96) (wk : WFK L (a0 75) K) (h9 : o0 9 = nI L) (hb : cs.length + ws.length < 96) (hat : at_ ≤ 96) (hp : p ≤ 8)
    (k33 : K.1 = 3 ∧ a0 75 K.2.1 = 33 ∧ nO ws < 8 → ∀ v4 h9, EX (adv L (a0 75) K, cs, (-10) :: ws, at_, tq) L o0 N a0 h9 → am_fp (fun k => k < 69 ∨ 92 ≤ k) h9 h → AW X mX8_takesE (d + 4) rc rs 28 [some (.ref 69), some (.int (nI p)), some (.int (nI (nO ((-10) :: ws)))), some (.int 1), v4] [] n h9 Q)
    (k40 : ¬ (K.1 = 3 ∧ a0 75 K.2.1 = 33 ∧ nO ws < 8) → K.1 = 3 ∧ a0 75 K.2.1 = 40 ∧ p < 8 → ∀ v4 h9, EX (adv L (a0 75) K, cs, (-11) :: ws, at_, upd tq (p + 1) 0) L o0 N a0 h9 → am_fp (fun k => k < 69 ∨ 92 ≤ k) h9 h → AW X mX8_takesE (d + 4) rc rs 28 [some (.ref 69), some (.int (nI (p + 1))), some (.int (nI (nO ((-11) :: ws)))), some (.int 1), v4] [] n h9 Q)
    (kpt : ¬ (K.1 = 3 ∧ a0 75 K.2.1 = 33 ∧ nO ws < 8) → ¬ (K.1 = 3 ∧ a0 75 K.2.1 = 40 ∧ p < 8) → ∀ c, ptO (o0 15) (a0 75) K = some c → ∀ v4 h9, EX (adv L (a0 75) K, (stl 6 (cs ++ [c]) ws).1, (stl 6 (cs ++ [c]) ws).2, at_ + 1, tq) L o0 N a0 h9 → am_fp (fun k => k < 69 ∨ 92 ≤ k) h9 h → AW X mX8_takesE (d + 4) rc rs 28 [some (.ref 69), some (.int (nI p)), some (.int (nI (nO (stl 6 (cs ++ [c]) ws).2))), some (.int 0), v4] [] n h9 Q)
    (kno : ¬ (K.1 = 3 ∧ a0 75 K.2.1 = 33 ∧ nO ws < 8) → ¬ (K.1 = 3 ∧ a0 75 K.2.1 = 40 ∧ p < 8) → ptO (o0 15) (a0 75) K = none → Q (some (.int 0)) n h) : AW X mX8_takesE (d + 4) rc rs 28 [some (.ref 69), some (.int (nI p)), some (.int (nI (nO ws))), some (.int 1), v4] [] n h Q := by
  have hmt : mtk K.1 ≤ 5 := by have z := wk.2.2.1; unfold mtk; split <;> omega
  have hno := nO_le ws
  have we := wk.1
  have wf := wk.2.1
  refine aw_iload_n (npc := 29) rfl dX8_takesE_28 rfl ?_
  refine aw_if_ne (npc := 32) (tgt := 39) dX8_takesE_29 rfl (by decide) (fun _ => ?_) (fun hc => absurd hc (by decide))
  refine aw_iload_n (npc := 40) rfl dX8_takesE_39 rfl ?_
  refine aw_if_eq (npc := 43) (tgt := 180) dX8_takesE_40 rfl (by decide) (fun hc => absurd hc (by decide)) (fun _ => ?_)
  refine aw_aload_n (npc := 44) rfl dX8_takesE_43 rfl ?_
  obtain ⟨o1u, a1u, F1u, ⟨vk1, m19_1, m20_1, m22_1, mc1, mw1, mq1⟩, ho1, ha1⟩ := id H
  refine aw_get (npc := 47) dX8_takesE_44 rfl kf_X8_204 F1u.1 rfl ?_
  refine aw_top (y := nI (mtk K.1)) (vk1.2.2.1) ?_
  refine aw_iconst (npc := 48) (v := 3) (by decide) dX8_takesE_47 rfl ?_
  refine aw_icmp_ne (npc := 51) (tgt := 97) dX8_takesE_48 rfl (by decide) (fun hc1 => ?_) (fun hc1 => ?_)
  · have hc1N : ¬ (mtk K.1) = 3 := fun z9q => hc1 ((nI_eq (a := (mtk K.1)) (b := 3) (by omega) (by omega)).mpr z9q)
    refine aw_aload_n (npc := 98) rfl dX8_takesE_97 rfl ?_
    refine aw_get (npc := 101) dX8_takesE_98 rfl kf_X8_204 F1u.1 rfl ?_
    refine aw_top (y := nI (mtk K.1)) (vk1.2.2.1) ?_
    refine aw_iconst (npc := 102) (v := 3) (by decide) dX8_takesE_101 rfl ?_
    refine aw_icmp_ne (npc := 105) (tgt := 158) dX8_takesE_102 rfl (by decide) (fun _ => ?_) (fun hc => absurd hc (hc1))
    refine aw_aload_n (npc := 159) rfl dX8_takesE_158 rfl ?_
    refine aw_callV (npc := 162) (N := mX8_takesPart) (b := 69) (mc := 0) (ms := 0) (A := []) (S := []) (L0 := [some (.ref 69), none]) dX8_takesE_159 rfl km_X8_takesPart kk_X8_240 F1u.1 ⟨by decide, rfl⟩ rfl ⟨rfl, by decide⟩ rfl (Nat.le_of_ble_eq_true rfl) (Nat.zero_add _) (Nat.zero_add _) rfl ?_
    refine m_part H hL wk h9 (by omega) (by omega) (fun c hpt hp Hq fz => ?_) (fun hpt => ?_)
    · have fyfz : ∀ k, (k < 69 ∨ 92 ≤ k) → hp k = _ := fun k hk => fz k hk
      refine aw_re (S' := [.int 1]) rfl ?_
      refine aw_if_eq (npc := 165) (tgt := 170) dX8_takesE_162 rfl (by decide) (fun hc => absurd hc (by decide)) (fun _ => ?_)
      refine aw_iconst (npc := 166) (v := 0) (by decide) dX8_takesE_165 rfl ?_
      refine aw_istore_n (npc := 167) (L' := [some (.ref 69), some (.int (nI p)), some (.int (nI (nO ws))), some (.int 0), v4]) dX8_takesE_166 rfl (by decide) rfl rfl ?_
      refine aw_goto (npc := 172) dX8_takesE_167 (by decide) ?_
      refine aw_aload_n (npc := 173) rfl dX8_takesE_172 rfl ?_
      obtain ⟨o2u, a2u, F2u, ⟨vk2, m19_2, m20_2, m22_2, mc2, mw2, mq2⟩, ho2, ha2⟩ := id Hq
      refine aw_callV (npc := 176) (N := mX8_notsOpen) (b := 69) (mc := 0) (ms := 0) (A := []) (S := []) (L0 := [some (.ref 69), none, none]) dX8_takesE_173 rfl km_X8_notsOpen kk_X8_243 F2u.1 ⟨by decide, rfl⟩ rfl ⟨rfl, by decide⟩ rfl (Nat.le_of_ble_eq_true rfl) (Nat.zero_add _) (Nat.zero_add _) rfl ?_
      refine m_nots Hq (by have z := stl_len (r := 6) ws (cs ++ [c]); rw [List.length_append, List.length_singleton] at z; show (stl 6 (cs ++ [c]) ws).2.length ≤ 96; omega) ?_
      refine aw_re (S' := [.int (nI (nO ((stl 6 (cs ++ [c]) ws).2)))]) rfl ?_
      refine aw_istore_n (npc := 177) (L' := [some (.ref 69), some (.int (nI p)), some (.int (nI (nO ((stl 6 (cs ++ [c]) ws).2)))), some (.int 0), v4]) dX8_takesE_176 rfl (by decide) rfl rfl ?_
      refine aw_goto (npc := 28) dX8_takesE_177 (by decide) ?_
      exact kpt (fun z => hc1N ((mtk_eq wk.2.2.1 wk.2.2.2.1 (by omega)).mpr z.1)) (fun z => hc1N ((mtk_eq wk.2.2.1 wk.2.2.2.1 (by omega)).mpr z.1)) _ hpt _ _ Hq (am_fpT (fun k (hk : k < 69 ∨ 92 ≤ k) => fyfz k (by omega)) am_fp0)
    · refine aw_re (S' := [.int 0]) rfl ?_
      refine aw_if_eq (npc := 165) (tgt := 170) dX8_takesE_162 rfl (by decide) (fun _ => ?_) (fun hc => absurd (by decide) hc)
      refine aw_iconst (npc := 171) (v := 0) (by decide) dX8_takesE_170 rfl ?_
      refine aw_zret rfl rfl dX8_takesE_171 ?_
      exact kno (fun z => hc1N ((mtk_eq wk.2.2.1 wk.2.2.2.1 (by omega)).mpr z.1)) (fun z => hc1N ((mtk_eq wk.2.2.1 wk.2.2.2.1 (by omega)).mpr z.1)) hpt
  · have hc1N := (nI_eq (a := (mtk K.1)) (b := 3) (by omega) (by omega)).mp hc1
    have hK3 : K.1 = 3 := (mtk_eq wk.2.2.1 wk.2.2.2.1 (by omega)).mp hc1N
    refine aw_aload_n (npc := 52) rfl dX8_takesE_51 rfl ?_
    refine aw_get (npc := 55) dX8_takesE_52 rfl kf_X8_210 F1u.1 rfl ?_
    refine aw_top (y := a0 75 K.2.1) (vk1.2.2.2.1 (Or.inr hK3)) ?_
    refine aw_bipush (npc := 57) (v := 33) (by decide) dX8_takesE_55 rfl ?_
    refine aw_icmp_ne (npc := 60) (tgt := 97) dX8_takesE_57 rfl (by decide) (fun hc3 => ?_) (fun hc3 => ?_)
    · refine aw_aload_n (npc := 98) rfl dX8_takesE_97 rfl ?_
      refine aw_get (npc := 101) dX8_takesE_98 rfl kf_X8_204 F1u.1 rfl ?_
      refine aw_top (y := nI (mtk K.1)) (vk1.2.2.1) ?_
      refine aw_iconst (npc := 102) (v := 3) (by decide) dX8_takesE_101 rfl ?_
      refine aw_icmp_ne (npc := 105) (tgt := 158) dX8_takesE_102 rfl (by decide) (fun hc => absurd (hc1) hc) (fun _ => ?_)
      refine aw_aload_n (npc := 106) rfl dX8_takesE_105 rfl ?_
      refine aw_get (npc := 109) dX8_takesE_106 rfl kf_X8_210 F1u.1 rfl ?_
      refine aw_top (y := a0 75 K.2.1) (vk1.2.2.2.1 (Or.inr hK3)) ?_
      refine aw_bipush (npc := 111) (v := 40) (by decide) dX8_takesE_109 rfl ?_
      refine aw_icmp_ne (npc := 114) (tgt := 158) dX8_takesE_111 rfl (by decide) (fun hc5 => ?_) (fun hc5 => ?_)
      · refine aw_aload_n (npc := 159) rfl dX8_takesE_158 rfl ?_
        refine aw_callV (npc := 162) (N := mX8_takesPart) (b := 69) (mc := 0) (ms := 0) (A := []) (S := []) (L0 := [some (.ref 69), none]) dX8_takesE_159 rfl km_X8_takesPart kk_X8_240 F1u.1 ⟨by decide, rfl⟩ rfl ⟨rfl, by decide⟩ rfl (Nat.le_of_ble_eq_true rfl) (Nat.zero_add _) (Nat.zero_add _) rfl ?_
        refine m_part H hL wk h9 (by omega) (by omega) (fun c hpt hp Hq fz => ?_) (fun hpt => ?_)
        · have fyfz : ∀ k, (k < 69 ∨ 92 ≤ k) → hp k = _ := fun k hk => fz k hk
          refine aw_re (S' := [.int 1]) rfl ?_
          refine aw_if_eq (npc := 165) (tgt := 170) dX8_takesE_162 rfl (by decide) (fun hc => absurd hc (by decide)) (fun _ => ?_)
          refine aw_iconst (npc := 166) (v := 0) (by decide) dX8_takesE_165 rfl ?_
          refine aw_istore_n (npc := 167) (L' := [some (.ref 69), some (.int (nI p)), some (.int (nI (nO ws))), some (.int 0), v4]) dX8_takesE_166 rfl (by decide) rfl rfl ?_
          refine aw_goto (npc := 172) dX8_takesE_167 (by decide) ?_
          refine aw_aload_n (npc := 173) rfl dX8_takesE_172 rfl ?_
          obtain ⟨o3u, a3u, F3u, ⟨vk3, m19_3, m20_3, m22_3, mc3, mw3, mq3⟩, ho3, ha3⟩ := id Hq
          refine aw_callV (npc := 176) (N := mX8_notsOpen) (b := 69) (mc := 0) (ms := 0) (A := []) (S := []) (L0 := [some (.ref 69), none, none]) dX8_takesE_173 rfl km_X8_notsOpen kk_X8_243 F3u.1 ⟨by decide, rfl⟩ rfl ⟨rfl, by decide⟩ rfl (Nat.le_of_ble_eq_true rfl) (Nat.zero_add _) (Nat.zero_add _) rfl ?_
          refine m_nots Hq (by have z := stl_len (r := 6) ws (cs ++ [c]); rw [List.length_append, List.length_singleton] at z; show (stl 6 (cs ++ [c]) ws).2.length ≤ 96; omega) ?_
          refine aw_re (S' := [.int (nI (nO ((stl 6 (cs ++ [c]) ws).2)))]) rfl ?_
          refine aw_istore_n (npc := 177) (L' := [some (.ref 69), some (.int (nI p)), some (.int (nI (nO ((stl 6 (cs ++ [c]) ws).2)))), some (.int 0), v4]) dX8_takesE_176 rfl (by decide) rfl rfl ?_
          refine aw_goto (npc := 28) dX8_takesE_177 (by decide) ?_
          exact kpt (fun z => hc3 z.2.1) (fun z => hc5 z.2.1) _ hpt _ _ Hq (am_fpT (fun k (hk : k < 69 ∨ 92 ≤ k) => fyfz k (by omega)) am_fp0)
        · refine aw_re (S' := [.int 0]) rfl ?_
          refine aw_if_eq (npc := 165) (tgt := 170) dX8_takesE_162 rfl (by decide) (fun _ => ?_) (fun hc => absurd (by decide) hc)
          refine aw_iconst (npc := 171) (v := 0) (by decide) dX8_takesE_170 rfl ?_
          refine aw_zret rfl rfl dX8_takesE_171 ?_
          exact kno (fun z => hc3 z.2.1) (fun z => hc5 z.2.1) hpt
      · refine aw_iload_n (npc := 115) rfl dX8_takesE_114 rfl ?_
        refine aw_bipush (npc := 117) (v := 8) (by decide) dX8_takesE_115 rfl ?_
        refine aw_icmp_ge (npc := 120) (tgt := 158) dX8_takesE_117 rfl (by decide) (fun hc6 => ?_) (fun hc6 => ?_)
        · have hc6N := (nI_leI (a := 8) (b := p) (by omega) (by omega)).mp hc6
          refine aw_aload_n (npc := 159) rfl dX8_takesE_158 rfl ?_
          refine aw_callV (npc := 162) (N := mX8_takesPart) (b := 69) (mc := 0) (ms := 0) (A := []) (S := []) (L0 := [some (.ref 69), none]) dX8_takesE_159 rfl km_X8_takesPart kk_X8_240 F1u.1 ⟨by decide, rfl⟩ rfl ⟨rfl, by decide⟩ rfl (Nat.le_of_ble_eq_true rfl) (Nat.zero_add _) (Nat.zero_add _) rfl ?_
          refine m_part H hL wk h9 (by omega) (by omega) (fun c hpt hp Hq fz => ?_) (fun hpt => ?_)
          · have fyfz : ∀ k, (k < 69 ∨ 92 ≤ k) → hp k = _ := fun k hk => fz k hk
            refine aw_re (S' := [.int 1]) rfl ?_
            refine aw_if_eq (npc := 165) (tgt := 170) dX8_takesE_162 rfl (by decide) (fun hc => absurd hc (by decide)) (fun _ => ?_)
            refine aw_iconst (npc := 166) (v := 0) (by decide) dX8_takesE_165 rfl ?_
            refine aw_istore_n (npc := 167) (L' := [some (.ref 69), some (.int (nI p)), some (.int (nI (nO ws))), some (.int 0), v4]) dX8_takesE_166 rfl (by decide) rfl rfl ?_
            refine aw_goto (npc := 172) dX8_takesE_167 (by decide) ?_
            refine aw_aload_n (npc := 173) rfl dX8_takesE_172 rfl ?_
            obtain ⟨o4u, a4u, F4u, ⟨vk4, m19_4, m20_4, m22_4, mc4, mw4, mq4⟩, ho4, ha4⟩ := id Hq
            refine aw_callV (npc := 176) (N := mX8_notsOpen) (b := 69) (mc := 0) (ms := 0) (A := []) (S := []) (L0 := [some (.ref 69), none, none]) dX8_takesE_173 rfl km_X8_notsOpen kk_X8_243 F4u.1 ⟨by decide, rfl⟩ rfl ⟨rfl, by decide⟩ rfl (Nat.le_of_ble_eq_true rfl) (Nat.zero_add _) (Nat.zero_add _) rfl ?_
            refine m_nots Hq (by have z := stl_len (r := 6) ws (cs ++ [c]); rw [List.length_append, List.length_singleton] at z; show (stl 6 (cs ++ [c]) ws).2.length ≤ 96; omega) ?_
            refine aw_re (S' := [.int (nI (nO ((stl 6 (cs ++ [c]) ws).2)))]) rfl ?_
            refine aw_istore_n (npc := 177) (L' := [some (.ref 69), some (.int (nI p)), some (.int (nI (nO ((stl 6 (cs ++ [c]) ws).2)))), some (.int 0), v4]) dX8_takesE_176 rfl (by decide) rfl rfl ?_
            refine aw_goto (npc := 28) dX8_takesE_177 (by decide) ?_
            exact kpt (fun z => hc3 z.2.1) (fun z => by have y := z.2.2; omega) _ hpt _ _ Hq (am_fpT (fun k (hk : k < 69 ∨ 92 ≤ k) => fyfz k (by omega)) am_fp0)
          · refine aw_re (S' := [.int 0]) rfl ?_
            refine aw_if_eq (npc := 165) (tgt := 170) dX8_takesE_162 rfl (by decide) (fun _ => ?_) (fun hc => absurd (by decide) hc)
            refine aw_iconst (npc := 171) (v := 0) (by decide) dX8_takesE_170 rfl ?_
            refine aw_zret rfl rfl dX8_takesE_171 ?_
            exact kno (fun z => hc3 z.2.1) (fun z => by have y := z.2.2; omega) hpt
        · have hc6N : ¬ 8 ≤ p := fun z9q => hc6 ((nI_leI (a := 8) (b := p) (by omega) (by omega)).mpr z9q)
          refine aw_aload_n (npc := 121) rfl dX8_takesE_120 rfl ?_
          refine aw_get (npc := 124) dX8_takesE_121 rfl kf_X8_42 F1u.1 rfl ?_
          refine aw_aload_n (npc := 125) rfl dX8_takesE_124 rfl ?_
          refine aw_get (npc := 128) dX8_takesE_125 rfl kf_X8_222 F1u.1 rfl ?_
          refine aw_top (y := nI ws.length) (m22_1) ?_
          refine aw_bipush (npc := 130) (v := -11) (by decide) dX8_takesE_128 rfl ?_
          refine aw_iast (npc := 131) (j := ws.length) dX8_takesE_130 rfl F1u.2.2.2.2.2.2.2.2.2.2.1 (am_ix_nI (by omega)) (by rw [tl_len]; omega) rfl ?_
          have F7 := mr_79 (j := ws.length) (v := (-11)) F1u
          refine aw_aload_n (npc := 132) rfl dX8_takesE_131 rfl ?_
          refine aw_dup (npc := 133) rfl dX8_takesE_132 rfl ?_
          refine aw_get (npc := 136) dX8_takesE_133 rfl kf_X8_222 F7.1 rfl ?_
          refine aw_top (y := nI ws.length) (m22_1) ?_
          refine aw_iconst (npc := 137) (v := 1) (by decide) dX8_takesE_136 rfl ?_
          refine aw_iaddV (npc := 138) (v := nI (ws.length + 1)) dX8_takesE_137 rfl (nI_add _ 1) ?_
          refine aw_put (npc := 141) dX8_takesE_138 rfl kf_X8_222 F7.1 (Nat.le_of_ble_eq_true rfl) (am_ok_int _) rfl ?_
          have F8 := mr_o22 (v := nI (ws.length + 1)) F7
          refine aw_iinc (npc := 144) (v := nI (p + 1)) (L' := [some (.ref 69), some (.int (nI (p + 1))), some (.int (nI (nO ws))), some (.int 1), v4]) dX8_takesE_141 rfl rfl (nI_1 _) (by decide) rfl rfl ?_
          refine aw_aload_n (npc := 145) rfl dX8_takesE_144 rfl ?_
          refine aw_get (npc := 148) dX8_takesE_145 rfl kf_X8_45 F8.1 rfl ?_
          refine aw_iload_n (npc := 149) rfl dX8_takesE_148 rfl ?_
          refine aw_iconst (npc := 150) (v := 0) (by decide) dX8_takesE_149 rfl ?_
          refine aw_zast (npc := 151) (j := (p + 1)) dX8_takesE_150 rfl F8.2.2.2.2.2.2.2.2.2.2.2.1 (am_ix_nI (by omega)) (by rw [tl_len]; omega) (show vp_nar .boolean 0 = 0 by decide) rfl ?_
          have F9 := mr_80 (j := (p + 1)) (v := 0) F8
          have Hp10 : EX (K, cs, (-11) :: ws, at_, upd tq (p + 1) 0) L o0 N a0 _ := ⟨_, _, F9, ⟨(vk_u (by decide) vk1), (((pk_un (by omega))).trans m19_1), (((pk_un (by omega))).trans m20_1), (pk_us), (fun j hj => ((congrFun (aup_n (by decide)) j).trans (congrFun (aup_n (by decide)) j)).trans (mc1 j hj)), (fun j hj => (congrFun (aup_n (by decide)) j).trans (e_wait mw1 j hj)), (e_tst (fun k hk => (congrFun (aup_n (by decide)) k).trans (mq1 k hk)))⟩, (fun k k1 k2 k3 k4 => (pk_un k4).trans (ho1 k k1 k2 k3 k4)), (fun k k1 k2 k3 => (aup_n k3).trans ((aup_n k2).trans (ha1 k k1 k2 k3)))⟩
          refine aw_aload_n (npc := 152) rfl dX8_takesE_151 rfl ?_
          obtain ⟨o5u, a5u, F5u, ⟨vk5, m19_5, m20_5, m22_5, mc5, mw5, mq5⟩, ho5, ha5⟩ := id Hp10
          refine aw_callV (npc := 155) (N := mX8_go) (b := 69) (mc := 0) (ms := 0) (A := []) (S := []) (L0 := [some (.ref 69), none]) dX8_takesE_152 rfl km_X8_go kk_X8_219 F5u.1 ⟨by decide, rfl⟩ rfl ⟨rfl, by decide⟩ rfl (Nat.le_of_ble_eq_true rfl) (Nat.zero_add _) (Nat.zero_add _) rfl ?_
          refine m_goE Hp10 hL wk h9 (Or.inr (Or.inr hK3)) (fun hp11 Hg12 fz13 => ?_)
          have fyfz13 : ∀ k, (k < 69 ∨ 92 ≤ k) → hp11 k = _ := fun k hk => fz13 k hk
          refine aw_goto (npc := 172) dX8_takesE_155 (by decide) ?_
          refine aw_aload_n (npc := 173) rfl dX8_takesE_172 rfl ?_
          obtain ⟨o6u, a6u, F6u, ⟨vk6, m19_6, m20_6, m22_6, mc6, mw6, mq6⟩, ho6, ha6⟩ := id Hg12
          refine aw_callV (npc := 176) (N := mX8_notsOpen) (b := 69) (mc := 0) (ms := 0) (A := []) (S := []) (L0 := [some (.ref 69), none, none]) dX8_takesE_173 rfl km_X8_notsOpen kk_X8_243 F6u.1 ⟨by decide, rfl⟩ rfl ⟨rfl, by decide⟩ rfl (Nat.le_of_ble_eq_true rfl) (Nat.zero_add _) (Nat.zero_add _) rfl ?_
          refine m_nots Hg12 (by show ws.length + 1 ≤ 96; omega) ?_
          refine aw_re (S' := [.int (nI (nO ((-11) :: ws)))]) rfl ?_
          refine aw_istore_n (npc := 177) (L' := [some (.ref 69), some (.int (nI (p + 1))), some (.int (nI (nO ((-11) :: ws)))), some (.int 1), v4]) dX8_takesE_176 rfl (by decide) rfl rfl ?_
          refine aw_goto (npc := 28) dX8_takesE_177 (by decide) ?_
          exact k40 (fun z => hc3 z.2.1) ⟨hK3, hc5, by omega⟩ _ _ Hg12 (am_fpT (fun k (hk : k < 69 ∨ 92 ≤ k) => fyfz13 k (by omega)) (am_fpU (show ¬ (80 < 69 ∨ 92 ≤ 80) by omega) (am_fpU (show ¬ (69 < 69 ∨ 92 ≤ 69) by omega) (am_fpU (show ¬ (79 < 69 ∨ 92 ≤ 79) by omega) am_fp0))))
    · refine aw_iload_n (npc := 61) rfl dX8_takesE_60 rfl ?_
      refine aw_bipush (npc := 63) (v := 8) (by decide) dX8_takesE_61 rfl ?_
      refine aw_icmp_ge (npc := 66) (tgt := 97) dX8_takesE_63 rfl (by decide) (fun hc14 => ?_) (fun hc14 => ?_)
      · have hc14N := (nI_leI (a := 8) (b := (nO ws)) (by omega) (by omega)).mp hc14
        refine aw_aload_n (npc := 98) rfl dX8_takesE_97 rfl ?_
        refine aw_get (npc := 101) dX8_takesE_98 rfl kf_X8_204 F1u.1 rfl ?_
        refine aw_top (y := nI (mtk K.1)) (vk1.2.2.1) ?_
        refine aw_iconst (npc := 102) (v := 3) (by decide) dX8_takesE_101 rfl ?_
        refine aw_icmp_ne (npc := 105) (tgt := 158) dX8_takesE_102 rfl (by decide) (fun hc => absurd (hc1) hc) (fun _ => ?_)
        refine aw_aload_n (npc := 106) rfl dX8_takesE_105 rfl ?_
        refine aw_get (npc := 109) dX8_takesE_106 rfl kf_X8_210 F1u.1 rfl ?_
        refine aw_top (y := a0 75 K.2.1) (vk1.2.2.2.1 (Or.inr hK3)) ?_
        refine aw_bipush (npc := 111) (v := 40) (by decide) dX8_takesE_109 rfl ?_
        refine aw_icmp_ne (npc := 114) (tgt := 158) dX8_takesE_111 rfl (by decide) (fun _ => ?_) (fun hc => absurd hc ((fun z => absurd (hc3.symm.trans z) (by decide))))
        refine aw_aload_n (npc := 159) rfl dX8_takesE_158 rfl ?_
        refine aw_callV (npc := 162) (N := mX8_takesPart) (b := 69) (mc := 0) (ms := 0) (A := []) (S := []) (L0 := [some (.ref 69), none]) dX8_takesE_159 rfl km_X8_takesPart kk_X8_240 F1u.1 ⟨by decide, rfl⟩ rfl ⟨rfl, by decide⟩ rfl (Nat.le_of_ble_eq_true rfl) (Nat.zero_add _) (Nat.zero_add _) rfl ?_
        refine m_part H hL wk h9 (by omega) (by omega) (fun c hpt hp Hq fz => ?_) (fun hpt => ?_)
        · have fyfz : ∀ k, (k < 69 ∨ 92 ≤ k) → hp k = _ := fun k hk => fz k hk
          refine aw_re (S' := [.int 1]) rfl ?_
          refine aw_if_eq (npc := 165) (tgt := 170) dX8_takesE_162 rfl (by decide) (fun hc => absurd hc (by decide)) (fun _ => ?_)
          refine aw_iconst (npc := 166) (v := 0) (by decide) dX8_takesE_165 rfl ?_
          refine aw_istore_n (npc := 167) (L' := [some (.ref 69), some (.int (nI p)), some (.int (nI (nO ws))), some (.int 0), v4]) dX8_takesE_166 rfl (by decide) rfl rfl ?_
          refine aw_goto (npc := 172) dX8_takesE_167 (by decide) ?_
          refine aw_aload_n (npc := 173) rfl dX8_takesE_172 rfl ?_
          obtain ⟨o7u, a7u, F7u, ⟨vk7, m19_7, m20_7, m22_7, mc7, mw7, mq7⟩, ho7, ha7⟩ := id Hq
          refine aw_callV (npc := 176) (N := mX8_notsOpen) (b := 69) (mc := 0) (ms := 0) (A := []) (S := []) (L0 := [some (.ref 69), none, none]) dX8_takesE_173 rfl km_X8_notsOpen kk_X8_243 F7u.1 ⟨by decide, rfl⟩ rfl ⟨rfl, by decide⟩ rfl (Nat.le_of_ble_eq_true rfl) (Nat.zero_add _) (Nat.zero_add _) rfl ?_
          refine m_nots Hq (by have z := stl_len (r := 6) ws (cs ++ [c]); rw [List.length_append, List.length_singleton] at z; show (stl 6 (cs ++ [c]) ws).2.length ≤ 96; omega) ?_
          refine aw_re (S' := [.int (nI (nO ((stl 6 (cs ++ [c]) ws).2)))]) rfl ?_
          refine aw_istore_n (npc := 177) (L' := [some (.ref 69), some (.int (nI p)), some (.int (nI (nO ((stl 6 (cs ++ [c]) ws).2)))), some (.int 0), v4]) dX8_takesE_176 rfl (by decide) rfl rfl ?_
          refine aw_goto (npc := 28) dX8_takesE_177 (by decide) ?_
          exact kpt (fun z => by have y := z.2.2; omega) (fun z => absurd (hc3.symm.trans z.2.1) (by decide)) _ hpt _ _ Hq (am_fpT (fun k (hk : k < 69 ∨ 92 ≤ k) => fyfz k (by omega)) am_fp0)
        · refine aw_re (S' := [.int 0]) rfl ?_
          refine aw_if_eq (npc := 165) (tgt := 170) dX8_takesE_162 rfl (by decide) (fun _ => ?_) (fun hc => absurd (by decide) hc)
          refine aw_iconst (npc := 171) (v := 0) (by decide) dX8_takesE_170 rfl ?_
          refine aw_zret rfl rfl dX8_takesE_171 ?_
          exact kno (fun z => by have y := z.2.2; omega) (fun z => absurd (hc3.symm.trans z.2.1) (by decide)) hpt
      · have hc14N : ¬ 8 ≤ (nO ws) := fun z9q => hc14 ((nI_leI (a := 8) (b := (nO ws)) (by omega) (by omega)).mpr z9q)
        refine aw_aload_n (npc := 67) rfl dX8_takesE_66 rfl ?_
        refine aw_get (npc := 70) dX8_takesE_67 rfl kf_X8_42 F1u.1 rfl ?_
        refine aw_aload_n (npc := 71) rfl dX8_takesE_70 rfl ?_
        refine aw_get (npc := 74) dX8_takesE_71 rfl kf_X8_222 F1u.1 rfl ?_
        refine aw_top (y := nI ws.length) (m22_1) ?_
        refine aw_bipush (npc := 76) (v := -10) (by decide) dX8_takesE_74 rfl ?_
        refine aw_iast (npc := 77) (j := ws.length) dX8_takesE_76 rfl F1u.2.2.2.2.2.2.2.2.2.2.1 (am_ix_nI (by omega)) (by rw [tl_len]; omega) rfl ?_
        have F17 := mr_79 (j := ws.length) (v := (-10)) F1u
        refine aw_aload_n (npc := 78) rfl dX8_takesE_77 rfl ?_
        refine aw_dup (npc := 79) rfl dX8_takesE_78 rfl ?_
        refine aw_get (npc := 82) dX8_takesE_79 rfl kf_X8_222 F17.1 rfl ?_
        refine aw_top (y := nI ws.length) (m22_1) ?_
        refine aw_iconst (npc := 83) (v := 1) (by decide) dX8_takesE_82 rfl ?_
        refine aw_iaddV (npc := 84) (v := nI (ws.length + 1)) dX8_takesE_83 rfl (nI_add _ 1) ?_
        refine aw_put (npc := 87) dX8_takesE_84 rfl kf_X8_222 F17.1 (Nat.le_of_ble_eq_true rfl) (am_ok_int _) rfl ?_
        have F18 := mr_o22 (v := nI (ws.length + 1)) F17
        refine aw_iinc (npc := 90) (v := nI ((nO ws) + 1)) (L' := [some (.ref 69), some (.int (nI p)), some (.int (nI ((nO ws) + 1))), some (.int 1), v4]) dX8_takesE_87 rfl rfl (nI_1 _) (by decide) rfl rfl ?_
        have Hp19 : EX (K, cs, (-10) :: ws, at_, tq) L o0 N a0 _ := ⟨_, _, F18, ⟨(vk_u (by decide) vk1), (((pk_un (by omega))).trans m19_1), (((pk_un (by omega))).trans m20_1), (pk_us), (fun j hj => (congrFun (aup_n (by decide)) j).trans (mc1 j hj)), (e_wait mw1), (fun j hj => (congrFun (aup_n (by decide)) j).trans (mq1 j hj))⟩, (fun k k1 k2 k3 k4 => (pk_un k4).trans (ho1 k k1 k2 k3 k4)), (fun k k1 k2 k3 => (aup_n k2).trans (ha1 k k1 k2 k3))⟩
        refine aw_aload_n (npc := 91) rfl dX8_takesE_90 rfl ?_
        obtain ⟨o8u, a8u, F8u, ⟨vk8, m19_8, m20_8, m22_8, mc8, mw8, mq8⟩, ho8, ha8⟩ := id Hp19
        refine aw_callV (npc := 94) (N := mX8_go) (b := 69) (mc := 0) (ms := 0) (A := []) (S := []) (L0 := [some (.ref 69), none]) dX8_takesE_91 rfl km_X8_go kk_X8_219 F8u.1 ⟨by decide, rfl⟩ rfl ⟨rfl, by decide⟩ rfl (Nat.le_of_ble_eq_true rfl) (Nat.zero_add _) (Nat.zero_add _) rfl ?_
        refine m_goE Hp19 hL wk h9 (Or.inr (Or.inr hK3)) (fun hp20 Hg21 fz22 => ?_)
        have fyfz22 : ∀ k, (k < 69 ∨ 92 ≤ k) → hp20 k = _ := fun k hk => fz22 k hk
        refine aw_goto (npc := 172) dX8_takesE_94 (by decide) ?_
        refine aw_aload_n (npc := 173) rfl dX8_takesE_172 rfl ?_
        obtain ⟨o9u, a9u, F9u, ⟨vk9, m19_9, m20_9, m22_9, mc9, mw9, mq9⟩, ho9, ha9⟩ := id Hg21
        refine aw_callV (npc := 176) (N := mX8_notsOpen) (b := 69) (mc := 0) (ms := 0) (A := []) (S := []) (L0 := [some (.ref 69), none, none]) dX8_takesE_173 rfl km_X8_notsOpen kk_X8_243 F9u.1 ⟨by decide, rfl⟩ rfl ⟨rfl, by decide⟩ rfl (Nat.le_of_ble_eq_true rfl) (Nat.zero_add _) (Nat.zero_add _) rfl ?_
        refine m_nots Hg21 (by show ws.length + 1 ≤ 96; omega) ?_
        refine aw_re (S' := [.int (nI (nO ((-10) :: ws)))]) rfl ?_
        refine aw_istore_n (npc := 177) (L' := [some (.ref 69), some (.int (nI p)), some (.int (nI (nO ((-10) :: ws)))), some (.int 1), v4]) dX8_takesE_176 rfl (by decide) rfl rfl ?_
        refine aw_goto (npc := 28) dX8_takesE_177 (by decide) ?_
        exact k33 ⟨hK3, hc3, by omega⟩ _ _ Hg21 (am_fpT (fun k (hk : k < 69 ∨ 92 ≤ k) => fyfz22 k (by omega)) (am_fpU (show ¬ (69 < 69 ∨ 92 ≤ 69) by omega) (am_fpU (show ¬ (79 < 69 ∨ 92 ≤ 79) by omega) am_fp0)))
