theorem mr_N {o N M : Nat → Int32} {a : Nat → Nat → Int32} {h : am_H} (e : M = N) (F : MR o M a h) : MR o N a h := by
  subst e; exact F
set_option maxHeartbeats 4000000 in
set_option maxRecDepth 100000 in
theorem M_checkL {X : List Int32} {d rc rs n : Nat} {Q : am_Q} {fr c : Nat} {tb : TB} {tx : List Value} {lk : Nat → Int32} {wt : Nat → Int32} {K q : Nat} {v1 : Int32} (hK30 : K ≤ 30) (hq60 : q ≤ 60) : ∀ (m k : Nat), k + m = K → ∀ (NA o : Nat → Int32) (a : Nat → Nat → Int32) (h : am_H), MR o NA a h → TC tb tx lk NA c → RK NA fr c → o 4 = -1 → a 91 = wt → (∀ r9 k9 N9 o9 a9 h9, cI (r9 = q ∧ r9 = 2 * K) 0 (nI (1 + r9)) = ckM c fr q wt m k NA → r9 ≤ 60 → MR o9 N9 a9 h9 → olT o9 o → o9 4 = -1 → al3 a9 a → am_fp (fun k => k < 69 ∨ 92 ≤ k) h9 h → AW X mX8_check (d + 40) rc rs 180 [some (.ref 69), some (.int v1), some (.int (nI q)), some (.int (nI (2 * K))), some (.int (nI r9)), some (.int (nI k9))] [] n h9 Q) → AW X mX8_check (d + 40) rc rs 80 [some (.ref 69), some (.int v1), some (.int (nI q)), some (.int (nI (2 * K))), some (.int (nI (2 * k))), some (.int (nI k))] [] n h Q := by
  intro m
  induction m with
  | zero =>
    intro k hk NA o a h F hCA hKA ho4 hwt hq
    obtain rfl : k = K := by omega
    refine aw_iconst (npc := 81) (v := 2) (by decide) dX8_check_80 rfl ?_
    refine aw_iload (npc := 83) rfl dX8_check_81 rfl ?_
    refine aw_imulV (npc := 84) (v := nI (2 * k)) dX8_check_83 rfl (pk_mul 2 _) ?_
    refine aw_iload_n (npc := 85) rfl dX8_check_84 rfl ?_
    refine aw_icmp_ge (npc := 88) (tgt := 180) dX8_check_85 rfl (by decide) (fun _ => ?_) (fun hc => absurd (nI_le (a := 2 * k) (b := 2 * k) (by omega) (by omega)) hc)
    refine hq (2 * k) k _ _ _ _ ?_ (by omega) F olT_0 ho4 al3_0 am_fp0
    simp [ckM, cI, eq_comm]
  | succ m ih =>
    intro k hk NA o a h F hCA hKA ho4 hwt hq
    refine aw_iconst (npc := 81) (v := 2) (by decide) dX8_check_80 rfl ?_
    refine aw_iload (npc := 83) rfl dX8_check_81 rfl ?_
    refine aw_imulV (npc := 84) (v := nI (2 * k)) dX8_check_83 rfl (pk_mul 2 _) ?_
    refine aw_iload_n (npc := 85) rfl dX8_check_84 rfl ?_
    refine aw_icmp_ge (npc := 88) (tgt := 180) dX8_check_85 rfl (by decide) (fun hc => absurd hc (nI_ge (a := 2 * k) (b := 2 * K) (by omega) (by omega))) (fun _ => ?_)
    refine aw_iload (npc := 90) rfl dX8_check_88 rfl ?_
    refine aw_iconst (npc := 91) (v := 2) (by decide) dX8_check_90 rfl ?_
    refine aw_iload (npc := 93) rfl dX8_check_91 rfl ?_
    refine aw_imulV (npc := 94) (v := nI (2 * k)) dX8_check_93 rfl (pk_mul 2 _) ?_
    refine aw_icmp_ne (npc := 97) (tgt := 180) dX8_check_94 rfl (by decide) (fun hc => absurd (rfl) hc) (fun _ => ?_)
    refine aw_aload_n (npc := 98) rfl dX8_check_97 rfl ?_
    refine aw_callV (npc := 101) (N := mX8_post) (b := 69) (mc := 0) (ms := 0) (A := []) (S := []) (L0 := [some (.ref 69), none]) dX8_check_98 rfl km_X8_post kk_X8_157 F.1 ⟨by decide, rfl⟩ rfl ⟨rfl, by decide⟩ rfl (Nat.le_of_ble_eq_true rfl) (Nat.zero_add _) (Nat.zero_add _) rfl ?_
    have o4x := ho4
    refine m_post (c := c) (fr := fr) F (mi_rk hKA (tc_txm hCA)) (fun o9x3 N9x4 a9x5 h9x6 hrx7 Fx8 olx9 alx10 fzx11 => ?_)
    have eNx12 : N9x4 = goF c fr (-1) 1 NA := post_m hCA hKA (o4x ▸ hrx7)
    subst eNx12
    have o413 := ((olx9 4 (by decide)).trans o4x)
    have e91 : a9x5 91 = wt := ((al3_t alx10 al3_0) 91 (by decide) (by decide) (by decide)).trans hwt
    refine aw_iload (npc := 103) rfl dX8_check_101 rfl ?_
    refine aw_iload (npc := 105) rfl dX8_check_103 rfl ?_
    refine aw_iload_n (npc := 106) rfl dX8_check_105 rfl ?_
    refine aw_icmp_ge (npc := 109) (tgt := 127) dX8_check_106 rfl (by decide) (fun hc14 => ?_) (fun hc14 => ?_)
    · have hc14N := (nI_leI (a := q) (b := (2 * k)) (by omega) (by omega)).mp hc14
      refine aw_iconst (npc := 128) (v := 0) (by decide) dX8_check_127 rfl ?_
      refine aw_iaddV (npc := 129) (v := nI (2 * k)) dX8_check_128 rfl (Int32.add_zero _) ?_
      refine aw_istore (npc := 131) (L' := [some (.ref 69), some (.int v1), some (.int (nI q)), some (.int (nI (2 * K))), some (.int (nI (2 * k))), some (.int (nI k))]) dX8_check_129 rfl (by decide) rfl rfl ?_
      refine aw_iload (npc := 133) rfl dX8_check_131 rfl ?_
      refine aw_iload (npc := 135) rfl dX8_check_133 rfl ?_
      refine aw_iconst (npc := 136) (v := 2) (by decide) dX8_check_135 rfl ?_
      refine aw_iload (npc := 138) rfl dX8_check_136 rfl ?_
      refine aw_imulV (npc := 139) (v := nI (2 * k)) dX8_check_138 rfl (pk_mul 2 _) ?_
      refine aw_iconst (npc := 140) (v := 1) (by decide) dX8_check_139 rfl ?_
      refine aw_iaddV (npc := 141) (v := nI ((2 * k) + 1)) dX8_check_140 rfl (nI_add _ 1) ?_
      refine aw_icmp_ne (npc := 144) (tgt := 170) dX8_check_141 rfl (by decide) (fun _ => ?_) (fun hc => absurd hc (fun z9q => absurd ((nI_eq (a := (2 * k)) (b := ((2 * k) + 1)) (by omega) (by omega)).mp z9q) (by omega)))
      refine aw_iconst (npc := 171) (v := 0) (by decide) dX8_check_170 rfl ?_
      refine aw_iaddV (npc := 172) (v := nI (2 * k)) dX8_check_171 rfl (Int32.add_zero _) ?_
      refine aw_istore (npc := 174) (L' := [some (.ref 69), some (.int v1), some (.int (nI q)), some (.int (nI (2 * K))), some (.int (nI (2 * k))), some (.int (nI k))]) dX8_check_172 rfl (by decide) rfl rfl ?_
      refine aw_iinc (npc := 177) (v := nI (k + 1)) (L' := [some (.ref 69), some (.int v1), some (.int (nI q)), some (.int (nI (2 * K))), some (.int (nI (2 * k))), some (.int (nI (k + 1)))]) dX8_check_174 rfl rfl (nI_1 _) (by decide) rfl rfl ?_
      refine aw_goto (npc := 80) dX8_check_177 (by decide) ?_
      refine aw_iconst (npc := 81) (v := 2) (by decide) dX8_check_80 rfl ?_
      refine aw_iload (npc := 83) rfl dX8_check_81 rfl ?_
      refine aw_imulV (npc := 84) (v := nI (2 * (k + 1))) dX8_check_83 rfl (pk_mul 2 _) ?_
      refine aw_iload_n (npc := 85) rfl dX8_check_84 rfl ?_
      refine aw_icmp_ge (npc := 88) (tgt := 180) dX8_check_85 rfl (by decide) (fun hc16 => ?_) (fun hc16 => ?_)
      · have hc16N := (nI_leI (a := (2 * K)) (b := (2 * (k + 1))) (by omega) (by omega)).mp hc16
        refine hq (2 * k) (k + 1) _ _ _ _ ?_ (by omega) Fx8 (olT_t (olT_6 olx9) olT_0) o413 (al3_t alx10 al3_0) (am_fpT (fun k (hk : k < 69 ∨ 92 ≤ k) => fzx11 k (by omega)) am_fp0)
        rw [cI_f (show ¬ ((2 * k) = q ∧ (2 * k) = 2 * K) by omega)]
        simp [ckM, cI, hc14, hc14N, hc16, hc16N, Nat.not_lt.mpr hc14N, ← e91]
      · have hc16N : ¬ (2 * K) ≤ (2 * (k + 1)) := fun z9q => hc16 ((nI_leI (a := (2 * K)) (b := (2 * (k + 1))) (by omega) (by omega)).mpr z9q)
        refine aw_iload (npc := 90) rfl dX8_check_88 rfl ?_
        refine aw_iconst (npc := 91) (v := 2) (by decide) dX8_check_90 rfl ?_
        refine aw_iload (npc := 93) rfl dX8_check_91 rfl ?_
        refine aw_imulV (npc := 94) (v := nI (2 * (k + 1))) dX8_check_93 rfl (pk_mul 2 _) ?_
        refine aw_icmp_ne (npc := 97) (tgt := 180) dX8_check_94 rfl (by decide) (fun _ => ?_) (fun hc => absurd hc (fun z9q => absurd ((nI_eq (a := (2 * k)) (b := (2 * (k + 1))) (by omega) (by omega)).mp z9q) (by omega)))
        refine hq (2 * k) (k + 1) _ _ _ _ ?_ (by omega) Fx8 (olT_t (olT_6 olx9) olT_0) o413 (al3_t alx10 al3_0) (am_fpT (fun k (hk : k < 69 ∨ 92 ≤ k) => fzx11 k (by omega)) am_fp0)
        rw [cI_f (show ¬ ((2 * k) = q ∧ (2 * k) = 2 * K) by omega)]
        simp [ckM, cI, hc14, hc14N, hc16, hc16N, Nat.not_lt.mpr hc14N, ← e91]
    · have hc14N : ¬ q ≤ (2 * k) := fun z9q => hc14 ((nI_leI (a := q) (b := (2 * k)) (by omega) (by omega)).mpr z9q)
      refine aw_aload_n (npc := 110) rfl dX8_check_109 rfl ?_
      refine aw_get (npc := 113) dX8_check_110 rfl kf_X8_79 Fx8.1 rfl ?_
      refine aw_iload (npc := 115) rfl dX8_check_113 rfl ?_
      refine aw_iald (npc := 116) (x := (a9x5 91) (2 * k)) (j := (2 * k)) dX8_check_115 rfl Fx8.2.2.2.2.2.2.2.2.2.2.2.2.2.2.2.2.2.2.2.2.2.2 (am_ix_nI (by omega)) (tl_at (by omega)) ?_
      refine aw_aload_n (npc := 117) rfl dX8_check_116 rfl ?_
      refine aw_callV (npc := 120) (N := mX8_stands) (b := 69) (mc := 0) (ms := 0) (A := []) (S := [.int ((a9x5 91) (2 * k)), .int (nI (2 * k))]) (L0 := [some (.ref 69), none, none]) dX8_check_117 rfl km_X8_stands kk_X8_166 Fx8.1 ⟨by decide, rfl⟩ rfl ⟨rfl, by decide⟩ rfl (Nat.le_of_ble_eq_true rfl) (Nat.zero_add _) (Nat.zero_add _) rfl ?_
      refine m_stands Fx8 ?_
      refine aw_re (S' := [.int (snum (goF c fr (-1) 1 NA)), .int ((a9x5 91) (2 * k)), .int (nI (2 * k))]) rfl ?_
      refine aw_icmp_ne (npc := 123) (tgt := 127) dX8_check_120 rfl (by decide) (fun hc18 => ?_) (fun hc18 => ?_)
      · refine aw_iconst (npc := 128) (v := 0) (by decide) dX8_check_127 rfl ?_
        refine aw_iaddV (npc := 129) (v := nI (2 * k)) dX8_check_128 rfl (Int32.add_zero _) ?_
        refine aw_istore (npc := 131) (L' := [some (.ref 69), some (.int v1), some (.int (nI q)), some (.int (nI (2 * K))), some (.int (nI (2 * k))), some (.int (nI k))]) dX8_check_129 rfl (by decide) rfl rfl ?_
        refine aw_iload (npc := 133) rfl dX8_check_131 rfl ?_
        refine aw_iload (npc := 135) rfl dX8_check_133 rfl ?_
        refine aw_iconst (npc := 136) (v := 2) (by decide) dX8_check_135 rfl ?_
        refine aw_iload (npc := 138) rfl dX8_check_136 rfl ?_
        refine aw_imulV (npc := 139) (v := nI (2 * k)) dX8_check_138 rfl (pk_mul 2 _) ?_
        refine aw_iconst (npc := 140) (v := 1) (by decide) dX8_check_139 rfl ?_
        refine aw_iaddV (npc := 141) (v := nI ((2 * k) + 1)) dX8_check_140 rfl (nI_add _ 1) ?_
        refine aw_icmp_ne (npc := 144) (tgt := 170) dX8_check_141 rfl (by decide) (fun _ => ?_) (fun hc => absurd hc (fun z9q => absurd ((nI_eq (a := (2 * k)) (b := ((2 * k) + 1)) (by omega) (by omega)).mp z9q) (by omega)))
        refine aw_iconst (npc := 171) (v := 0) (by decide) dX8_check_170 rfl ?_
        refine aw_iaddV (npc := 172) (v := nI (2 * k)) dX8_check_171 rfl (Int32.add_zero _) ?_
        refine aw_istore (npc := 174) (L' := [some (.ref 69), some (.int v1), some (.int (nI q)), some (.int (nI (2 * K))), some (.int (nI (2 * k))), some (.int (nI k))]) dX8_check_172 rfl (by decide) rfl rfl ?_
        refine aw_iinc (npc := 177) (v := nI (k + 1)) (L' := [some (.ref 69), some (.int v1), some (.int (nI q)), some (.int (nI (2 * K))), some (.int (nI (2 * k))), some (.int (nI (k + 1)))]) dX8_check_174 rfl rfl (nI_1 _) (by decide) rfl rfl ?_
        refine aw_goto (npc := 80) dX8_check_177 (by decide) ?_
        refine aw_iconst (npc := 81) (v := 2) (by decide) dX8_check_80 rfl ?_
        refine aw_iload (npc := 83) rfl dX8_check_81 rfl ?_
        refine aw_imulV (npc := 84) (v := nI (2 * (k + 1))) dX8_check_83 rfl (pk_mul 2 _) ?_
        refine aw_iload_n (npc := 85) rfl dX8_check_84 rfl ?_
        refine aw_icmp_ge (npc := 88) (tgt := 180) dX8_check_85 rfl (by decide) (fun hc20 => ?_) (fun hc20 => ?_)
        · have hc20N := (nI_leI (a := (2 * K)) (b := (2 * (k + 1))) (by omega) (by omega)).mp hc20
          refine hq (2 * k) (k + 1) _ _ _ _ ?_ (by omega) Fx8 (olT_t (olT_6 olx9) olT_0) o413 (al3_t alx10 al3_0) (am_fpT (fun k (hk : k < 69 ∨ 92 ≤ k) => fzx11 k (by omega)) am_fp0)
          rw [cI_f (show ¬ ((2 * k) = q ∧ (2 * k) = 2 * K) by omega)]
          simp [ckM, cI, hc14, hc14N, hc18, hc20, hc20N, Nat.lt_of_not_le hc14N, ← e91]
        · have hc20N : ¬ (2 * K) ≤ (2 * (k + 1)) := fun z9q => hc20 ((nI_leI (a := (2 * K)) (b := (2 * (k + 1))) (by omega) (by omega)).mpr z9q)
          refine aw_iload (npc := 90) rfl dX8_check_88 rfl ?_
          refine aw_iconst (npc := 91) (v := 2) (by decide) dX8_check_90 rfl ?_
          refine aw_iload (npc := 93) rfl dX8_check_91 rfl ?_
          refine aw_imulV (npc := 94) (v := nI (2 * (k + 1))) dX8_check_93 rfl (pk_mul 2 _) ?_
          refine aw_icmp_ne (npc := 97) (tgt := 180) dX8_check_94 rfl (by decide) (fun _ => ?_) (fun hc => absurd hc (fun z9q => absurd ((nI_eq (a := (2 * k)) (b := (2 * (k + 1))) (by omega) (by omega)).mp z9q) (by omega)))
          refine hq (2 * k) (k + 1) _ _ _ _ ?_ (by omega) Fx8 (olT_t (olT_6 olx9) olT_0) o413 (al3_t alx10 al3_0) (am_fpT (fun k (hk : k < 69 ∨ 92 ≤ k) => fzx11 k (by omega)) am_fp0)
          rw [cI_f (show ¬ ((2 * k) = q ∧ (2 * k) = 2 * K) by omega)]
          simp [ckM, cI, hc14, hc14N, hc18, hc20, hc20N, Nat.lt_of_not_le hc14N, ← e91]
      · refine aw_iconst (npc := 124) (v := 1) (by decide) dX8_check_123 rfl ?_
        refine aw_goto (npc := 128) dX8_check_124 (by decide) ?_
        refine aw_iaddV (npc := 129) (v := nI ((2 * k) + 1)) dX8_check_128 rfl (nI_add _ 1) ?_
        refine aw_istore (npc := 131) (L' := [some (.ref 69), some (.int v1), some (.int (nI q)), some (.int (nI (2 * K))), some (.int (nI ((2 * k) + 1))), some (.int (nI k))]) dX8_check_129 rfl (by decide) rfl rfl ?_
        refine aw_iload (npc := 133) rfl dX8_check_131 rfl ?_
        refine aw_iload (npc := 135) rfl dX8_check_133 rfl ?_
        refine aw_iconst (npc := 136) (v := 2) (by decide) dX8_check_135 rfl ?_
        refine aw_iload (npc := 138) rfl dX8_check_136 rfl ?_
        refine aw_imulV (npc := 139) (v := nI (2 * k)) dX8_check_138 rfl (pk_mul 2 _) ?_
        refine aw_iconst (npc := 140) (v := 1) (by decide) dX8_check_139 rfl ?_
        refine aw_iaddV (npc := 141) (v := nI ((2 * k) + 1)) dX8_check_140 rfl (nI_add _ 1) ?_
        refine aw_icmp_ne (npc := 144) (tgt := 170) dX8_check_141 rfl (by decide) (fun hc => absurd (rfl) hc) (fun _ => ?_)
        refine aw_iload (npc := 146) rfl dX8_check_144 rfl ?_
        refine aw_iload_n (npc := 147) rfl dX8_check_146 rfl ?_
        refine aw_icmp_ge (npc := 150) (tgt := 170) dX8_check_147 rfl (by decide) (fun hc23 => ?_) (fun hc23 => ?_)
        · have hc23N := (nI_leI (a := q) (b := ((2 * k) + 1)) (by omega) (by omega)).mp hc23
          refine aw_iconst (npc := 171) (v := 0) (by decide) dX8_check_170 rfl ?_
          refine aw_iaddV (npc := 172) (v := nI ((2 * k) + 1)) dX8_check_171 rfl (Int32.add_zero _) ?_
          refine aw_istore (npc := 174) (L' := [some (.ref 69), some (.int v1), some (.int (nI q)), some (.int (nI (2 * K))), some (.int (nI ((2 * k) + 1))), some (.int (nI k))]) dX8_check_172 rfl (by decide) rfl rfl ?_
          refine aw_iinc (npc := 177) (v := nI (k + 1)) (L' := [some (.ref 69), some (.int v1), some (.int (nI q)), some (.int (nI (2 * K))), some (.int (nI ((2 * k) + 1))), some (.int (nI (k + 1)))]) dX8_check_174 rfl rfl (nI_1 _) (by decide) rfl rfl ?_
          refine aw_goto (npc := 80) dX8_check_177 (by decide) ?_
          refine aw_iconst (npc := 81) (v := 2) (by decide) dX8_check_80 rfl ?_
          refine aw_iload (npc := 83) rfl dX8_check_81 rfl ?_
          refine aw_imulV (npc := 84) (v := nI (2 * (k + 1))) dX8_check_83 rfl (pk_mul 2 _) ?_
          refine aw_iload_n (npc := 85) rfl dX8_check_84 rfl ?_
          refine aw_icmp_ge (npc := 88) (tgt := 180) dX8_check_85 rfl (by decide) (fun hc24 => ?_) (fun hc24 => ?_)
          · have hc24N := (nI_leI (a := (2 * K)) (b := (2 * (k + 1))) (by omega) (by omega)).mp hc24
            refine hq ((2 * k) + 1) (k + 1) _ _ _ _ ?_ (by omega) Fx8 (olT_t (olT_6 olx9) olT_0) o413 (al3_t alx10 al3_0) (am_fpT (fun k (hk : k < 69 ∨ 92 ≤ k) => fzx11 k (by omega)) am_fp0)
            rw [cI_f (show ¬ (((2 * k) + 1) = q ∧ ((2 * k) + 1) = 2 * K) by omega)]
            simp [ckM, cI, hc14, hc14N, hc18, hc23, hc23N, hc24, hc24N, Nat.lt_of_not_le hc14N, Nat.not_lt.mpr hc23N, ← e91]
          · have hc24N : ¬ (2 * K) ≤ (2 * (k + 1)) := fun z9q => hc24 ((nI_leI (a := (2 * K)) (b := (2 * (k + 1))) (by omega) (by omega)).mpr z9q)
            refine aw_iload (npc := 90) rfl dX8_check_88 rfl ?_
            refine aw_iconst (npc := 91) (v := 2) (by decide) dX8_check_90 rfl ?_
            refine aw_iload (npc := 93) rfl dX8_check_91 rfl ?_
            refine aw_imulV (npc := 94) (v := nI (2 * (k + 1))) dX8_check_93 rfl (pk_mul 2 _) ?_
            refine aw_icmp_ne (npc := 97) (tgt := 180) dX8_check_94 rfl (by decide) (fun _ => ?_) (fun hc => absurd hc (fun z9q => absurd ((nI_eq (a := ((2 * k) + 1)) (b := (2 * (k + 1))) (by omega) (by omega)).mp z9q) (by omega)))
            refine hq ((2 * k) + 1) (k + 1) _ _ _ _ ?_ (by omega) Fx8 (olT_t (olT_6 olx9) olT_0) o413 (al3_t alx10 al3_0) (am_fpT (fun k (hk : k < 69 ∨ 92 ≤ k) => fzx11 k (by omega)) am_fp0)
            rw [cI_f (show ¬ (((2 * k) + 1) = q ∧ ((2 * k) + 1) = 2 * K) by omega)]
            simp [ckM, cI, hc14, hc14N, hc18, hc23, hc23N, hc24, hc24N, Nat.lt_of_not_le hc14N, Nat.not_lt.mpr hc23N, ← e91]
        · have hc23N : ¬ q ≤ ((2 * k) + 1) := fun z9q => hc23 ((nI_leI (a := q) (b := ((2 * k) + 1)) (by omega) (by omega)).mpr z9q)
          refine aw_aload_n (npc := 151) rfl dX8_check_150 rfl ?_
          refine aw_get (npc := 154) dX8_check_151 rfl kf_X8_79 Fx8.1 rfl ?_
          refine aw_iload (npc := 156) rfl dX8_check_154 rfl ?_
          refine aw_iald (npc := 157) (x := (a9x5 91) ((2 * k) + 1)) (j := ((2 * k) + 1)) dX8_check_156 rfl Fx8.2.2.2.2.2.2.2.2.2.2.2.2.2.2.2.2.2.2.2.2.2.2 (am_ix_nI (by omega)) (tl_at (by omega)) ?_
          refine aw_aload_n (npc := 158) rfl dX8_check_157 rfl ?_
          refine aw_get (npc := 161) dX8_check_158 rfl kf_X8_9 Fx8.1 rfl ?_
          refine aw_iconst (npc := 162) (v := 3) (by decide) dX8_check_161 rfl ?_
          refine aw_iald (npc := 163) (x := (goF c fr (-1) 1 NA) 3) (j := 3) dX8_check_162 rfl Fx8.2.1 ⟨by decide, by decide⟩ (tl_at (by omega)) ?_
          refine aw_icmp_ne (npc := 166) (tgt := 170) dX8_check_163 rfl (by decide) (fun hc26 => ?_) (fun hc26 => ?_)
          · refine aw_iconst (npc := 171) (v := 0) (by decide) dX8_check_170 rfl ?_
            refine aw_iaddV (npc := 172) (v := nI ((2 * k) + 1)) dX8_check_171 rfl (Int32.add_zero _) ?_
            refine aw_istore (npc := 174) (L' := [some (.ref 69), some (.int v1), some (.int (nI q)), some (.int (nI (2 * K))), some (.int (nI ((2 * k) + 1))), some (.int (nI k))]) dX8_check_172 rfl (by decide) rfl rfl ?_
            refine aw_iinc (npc := 177) (v := nI (k + 1)) (L' := [some (.ref 69), some (.int v1), some (.int (nI q)), some (.int (nI (2 * K))), some (.int (nI ((2 * k) + 1))), some (.int (nI (k + 1)))]) dX8_check_174 rfl rfl (nI_1 _) (by decide) rfl rfl ?_
            refine aw_goto (npc := 80) dX8_check_177 (by decide) ?_
            refine aw_iconst (npc := 81) (v := 2) (by decide) dX8_check_80 rfl ?_
            refine aw_iload (npc := 83) rfl dX8_check_81 rfl ?_
            refine aw_imulV (npc := 84) (v := nI (2 * (k + 1))) dX8_check_83 rfl (pk_mul 2 _) ?_
            refine aw_iload_n (npc := 85) rfl dX8_check_84 rfl ?_
            refine aw_icmp_ge (npc := 88) (tgt := 180) dX8_check_85 rfl (by decide) (fun hc27 => ?_) (fun hc27 => ?_)
            · have hc27N := (nI_leI (a := (2 * K)) (b := (2 * (k + 1))) (by omega) (by omega)).mp hc27
              refine hq ((2 * k) + 1) (k + 1) _ _ _ _ ?_ (by omega) Fx8 (olT_t (olT_6 olx9) olT_0) o413 (al3_t alx10 al3_0) (am_fpT (fun k (hk : k < 69 ∨ 92 ≤ k) => fzx11 k (by omega)) am_fp0)
              rw [cI_f (show ¬ (((2 * k) + 1) = q ∧ ((2 * k) + 1) = 2 * K) by omega)]
              simp [ckM, cI, hc14, hc14N, hc18, hc23, hc23N, hc26, hc27, hc27N, Nat.lt_of_not_le hc14N, Nat.lt_of_not_le hc23N, ← e91]
            · have hc27N : ¬ (2 * K) ≤ (2 * (k + 1)) := fun z9q => hc27 ((nI_leI (a := (2 * K)) (b := (2 * (k + 1))) (by omega) (by omega)).mpr z9q)
              refine aw_iload (npc := 90) rfl dX8_check_88 rfl ?_
              refine aw_iconst (npc := 91) (v := 2) (by decide) dX8_check_90 rfl ?_
              refine aw_iload (npc := 93) rfl dX8_check_91 rfl ?_
              refine aw_imulV (npc := 94) (v := nI (2 * (k + 1))) dX8_check_93 rfl (pk_mul 2 _) ?_
              refine aw_icmp_ne (npc := 97) (tgt := 180) dX8_check_94 rfl (by decide) (fun _ => ?_) (fun hc => absurd hc (fun z9q => absurd ((nI_eq (a := ((2 * k) + 1)) (b := (2 * (k + 1))) (by omega) (by omega)).mp z9q) (by omega)))
              refine hq ((2 * k) + 1) (k + 1) _ _ _ _ ?_ (by omega) Fx8 (olT_t (olT_6 olx9) olT_0) o413 (al3_t alx10 al3_0) (am_fpT (fun k (hk : k < 69 ∨ 92 ≤ k) => fzx11 k (by omega)) am_fp0)
              rw [cI_f (show ¬ (((2 * k) + 1) = q ∧ ((2 * k) + 1) = 2 * K) by omega)]
              simp [ckM, cI, hc14, hc14N, hc18, hc23, hc23N, hc26, hc27, hc27N, Nat.lt_of_not_le hc14N, Nat.lt_of_not_le hc23N, ← e91]
          · refine aw_iconst (npc := 167) (v := 1) (by decide) dX8_check_166 rfl ?_
            refine aw_goto (npc := 171) dX8_check_167 (by decide) ?_
            refine aw_iaddV (npc := 172) (v := nI (((2 * k) + 1) + 1)) dX8_check_171 rfl (nI_add _ 1) ?_
            refine aw_istore (npc := 174) (L' := [some (.ref 69), some (.int v1), some (.int (nI q)), some (.int (nI (2 * K))), some (.int (nI (((2 * k) + 1) + 1))), some (.int (nI k))]) dX8_check_172 rfl (by decide) rfl rfl ?_
            refine aw_iinc (npc := 177) (v := nI (k + 1)) (L' := [some (.ref 69), some (.int v1), some (.int (nI q)), some (.int (nI (2 * K))), some (.int (nI (((2 * k) + 1) + 1))), some (.int (nI (k + 1)))]) dX8_check_174 rfl rfl (nI_1 _) (by decide) rfl rfl ?_
            refine aw_goto (npc := 80) dX8_check_177 (by decide) ?_
            refine aw_locs (L' := [some (.ref 69), some (.int v1), some (.int (nI q)), some (.int (nI (2 * K))), some (.int (nI (2 * (k + 1)))), some (.int (nI (k + 1)))]) rfl ?_
            refine ih (k + 1) (by omega) _ _ _ _ Fx8 (tc_go hKA.2.1 hCA) (rk_go _ _ hKA) o413 e91 (fun r9 k9 N9 o9 a9 h9 e9 l9 F9 ol9 o49 al9 f9 => hq r9 k9 N9 o9 a9 h9 (e9.trans ?_) l9 F9 (olT_t ol9 (olT_t (olT_6 olx9) olT_0)) o49 (al3_t al9 (al3_t alx10 al3_0)) (am_fpT f9 (am_fpT (fun k (hk : k < 69 ∨ 92 ≤ k) => fzx11 k (by omega)) am_fp0)))
            simp [ckM, cI, hc14, hc14N, hc18, hc23, hc23N, hc26, Nat.lt_of_not_le hc14N, Nat.lt_of_not_le hc23N, ← e91]
set_option maxHeartbeats 4000000 in
set_option maxRecDepth 100000 in
theorem M_check {X : List Int32} {d rc rs n : Nat} {Q : am_Q} {h : am_H} {o N : Nat → Int32} {a : Nat → Nat → Int32} {fr c : Nat} {v : Int32} {q : Nat} {tb : TB} {tx : List Value} {lk : Nat → Int32} (F : MR o N a h) (hq35 : o 35 = nI q) (hq60 : q ≤ 60) (ho4 : o 4 = -1) (hIm : ¬ o 3 = 0 → RG (a 71) fr c ∧ TC tb tx lk (a 71) c) (hq : ∀ v9 o9 a9 h9, v9 = ckV c fr q (a 91) (a 71) (o 3) v → MR o9 N a9 h9 → o9 35 = 0 → (∀ k, k ≠ 6 → k ≠ 35 → o9 k = o k) → (∀ k, k ≠ 72 → k ≠ 73 → k ≠ 81 → k ≠ 82 → a9 k = a k) → am_fp (fun k => k < 69 ∨ 92 ≤ k) h9 h → Q (some (.int v9)) n h9) : AW X mX8_check (d + 41) rc rs 0 [some (.ref 69), some (.int v), none, none, none, none] [] n h Q := by
  refine aw_aload_n (npc := 1) rfl dX8_check_0 rfl ?_
  refine aw_get (npc := 4) dX8_check_1 rfl kf_X8_266 F.1 rfl ?_
  refine aw_top (y := nI q) (hq35) ?_
  refine aw_istore_n (npc := 5) (L' := [some (.ref 69), some (.int v), some (.int (nI q)), none, none, none]) dX8_check_4 rfl (by decide) rfl rfl ?_
  refine aw_aload_n (npc := 6) rfl dX8_check_5 rfl ?_
  refine aw_iconst (npc := 7) (v := 0) (by decide) dX8_check_6 rfl ?_
  refine aw_put (npc := 10) dX8_check_7 rfl kf_X8_266 F.1 (Nat.le_of_ble_eq_true rfl) (am_ok_int _) rfl ?_
  have F1 := mr_o35 (v := 0) F
  refine aw_iload_n (npc := 11) rfl dX8_check_10 rfl ?_
  refine aw_iconst (npc := 12) (v := 1) (by decide) dX8_check_11 rfl ?_
  refine aw_bipush (npc := 14) (v := 30) (by decide) dX8_check_12 rfl ?_
  refine aw_callS (npc := 17) (N := mX8_in) (mc := 0) (ms := 0) (A := [.int v, .int 1, .int 30]) (S := []) (L0 := [some (.int v), some (.int 1), some (.int 30)]) dX8_check_14 rfl km_X8_in kk_X8_83 rfl ⟨rfl, by decide⟩ rfl (Nat.le_of_ble_eq_true rfl) (Nat.zero_add _) (Nat.zero_add _) rfl ?_
  refine c_X8_in (fun hw2 => ?_) (fun hw2 => ?_)
  · obtain ⟨vn, hvn, evn⟩ := wi_nI (H := 30) (by decide) (by decide) hw2
    subst evn
    have fvn : fN (nI vn) = vn := fN_nI (by omega)
    refine aw_re (S' := [.int 1]) rfl ?_
    refine aw_if_ne (npc := 20) (tgt := 23) dX8_check_17 rfl (by decide) (fun _ => ?_) (fun hc => absurd hc (by decide))
    refine aw_aload_n (npc := 24) rfl dX8_check_23 rfl ?_
    refine aw_get (npc := 27) dX8_check_24 rfl kf_X8_269 F1.1 rfl ?_
    refine aw_top (y := o 3) ((pk_un (by omega))) ?_
    refine aw_if_ne (npc := 30) (tgt := 34) dX8_check_27 rfl (by decide) (fun hc3 => ?_) (fun hc3 => ?_)
    · obtain ⟨hRI, hCI⟩ := hIm hc3
      have hKI := rg_rk hRI
      obtain ⟨pp, hpp, epp⟩ := wi_nI (H := 9999) (by decide) (by decide) hRI.2.2.2.2.2.2.2.2.1
      have fpp : fN (nI pp) = pp := fN_nI (by omega)
      refine aw_aload_n (npc := 35) rfl dX8_check_34 rfl ?_
      refine aw_get (npc := 38) dX8_check_35 rfl kf_X8_9 F1.1 rfl ?_
      refine aw_aload_n (npc := 39) rfl dX8_check_38 rfl ?_
      refine aw_get (npc := 42) dX8_check_39 rfl kf_X8_16 F1.1 rfl ?_
      refine aw_callS (npc := 45) (N := mX8_copyAll) (mc := 0) (ms := 0) (A := [.ref 70, .ref 72]) (S := []) (L0 := [some (.ref 70), some (.ref 72), none]) dX8_check_42 rfl km_X8_copyAll kk_X8_273 rfl ⟨rfl, by decide⟩ rfl (Nat.le_of_ble_eq_true rfl) (Nat.zero_add _) (Nat.zero_add _) rfl ?_
      refine m_copyAll (by decide) F1.2.1 F1.2.2.2.1 ?_
      have Fc4 := mr_all72 (f := N) F1
      refine aw_aload_n (npc := 46) rfl dX8_check_45 rfl ?_
      refine aw_get (npc := 49) dX8_check_46 rfl kf_X8_13 Fc4.1 rfl ?_
      refine aw_aload_n (npc := 50) rfl dX8_check_49 rfl ?_
      refine aw_get (npc := 53) dX8_check_50 rfl kf_X8_9 Fc4.1 rfl ?_
      refine aw_callS (npc := 56) (N := mX8_copyAll) (mc := 0) (ms := 0) (A := [.ref 71, .ref 70]) (S := []) (L0 := [some (.ref 71), some (.ref 70), none]) dX8_check_53 rfl km_X8_copyAll kk_X8_273 rfl ⟨rfl, by decide⟩ rfl (Nat.le_of_ble_eq_true rfl) (Nat.zero_add _) (Nat.zero_add _) rfl ?_
      refine m_copyAll (by decide) Fc4.2.2.1 Fc4.2.1 ?_
      have Fc5 := mr_all70 (f := (aset a 72 N) 71) Fc4
      have Fd6 : MR (upd o 35 0) (a 71) (aset a 72 N) _ := Fc5
      refine aw_iconst (npc := 57) (v := 2) (by decide) dX8_check_56 rfl ?_
      refine aw_sipush (npc := 60) (v := 9999) (by decide) dX8_check_57 rfl ?_
      refine aw_aload_n (npc := 61) rfl dX8_check_60 rfl ?_
      refine aw_get (npc := 64) dX8_check_61 rfl kf_X8_9 Fd6.1 rfl ?_
      refine aw_iconst (npc := 65) (v := 2) (by decide) dX8_check_64 rfl ?_
      refine aw_iald (npc := 66) (x := (a 71) 2) (j := 2) dX8_check_65 rfl Fd6.2.1 ⟨by decide, by decide⟩ (tl_at (by omega)) ?_
      refine aw_top (y := nI pp) (epp) ?_
      refine aw_isubV (npc := 67) (v := nI (9999 - pp)) dX8_check_66 rfl (pk_sub (a := 9999) (by omega)) ?_
      refine aw_iconst (npc := 68) (v := 0) (by decide) dX8_check_67 rfl ?_
      refine aw_iload_n (npc := 69) rfl dX8_check_68 rfl ?_
      refine aw_callS (npc := 72) (N := mX8_within) (mc := 0) (ms := 0) (A := [.int (nI (9999 - pp)), .int 0, .int (nI vn)]) (S := [.int 2]) (L0 := [some (.int (nI (9999 - pp))), some (.int 0), some (.int (nI vn))]) dX8_check_69 rfl km_X8_within kk_X8_108 rfl ⟨rfl, by decide⟩ rfl (Nat.le_of_ble_eq_true rfl) (Nat.zero_add _) (Nat.zero_add _) rfl ?_
      refine m_within ?_
      refine aw_re (S' := [.int (wn (nI (9999 - pp)) 0 (nI vn)), .int 2]) rfl ?_
      refine aw_top (y := nI (min vn (9999 - pp))) (wn_min (by omega) (by omega)) ?_
      refine aw_imulV (npc := 73) (v := nI (2 * (min vn (9999 - pp)))) dX8_check_72 rfl (pk_mul 2 _) ?_
      refine aw_istore_n (npc := 74) (L' := [some (.ref 69), some (.int (nI vn)), some (.int (nI q)), some (.int (nI (2 * (min vn (9999 - pp))))), none, none]) dX8_check_73 rfl (by decide) rfl rfl ?_
      refine aw_iconst (npc := 75) (v := 0) (by decide) dX8_check_74 rfl ?_
      refine aw_istore (npc := 77) (L' := [some (.ref 69), some (.int (nI vn)), some (.int (nI q)), some (.int (nI (2 * (min vn (9999 - pp))))), some (.int 0), none]) dX8_check_75 rfl (by decide) rfl rfl ?_
      refine aw_iconst (npc := 78) (v := 0) (by decide) dX8_check_77 rfl ?_
      refine aw_istore (npc := 80) (L' := [some (.ref 69), some (.int (nI vn)), some (.int (nI q)), some (.int (nI (2 * (min vn (9999 - pp))))), some (.int 0), some (.int 0)]) dX8_check_78 rfl (by decide) rfl rfl ?_
      refine aw_locs (L' := [some (.ref 69), some (.int (nI vn)), some (.int (nI q)), some (.int (nI (2 * min vn (9999 - pp)))), some (.int (nI (2 * 0))), some (.int (nI 0))]) rfl ?_
      refine M_checkL (K := min vn (9999 - pp)) (wt := a 91) (by omega) hq60 _ 0 (Nat.zero_add _) _ _ _ _ Fd6 hCI hKI ho4 (aset_n (by decide)) (fun r9 k9 N9 o9 a9 h9 e9 l9 F9 ol9 o49 al9 f9 => ?_)
      have e72 : a9 72 = N := (al9 72 (by decide) (by decide) (by decide)).trans aset_s
      refine aw_aload_n (npc := 181) rfl dX8_check_180 rfl ?_
      refine aw_get (npc := 184) dX8_check_181 rfl kf_X8_16 F9.1 rfl ?_
      refine aw_aload_n (npc := 185) rfl dX8_check_184 rfl ?_
      refine aw_get (npc := 188) dX8_check_185 rfl kf_X8_9 F9.1 rfl ?_
      refine aw_callS (npc := 191) (N := mX8_copyAll) (mc := 0) (ms := 0) (A := [.ref 72, .ref 70]) (S := []) (L0 := [some (.ref 72), some (.ref 70), none]) dX8_check_188 rfl km_X8_copyAll kk_X8_273 rfl ⟨rfl, by decide⟩ rfl (Nat.le_of_ble_eq_true rfl) (Nat.zero_add _) (Nat.zero_add _) rfl ?_
      refine m_copyAll (by decide) F9.2.2.2.1 F9.2.1 ?_
      have Fc7 := mr_all70 (f := a9 72) F9
      have Fe8 : MR o9 N a9 _ := mr_N e72 Fc7
      refine aw_iload (npc := 193) rfl dX8_check_191 rfl ?_
      refine aw_iload_n (npc := 194) rfl dX8_check_193 rfl ?_
      refine aw_icmp_ne (npc := 197) (tgt := 207) dX8_check_194 rfl (by decide) (fun hc9 => ?_) (fun hc9 => ?_)
      · have hc9N : ¬ r9 = q := fun z9q => hc9 ((nI_eq (a := r9) (b := q) (by omega) (by omega)).mpr z9q)
        refine aw_iconst (npc := 208) (v := 1) (by decide) dX8_check_207 rfl ?_
        refine aw_iload (npc := 210) rfl dX8_check_208 rfl ?_
        refine aw_iaddV (npc := 211) (v := nI (1 + r9)) dX8_check_210 rfl (nI_add 1 _) ?_
        refine aw_iret rfl dX8_check_211 ?_
        have ev : (nI (1 + r9)) = ckM c fr q (a 91) (min vn (9999 - pp)) 0 (a 71) := (cI_f (fun z => hc9N z.1)).symm.trans e9
        exact hq _ _ _ _ (by rw [ev]; simp [ckV, cI, hw2, hc3, hc9, hc9N, fvn, epp, fpp]) Fe8 ((ol9 35 (by decide) (by decide)).trans pk_us) (fun k h6 h35 => by
          by_cases q4 : k = 4
          · subst q4; exact o49.trans ho4.symm
          · exact (ol9 k q4 h6).trans (pk_un h35)) (fun k h72 h73 h81 h82 => (al9 k h73 h81 h82).trans (aset_n h72)) (am_fpU (show ¬ (70 < 69 ∨ 92 ≤ 70) by omega) (am_fpT f9 (am_fpU (show ¬ (70 < 69 ∨ 92 ≤ 70) by omega) (am_fpU (show ¬ (72 < 69 ∨ 92 ≤ 72) by omega) (am_fpU (show ¬ (69 < 69 ∨ 92 ≤ 69) by omega) am_fp0)))))
      · have hc9N := (nI_eq (a := r9) (b := q) (by omega) (by omega)).mp hc9
        refine aw_iload (npc := 199) rfl dX8_check_197 rfl ?_
        refine aw_iload_n (npc := 200) rfl dX8_check_199 rfl ?_
        refine aw_icmp_ne (npc := 203) (tgt := 207) dX8_check_200 rfl (by decide) (fun hc10 => ?_) (fun hc10 => ?_)
        · have hc10N : ¬ r9 = (2 * min vn (9999 - pp)) := fun z9q => hc10 ((nI_eq (a := r9) (b := (2 * min vn (9999 - pp))) (by omega) (by omega)).mpr z9q)
          refine aw_iconst (npc := 208) (v := 1) (by decide) dX8_check_207 rfl ?_
          refine aw_iload (npc := 210) rfl dX8_check_208 rfl ?_
          refine aw_iaddV (npc := 211) (v := nI (1 + r9)) dX8_check_210 rfl (nI_add 1 _) ?_
          refine aw_iret rfl dX8_check_211 ?_
          have ev : (nI (1 + r9)) = ckM c fr q (a 91) (min vn (9999 - pp)) 0 (a 71) := (cI_f (fun z => hc10N z.2)).symm.trans e9
          exact hq _ _ _ _ (by rw [ev]; simp [ckV, cI, hw2, hc3, hc9, hc9N, hc10, hc10N, fvn, epp, fpp]) Fe8 ((ol9 35 (by decide) (by decide)).trans pk_us) (fun k h6 h35 => by
            by_cases q4 : k = 4
            · subst q4; exact o49.trans ho4.symm
            · exact (ol9 k q4 h6).trans (pk_un h35)) (fun k h72 h73 h81 h82 => (al9 k h73 h81 h82).trans (aset_n h72)) (am_fpU (show ¬ (70 < 69 ∨ 92 ≤ 70) by omega) (am_fpT f9 (am_fpU (show ¬ (70 < 69 ∨ 92 ≤ 70) by omega) (am_fpU (show ¬ (72 < 69 ∨ 92 ≤ 72) by omega) (am_fpU (show ¬ (69 < 69 ∨ 92 ≤ 69) by omega) am_fp0)))))
        · have hc10N := (nI_eq (a := r9) (b := (2 * min vn (9999 - pp))) (by omega) (by omega)).mp hc10
          refine aw_iconst (npc := 204) (v := 0) (by decide) dX8_check_203 rfl ?_
          refine aw_goto (npc := 211) dX8_check_204 (by decide) ?_
          refine aw_iret rfl dX8_check_211 ?_
          have ev : 0 = ckM c fr q (a 91) (min vn (9999 - pp)) 0 (a 71) := (cI_t ⟨hc9N, hc10N⟩).symm.trans e9
          exact hq _ _ _ _ (by rw [ev]; simp [ckV, cI, hw2, hc3, hc9, hc9N, hc10, hc10N, fvn, epp, fpp]) Fe8 ((ol9 35 (by decide) (by decide)).trans pk_us) (fun k h6 h35 => by
            by_cases q4 : k = 4
            · subst q4; exact o49.trans ho4.symm
            · exact (ol9 k q4 h6).trans (pk_un h35)) (fun k h72 h73 h81 h82 => (al9 k h73 h81 h82).trans (aset_n h72)) (am_fpU (show ¬ (70 < 69 ∨ 92 ≤ 70) by omega) (am_fpT f9 (am_fpU (show ¬ (70 < 69 ∨ 92 ≤ 70) by omega) (am_fpU (show ¬ (72 < 69 ∨ 92 ≤ 72) by omega) (am_fpU (show ¬ (69 < 69 ∨ 92 ≤ 69) by omega) am_fp0)))))
    · refine aw_ldcw (npc := 33) kc_X8_265 dX8_check_30 rfl ?_
      refine aw_iret rfl dX8_check_33 ?_
      exact hq _ _ _ _ (by simp [ckV, cI, hw2, hc3, fvn]) F1 pk_us (fun k _ h35 => pk_un h35) (fun _ _ _ _ _ => rfl) (am_fpU (show ¬ (69 < 69 ∨ 92 ≤ 69) by omega) am_fp0)
  · refine aw_re (S' := [.int 0]) rfl ?_
    refine aw_if_ne (npc := 20) (tgt := 23) dX8_check_17 rfl (by decide) (fun hc => absurd (by decide) hc) (fun _ => ?_)
    refine aw_ldc (npc := 22) kc_X8_91 dX8_check_20 rfl ?_
    refine aw_iret rfl dX8_check_22 ?_
    exact hq _ _ _ _ (by simp [ckV, cI, hw2]) F1 pk_us (fun k _ h35 => pk_un h35) (fun _ _ _ _ _ => rfl) (am_fpU (show ¬ (69 < 69 ∨ 92 ≤ 69) by omega) am_fp0)
set_option maxHeartbeats 4000000 in
set_option maxRecDepth 100000 in
theorem M_offL {X : List Int32} {d rc rs n : Nat} {Q : am_Q} {o NA : Nat → Int32} {a : Nat → Nat → Int32} {h : am_H} {s e t z : Nat} (hs : s < 4) (hz : z ≤ 24) (F : MR o NA a h) (ez : a 84 s = nI z) (hq : ∀ (sm : Int64) (v6 v7 v8 v9 : Option Value), AW X mX8_offBy (d + 40) rc rs 114 [some (.ref 69), some (.int (nI s)), some (.int (nI e)), some (.int (nI t)), some (.long sm), none, v6, v7, v8, v9] [] n h Q) : ∀ (m k : Nat), k + m = z → ∀ (sm : Int64) (v7 v8 v9 : Option Value), AW X mX8_offBy (d + 40) rc rs 25 [some (.ref 69), some (.int (nI s)), some (.int (nI e)), some (.int (nI t)), some (.long sm), none, some (.int (nI k)), v7, v8, v9] [] n h Q := by
  intro m
  induction m with
  | zero =>
    intro k hk sm v7 v8 v9
    obtain rfl : k = z := by omega
    refine aw_iload (npc := 27) rfl dX8_offBy_25 rfl ?_
    refine aw_aload_n (npc := 28) rfl dX8_offBy_27 rfl ?_
    refine aw_get (npc := 31) dX8_offBy_28 rfl kf_X8_58 F.1 rfl ?_
    refine aw_iload_n (npc := 32) rfl dX8_offBy_31 rfl ?_
    refine aw_iald (npc := 33) (x := (a 84) s) (j := s) dX8_offBy_32 rfl F.2.2.2.2.2.2.2.2.2.2.2.2.2.2.2.1 (am_ix_nI (by omega)) (tl_at (by omega)) ?_
    refine aw_top (y := nI k) (ez) ?_
    refine aw_icmp_ge (npc := 36) (tgt := 114) dX8_offBy_33 rfl (by decide) (fun _ => ?_) (fun hc => absurd (nI_le (a := k) (b := k) (by omega) (by omega)) hc)
    exact hq _ _ _ _ _
  | succ m ih =>
    intro k hk sm v7 v8 v9
    refine aw_iload (npc := 27) rfl dX8_offBy_25 rfl ?_
    refine aw_aload_n (npc := 28) rfl dX8_offBy_27 rfl ?_
    refine aw_get (npc := 31) dX8_offBy_28 rfl kf_X8_58 F.1 rfl ?_
    refine aw_iload_n (npc := 32) rfl dX8_offBy_31 rfl ?_
    refine aw_iald (npc := 33) (x := (a 84) s) (j := s) dX8_offBy_32 rfl F.2.2.2.2.2.2.2.2.2.2.2.2.2.2.2.1 (am_ix_nI (by omega)) (tl_at (by omega)) ?_
    refine aw_top (y := nI z) (ez) ?_
    refine aw_icmp_ge (npc := 36) (tgt := 114) dX8_offBy_33 rfl (by decide) (fun hc => absurd hc (nI_ge (a := k) (b := z) (by omega) (by omega))) (fun _ => ?_)
    refine aw_aload_n (npc := 37) rfl dX8_offBy_36 rfl ?_
    refine aw_get (npc := 40) dX8_offBy_37 rfl kf_X8_61 F.1 rfl ?_
    refine aw_bipush (npc := 42) (v := 24) (by decide) dX8_offBy_40 rfl ?_
    refine aw_iload_n (npc := 43) rfl dX8_offBy_42 rfl ?_
    refine aw_imulV (npc := 44) (v := nI (24 * s)) dX8_offBy_43 rfl (pk_mul 24 _) ?_
    refine aw_iload (npc := 46) rfl dX8_offBy_44 rfl ?_
    refine aw_iaddV (npc := 47) (v := nI ((24 * s) + k)) dX8_offBy_46 rfl (nI_add _ _) ?_
    refine aw_iald (npc := 48) (x := (a 85) ((24 * s) + k)) (j := ((24 * s) + k)) dX8_offBy_47 rfl F.2.2.2.2.2.2.2.2.2.2.2.2.2.2.2.2.1 (am_ix_nI (by omega)) (tl_at (by omega)) ?_
    refine aw_istore (npc := 50) (L' := [some (.ref 69), some (.int (nI s)), some (.int (nI e)), some (.int (nI t)), some (.long sm), none, some (.int (nI k)), some (.int ((a 85) ((24 * s) + k))), v8, v9]) dX8_offBy_48 rfl (by decide) rfl rfl ?_
    refine aw_iload (npc := 52) rfl dX8_offBy_50 rfl ?_
    refine aw_i2l (npc := 53) dX8_offBy_52 rfl ?_
    refine aw_iload (npc := 55) rfl dX8_offBy_53 rfl ?_
    refine aw_iconst (npc := 56) (v := 4) (by decide) dX8_offBy_55 rfl ?_
    refine aw_icmp_ge (npc := 59) (tgt := 72) dX8_offBy_56 rfl (by decide) (fun hc2 => ?_) (fun hc2 => ?_)
    · have hc2N := (nI_leI (a := 4) (b := k) (by omega) (by omega)).mp hc2
      refine aw_iconst (npc := 73) (v := 0) (by decide) dX8_offBy_72 rfl ?_
      refine aw_i2l (npc := 74) dX8_offBy_73 rfl ?_
      refine aw_lsub (npc := 75) dX8_offBy_74 rfl ?_
      refine aw_lstore (npc := 77) (L' := [some (.ref 69), some (.int (nI s)), some (.int (nI e)), some (.int (nI t)), some (.long sm), none, some (.int (nI k)), some (.int ((a 85) ((24 * s) + k))), some (.long ((((a 85) ((24 * s) + k)).toInt64) - ((0 : Int32).toInt64))), none]) dX8_offBy_75 rfl (by decide) rfl rfl ?_
      refine aw_lload (npc := 79) rfl dX8_offBy_77 rfl ?_
      refine aw_iload (npc := 81) rfl dX8_offBy_79 rfl ?_
      refine aw_ldc (npc := 83) kc_X8_82 dX8_offBy_81 rfl ?_
      refine aw_icmp_ne (npc := 86) (tgt := 90) dX8_offBy_83 rfl (by decide) (fun hc3 => ?_) (fun hc3 => ?_)
      · refine aw_lload (npc := 92) rfl dX8_offBy_90 rfl ?_
        refine aw_lconst (npc := 93) (v := 0) (by decide) dX8_offBy_92 rfl ?_
        refine aw_lcmp (npc := 94) dX8_offBy_93 rfl ?_
        refine aw_if_ge (npc := 97) (tgt := 103) dX8_offBy_94 rfl (by decide) (fun hc4 => ?_) (fun hc4 => ?_)
        · refine aw_lload (npc := 105) rfl dX8_offBy_103 rfl ?_
          refine aw_ladd (npc := 106) dX8_offBy_105 rfl ?_
          refine aw_lstore (npc := 108) (L' := [some (.ref 69), some (.int (nI s)), some (.int (nI e)), some (.int (nI t)), some (.long (sm + ((((a 85) ((24 * s) + k)).toInt64) - ((0 : Int32).toInt64)))), none, some (.int (nI k)), some (.int ((a 85) ((24 * s) + k))), some (.long ((((a 85) ((24 * s) + k)).toInt64) - ((0 : Int32).toInt64))), none]) dX8_offBy_106 rfl (by decide) rfl rfl ?_
          refine aw_iinc (npc := 111) (v := nI (k + 1)) (L' := [some (.ref 69), some (.int (nI s)), some (.int (nI e)), some (.int (nI t)), some (.long (sm + ((((a 85) ((24 * s) + k)).toInt64) - ((0 : Int32).toInt64)))), none, some (.int (nI (k + 1))), some (.int ((a 85) ((24 * s) + k))), some (.long ((((a 85) ((24 * s) + k)).toInt64) - ((0 : Int32).toInt64))), none]) dX8_offBy_108 rfl rfl (nI_1 _) (by decide) rfl rfl ?_
          refine aw_goto (npc := 25) dX8_offBy_111 (by decide) ?_
          exact ih (k + 1) (by omega) _ _ _ _
        · refine aw_lload (npc := 99) rfl dX8_offBy_97 rfl ?_
          refine aw_lneg (npc := 100) dX8_offBy_99 rfl ?_
          refine aw_goto (npc := 105) dX8_offBy_100 (by decide) ?_
          refine aw_ladd (npc := 106) dX8_offBy_105 rfl ?_
          refine aw_lstore (npc := 108) (L' := [some (.ref 69), some (.int (nI s)), some (.int (nI e)), some (.int (nI t)), some (.long (sm + (-((((a 85) ((24 * s) + k)).toInt64) - ((0 : Int32).toInt64))))), none, some (.int (nI k)), some (.int ((a 85) ((24 * s) + k))), some (.long ((((a 85) ((24 * s) + k)).toInt64) - ((0 : Int32).toInt64))), none]) dX8_offBy_106 rfl (by decide) rfl rfl ?_
          refine aw_iinc (npc := 111) (v := nI (k + 1)) (L' := [some (.ref 69), some (.int (nI s)), some (.int (nI e)), some (.int (nI t)), some (.long (sm + (-((((a 85) ((24 * s) + k)).toInt64) - ((0 : Int32).toInt64))))), none, some (.int (nI (k + 1))), some (.int ((a 85) ((24 * s) + k))), some (.long ((((a 85) ((24 * s) + k)).toInt64) - ((0 : Int32).toInt64))), none]) dX8_offBy_108 rfl rfl (nI_1 _) (by decide) rfl rfl ?_
          refine aw_goto (npc := 25) dX8_offBy_111 (by decide) ?_
          exact ih (k + 1) (by omega) _ _ _ _
      · refine aw_lconst (npc := 87) (v := 0) (by decide) dX8_offBy_86 rfl ?_
        refine aw_goto (npc := 105) dX8_offBy_87 (by decide) ?_
        refine aw_ladd (npc := 106) dX8_offBy_105 rfl ?_
        refine aw_lstore (npc := 108) (L' := [some (.ref 69), some (.int (nI s)), some (.int (nI e)), some (.int (nI t)), some (.long (sm + 0)), none, some (.int (nI k)), some (.int ((a 85) ((24 * s) + k))), some (.long ((((a 85) ((24 * s) + k)).toInt64) - ((0 : Int32).toInt64))), none]) dX8_offBy_106 rfl (by decide) rfl rfl ?_
        refine aw_iinc (npc := 111) (v := nI (k + 1)) (L' := [some (.ref 69), some (.int (nI s)), some (.int (nI e)), some (.int (nI t)), some (.long (sm + 0)), none, some (.int (nI (k + 1))), some (.int ((a 85) ((24 * s) + k))), some (.long ((((a 85) ((24 * s) + k)).toInt64) - ((0 : Int32).toInt64))), none]) dX8_offBy_108 rfl rfl (nI_1 _) (by decide) rfl rfl ?_
        refine aw_goto (npc := 25) dX8_offBy_111 (by decide) ?_
        exact ih (k + 1) (by omega) _ _ _ _
    · have hc2N : ¬ 4 ≤ k := fun z9q => hc2 ((nI_leI (a := 4) (b := k) (by omega) (by omega)).mpr z9q)
      refine aw_aload_n (npc := 60) rfl dX8_offBy_59 rfl ?_
      refine aw_get (npc := 63) dX8_offBy_60 rfl kf_X8_9 F.1 rfl ?_
      refine aw_bipush (npc := 65) (v := 8) (by decide) dX8_offBy_63 rfl ?_
      refine aw_iload (npc := 67) rfl dX8_offBy_65 rfl ?_
      refine aw_iaddV (npc := 68) (v := nI (8 + k)) dX8_offBy_67 rfl (nI_add 8 _) ?_
      refine aw_iald (npc := 69) (x := NA (8 + k)) (j := (8 + k)) dX8_offBy_68 rfl F.2.1 (am_ix_nI (by omega)) (tl_at (by omega)) ?_
      refine aw_goto (npc := 73) dX8_offBy_69 (by decide) ?_
      refine aw_i2l (npc := 74) dX8_offBy_73 rfl ?_
      refine aw_lsub (npc := 75) dX8_offBy_74 rfl ?_
      refine aw_lstore (npc := 77) (L' := [some (.ref 69), some (.int (nI s)), some (.int (nI e)), some (.int (nI t)), some (.long sm), none, some (.int (nI k)), some (.int ((a 85) ((24 * s) + k))), some (.long ((((a 85) ((24 * s) + k)).toInt64) - ((NA (8 + k)).toInt64))), none]) dX8_offBy_75 rfl (by decide) rfl rfl ?_
      refine aw_lload (npc := 79) rfl dX8_offBy_77 rfl ?_
      refine aw_iload (npc := 81) rfl dX8_offBy_79 rfl ?_
      refine aw_ldc (npc := 83) kc_X8_82 dX8_offBy_81 rfl ?_
      refine aw_icmp_ne (npc := 86) (tgt := 90) dX8_offBy_83 rfl (by decide) (fun hc5 => ?_) (fun hc5 => ?_)
      · refine aw_lload (npc := 92) rfl dX8_offBy_90 rfl ?_
        refine aw_lconst (npc := 93) (v := 0) (by decide) dX8_offBy_92 rfl ?_
        refine aw_lcmp (npc := 94) dX8_offBy_93 rfl ?_
        refine aw_if_ge (npc := 97) (tgt := 103) dX8_offBy_94 rfl (by decide) (fun hc6 => ?_) (fun hc6 => ?_)
        · refine aw_lload (npc := 105) rfl dX8_offBy_103 rfl ?_
          refine aw_ladd (npc := 106) dX8_offBy_105 rfl ?_
          refine aw_lstore (npc := 108) (L' := [some (.ref 69), some (.int (nI s)), some (.int (nI e)), some (.int (nI t)), some (.long (sm + ((((a 85) ((24 * s) + k)).toInt64) - ((NA (8 + k)).toInt64)))), none, some (.int (nI k)), some (.int ((a 85) ((24 * s) + k))), some (.long ((((a 85) ((24 * s) + k)).toInt64) - ((NA (8 + k)).toInt64))), none]) dX8_offBy_106 rfl (by decide) rfl rfl ?_
          refine aw_iinc (npc := 111) (v := nI (k + 1)) (L' := [some (.ref 69), some (.int (nI s)), some (.int (nI e)), some (.int (nI t)), some (.long (sm + ((((a 85) ((24 * s) + k)).toInt64) - ((NA (8 + k)).toInt64)))), none, some (.int (nI (k + 1))), some (.int ((a 85) ((24 * s) + k))), some (.long ((((a 85) ((24 * s) + k)).toInt64) - ((NA (8 + k)).toInt64))), none]) dX8_offBy_108 rfl rfl (nI_1 _) (by decide) rfl rfl ?_
          refine aw_goto (npc := 25) dX8_offBy_111 (by decide) ?_
          exact ih (k + 1) (by omega) _ _ _ _
        · refine aw_lload (npc := 99) rfl dX8_offBy_97 rfl ?_
          refine aw_lneg (npc := 100) dX8_offBy_99 rfl ?_
          refine aw_goto (npc := 105) dX8_offBy_100 (by decide) ?_
          refine aw_ladd (npc := 106) dX8_offBy_105 rfl ?_
          refine aw_lstore (npc := 108) (L' := [some (.ref 69), some (.int (nI s)), some (.int (nI e)), some (.int (nI t)), some (.long (sm + (-((((a 85) ((24 * s) + k)).toInt64) - ((NA (8 + k)).toInt64))))), none, some (.int (nI k)), some (.int ((a 85) ((24 * s) + k))), some (.long ((((a 85) ((24 * s) + k)).toInt64) - ((NA (8 + k)).toInt64))), none]) dX8_offBy_106 rfl (by decide) rfl rfl ?_
          refine aw_iinc (npc := 111) (v := nI (k + 1)) (L' := [some (.ref 69), some (.int (nI s)), some (.int (nI e)), some (.int (nI t)), some (.long (sm + (-((((a 85) ((24 * s) + k)).toInt64) - ((NA (8 + k)).toInt64))))), none, some (.int (nI (k + 1))), some (.int ((a 85) ((24 * s) + k))), some (.long ((((a 85) ((24 * s) + k)).toInt64) - ((NA (8 + k)).toInt64))), none]) dX8_offBy_108 rfl rfl (nI_1 _) (by decide) rfl rfl ?_
          refine aw_goto (npc := 25) dX8_offBy_111 (by decide) ?_
          exact ih (k + 1) (by omega) _ _ _ _
      · refine aw_lconst (npc := 87) (v := 0) (by decide) dX8_offBy_86 rfl ?_
        refine aw_goto (npc := 105) dX8_offBy_87 (by decide) ?_
        refine aw_ladd (npc := 106) dX8_offBy_105 rfl ?_
        refine aw_lstore (npc := 108) (L' := [some (.ref 69), some (.int (nI s)), some (.int (nI e)), some (.int (nI t)), some (.long (sm + 0)), none, some (.int (nI k)), some (.int ((a 85) ((24 * s) + k))), some (.long ((((a 85) ((24 * s) + k)).toInt64) - ((NA (8 + k)).toInt64))), none]) dX8_offBy_106 rfl (by decide) rfl rfl ?_
        refine aw_iinc (npc := 111) (v := nI (k + 1)) (L' := [some (.ref 69), some (.int (nI s)), some (.int (nI e)), some (.int (nI t)), some (.long (sm + 0)), none, some (.int (nI (k + 1))), some (.int ((a 85) ((24 * s) + k))), some (.long ((((a 85) ((24 * s) + k)).toInt64) - ((NA (8 + k)).toInt64))), none]) dX8_offBy_108 rfl rfl (nI_1 _) (by decide) rfl rfl ?_
        refine aw_goto (npc := 25) dX8_offBy_111 (by decide) ?_
        exact ih (k + 1) (by omega) _ _ _ _
set_option maxHeartbeats 4000000 in
set_option maxRecDepth 100000 in
theorem m_off {X : List Int32} {d rc rs n : Nat} {Q : am_Q} {h : am_H} {o N : Nat → Int32} {a : Nat → Nat → Int32} {fr c : Nat} {tb : TB} {tx : List Value} {lk : Nat → Int32} {s e t z : Nat} (hs : s < 4) (he : e < 2) (ht : t < 4) (hz : z ≤ 24) (F : MR o N a h) (ez : a 84 s = nI z) (hC : TC tb tx lk N c) (hK : RK N fr c) (h74 : ∀ j, j < 62 → a 74 j = N j) (ho4 : o 4 = -1) (hq : ∀ (v : Int64) o9 a9 h9, MR o9 N a9 h9 → o9 4 = -1 → olT o9 o → al3 a9 a → am_fp (fun k => k < 69 ∨ 92 ≤ k) h9 h → Q (some (.long v)) n h9) : AW X mX8_offBy (d + 40) rc rs 0 [some (.ref 69), some (.int (nI s)), some (.int (nI e)), some (.int (nI t)), none, none, none, none, none, none] [] n h Q := by
  refine aw_aload_n (npc := 1) rfl dX8_offBy_0 rfl ?_
  refine aw_get (npc := 4) dX8_offBy_1 rfl kf_X8_9 F.1 rfl ?_
  refine aw_bipush (npc := 6) (v := 12) (by decide) dX8_offBy_4 rfl ?_
  refine aw_iconst (npc := 7) (v := 4) (by decide) dX8_offBy_6 rfl ?_
  refine aw_iload_n (npc := 8) rfl dX8_offBy_7 rfl ?_
  refine aw_imulV (npc := 9) (v := nI (4 * e)) dX8_offBy_8 rfl (pk_mul 4 _) ?_
  refine aw_iaddV (npc := 10) (v := nI (12 + (4 * e))) dX8_offBy_9 rfl (nI_add 12 _) ?_
  refine aw_iload_n (npc := 11) rfl dX8_offBy_10 rfl ?_
  refine aw_iaddV (npc := 12) (v := nI ((12 + (4 * e)) + t)) dX8_offBy_11 rfl (nI_add _ _) ?_
  refine aw_bipush (npc := 14) (v := 9) (by decide) dX8_offBy_12 rfl ?_
  refine aw_iast (npc := 15) (j := ((12 + (4 * e)) + t)) dX8_offBy_14 rfl F.2.1 (am_ix_nI (by omega)) (by rw [tl_len]; omega) rfl ?_
  have F1 := mr_70 (j := ((12 + (4 * e)) + t)) (v := 9) F
  refine aw_aload_n (npc := 16) rfl dX8_offBy_15 rfl ?_
  refine aw_callV (npc := 19) (N := mX8_post) (b := 69) (mc := 0) (ms := 0) (A := []) (S := []) (L0 := [some (.ref 69), none]) dX8_offBy_16 rfl km_X8_post kk_X8_157 F1.1 ⟨by decide, rfl⟩ rfl ⟨rfl, by decide⟩ rfl (Nat.le_of_ble_eq_true rfl) (Nat.zero_add _) (Nat.zero_add _) rfl ?_
  have hT2 : TC tb tx lk (upd N ((12 + (4 * e)) + t) 9) c := (tc_u (by omega) (by omega) hC)
  have hK3 : RK (upd N ((12 + (4 * e)) + t) 9) fr c := (rk_u hK (by omega) (by omega) (by omega) (by omega) (by omega) (by omega) (fun _ _ _ => ⟨by decide, by decide⟩) (by omega))
  have o4x := ho4
  refine m_post (c := c) (fr := fr) F1 (mi_rk hK3 (tc_txm hT2)) (fun o9x4 N9x5 a9x6 h9x7 hrx8 Fx9 olx10 alx11 fzx12 => ?_)
  have eNx13 : N9x5 = goF c fr (-1) 1 (upd N ((12 + (4 * e)) + t) 9) := post_m hT2 hK3 (o4x ▸ hrx8)
  subst eNx13
  have o414 := ((olx10 4 (by decide)).trans o4x)
  have h7415 : ∀ j, j < 62 → a9x6 74 j = N j := (fun j hj => (congrFun (alx11 74 (by decide) (by decide) (by decide)) j).trans (h74 j hj))
  refine aw_lconst (npc := 20) (v := 0) (by decide) dX8_offBy_19 rfl ?_
  refine aw_lstore (npc := 22) (L' := [some (.ref 69), some (.int (nI s)), some (.int (nI e)), some (.int (nI t)), some (.long 0), none, none, none, none, none]) dX8_offBy_20 rfl (by decide) rfl rfl ?_
  refine aw_iconst (npc := 23) (v := 0) (by decide) dX8_offBy_22 rfl ?_
  refine aw_istore (npc := 25) (L' := [some (.ref 69), some (.int (nI s)), some (.int (nI e)), some (.int (nI t)), some (.long 0), none, some (.int 0), none, none, none]) dX8_offBy_23 rfl (by decide) rfl rfl ?_
  refine aw_locs (L' := [some (.ref 69), some (.int (nI s)), some (.int (nI e)), some (.int (nI t)), some (.long 0), none, some (.int (nI 0)), none, none, none]) rfl ?_
  refine M_offL (z := z) (by omega) hz Fx9 ((congrFun ((al3_t alx11 al3_0) 84 (by decide) (by decide) (by decide)) s).trans ez) (fun sm v6 v7 v8 v9 => ?_) z 0 (by omega) _ _ _ _
  refine aw_aload_n (npc := 115) rfl dX8_offBy_114 rfl ?_
  refine aw_callV (npc := 118) (N := mX8_putsBack) (b := 69) (mc := 0) (ms := 0) (A := []) (S := []) (L0 := [some (.ref 69), none]) dX8_offBy_115 rfl km_X8_putsBack kk_X8_175 Fx9.1 ⟨by decide, rfl⟩ rfl ⟨rfl, by decide⟩ rfl (Nat.le_of_ble_eq_true rfl) (Nat.zero_add _) (Nat.zero_add _) rfl ?_
  refine m_puts Fx9 (fun N816 hp17 F18 e819 c820 fz21 => ?_)
  have eN22 : N816 = N := funext (fun j => by
    by_cases hj : j < 62
    · exact (e819 j hj).trans (h7415 j hj)
    · have hj : 62 ≤ j := by omega
      exact (c820 j hj).trans ((goF_62 hK3.2.1 hj).trans ((pk_un (by omega)).trans rfl)))
  rw [eN22] at F18
  refine aw_lload (npc := 120) rfl dX8_offBy_118 rfl ?_
  refine aw_lret rfl dX8_offBy_120 ?_
  exact hq _ _ _ _ F18 pk_us (olT_u (olT_t (olT_6 olx10) olT_0)) (al3_t alx11 al3_0) (am_fpT (fun k (hk : k < 69 ∨ 92 ≤ k) => fz21 k (by omega)) (am_fpT (fun k (hk : k < 69 ∨ 92 ≤ k) => fzx12 k (by omega)) (am_fpU (show ¬ (70 < 69 ∨ 92 ≤ 70) by omega) am_fp0)))
set_option maxHeartbeats 4000000 in
set_option maxRecDepth 100000 in
theorem M_caredL {X : List Int32} {d rc rs n : Nat} {Q : am_Q} {fr c : Nat} {tb : TB} {tx : List Value} {lk : Nat → Int32} {N : Nat → Int32} {s e z : Nat} {w : Int32} (hs : s < 4) (he : e < 2) (hz : z ≤ 24) (hC : TC tb tx lk N c) (hK : RK N fr c) : ∀ (m t : Nat), t + m = 4 → ∀ (b : Int32) (l : Int64) (v8 v9 : Option Value) (o : Nat → Int32) (a : Nat → Nat → Int32) (h : am_H), MR o N a h → a 84 s = nI z → (∀ j, j < 62 → a 74 j = N j) → o 4 = -1 → (∀ v9 o9 a9 h9, MR o9 N a9 h9 → olT o9 o → o9 4 = -1 → alT a9 a → am_fp (fun k => k < 69 ∨ 92 ≤ k) h9 h → Q (some (.int v9)) n h9) → AW X mX8_cared (d + 41) rc rs 59 [some (.ref 69), some (.int (nI s)), some (.int (nI e)), some (.int w), some (.int b), some (.long l), none, some (.int (nI t)), v8, v9] [] n h Q := by
  intro m
  induction m with
  | zero =>
    intro t ht b l v8 v9 o a h F ez h74 ho4 hq
    obtain rfl : t = 4 := by omega
    refine aw_iload (npc := 61) rfl dX8_cared_59 rfl ?_
    refine aw_iconst (npc := 62) (v := 4) (by decide) dX8_cared_61 rfl ?_
    refine aw_icmp_ge (npc := 65) (tgt := 115) dX8_cared_62 rfl (by decide) (fun _ => ?_) (fun hc => absurd (nI_le (a := 4) (b := 4) (by omega) (by omega)) hc)
    refine aw_iload_n (npc := 116) rfl dX8_cared_115 rfl ?_
    refine aw_if_ne (npc := 119) (tgt := 124) dX8_cared_116 rfl (by decide) (fun hc2 => ?_) (fun hc2 => ?_)
    · refine aw_lload (npc := 126) rfl dX8_cared_124 rfl ?_
      refine aw_l2i (npc := 127) dX8_cared_126 rfl ?_
      refine aw_iret rfl dX8_cared_127 ?_
      exact hq _ _ _ _ F olT_0 ho4 alT_0 am_fp0
    · refine aw_iload (npc := 121) rfl dX8_cared_119 rfl ?_
      refine aw_goto (npc := 127) dX8_cared_121 (by decide) ?_
      refine aw_iret rfl dX8_cared_127 ?_
      exact hq _ _ _ _ F olT_0 ho4 alT_0 am_fp0
  | succ m ih =>
    intro t ht b l v8 v9 o a h F ez h74 ho4 hq
    refine aw_iload (npc := 61) rfl dX8_cared_59 rfl ?_
    refine aw_iconst (npc := 62) (v := 4) (by decide) dX8_cared_61 rfl ?_
    refine aw_icmp_ge (npc := 65) (tgt := 115) dX8_cared_62 rfl (by decide) (fun hc => absurd hc (nI_ge (a := t) (b := 4) (by omega) (by omega))) (fun _ => ?_)
    refine aw_aload_n (npc := 66) rfl dX8_cared_65 rfl ?_
    refine aw_iload_n (npc := 67) rfl dX8_cared_66 rfl ?_
    refine aw_iload_n (npc := 68) rfl dX8_cared_67 rfl ?_
    refine aw_iload (npc := 70) rfl dX8_cared_68 rfl ?_
    refine aw_callV (npc := 73) (N := mX8_offBy) (b := 69) (mc := 0) (ms := 0) (A := [.int (nI s), .int (nI e), .int (nI t)]) (S := []) (L0 := [some (.ref 69), some (.int (nI s)), some (.int (nI e)), some (.int (nI t)), none, none, none, none, none, none]) dX8_cared_70 rfl km_X8_offBy kk_X8_188 F.1 ⟨by decide, rfl⟩ rfl ⟨rfl, by decide⟩ rfl (Nat.le_of_ble_eq_true rfl) (Nat.zero_add _) (Nat.zero_add _) rfl ?_
    refine m_off (s := s) (e := e) (t := t) (by omega) (by omega) (by omega) hz F ((alrd alT_0).trans ez) hC hK h74 ho4 (fun lv2 oE3 aE4 h9x5 Fx6 o4x7 olx8 alx9 fzx10 => ?_)
    have h7h9x5 : ∀ j, j < 62 → aE4 74 j = N j := fun j hj => (congrFun (alx9 74 (by decide) (by decide) (by decide)) j).trans (h74 j hj)
    have fyfzx10 : ∀ k, (k < 69 ∨ 92 ≤ k) → h9x5 k = _ := fun k hk => fzx10 k hk
    refine aw_re (S' := [.long lv2]) rfl ?_
    refine aw_lstore (npc := 75) (L' := [some (.ref 69), some (.int (nI s)), some (.int (nI e)), some (.int w), some (.int b), some (.long l), none, some (.int (nI t)), some (.long lv2), none]) dX8_cared_73 rfl (by decide) rfl rfl ?_
    refine aw_lload (npc := 77) rfl dX8_cared_75 rfl ?_
    refine aw_lload (npc := 79) rfl dX8_cared_77 rfl ?_
    refine aw_lcmp (npc := 80) dX8_cared_79 rfl ?_
    refine aw_if_ge (npc := 83) (tgt := 88) dX8_cared_80 rfl (by decide) (fun hc11 => ?_) (fun hc11 => ?_)
    · refine aw_iload (npc := 90) rfl dX8_cared_88 rfl ?_
      refine aw_istore (npc := 92) (L' := [some (.ref 69), some (.int (nI s)), some (.int (nI e)), some (.int w), some (.int b), some (.long l), none, some (.int (nI t)), some (.long lv2), none]) dX8_cared_90 rfl (by decide) rfl rfl ?_
      refine aw_lload (npc := 94) rfl dX8_cared_92 rfl ?_
      refine aw_lload (npc := 96) rfl dX8_cared_94 rfl ?_
      refine aw_lcmp (npc := 97) dX8_cared_96 rfl ?_
      refine aw_if_ge (npc := 100) (tgt := 105) dX8_cared_97 rfl (by decide) (fun hc12 => ?_) (fun hc12 => ?_)
      · refine aw_lload (npc := 107) rfl dX8_cared_105 rfl ?_
        refine aw_lstore (npc := 109) (L' := [some (.ref 69), some (.int (nI s)), some (.int (nI e)), some (.int w), some (.int b), some (.long l), none, some (.int (nI t)), some (.long lv2), none]) dX8_cared_107 rfl (by decide) rfl rfl ?_
        refine aw_iinc (npc := 112) (v := nI (t + 1)) (L' := [some (.ref 69), some (.int (nI s)), some (.int (nI e)), some (.int w), some (.int b), some (.long l), none, some (.int (nI (t + 1))), some (.long lv2), none]) dX8_cared_109 rfl rfl (nI_1 _) (by decide) rfl rfl ?_
        refine aw_goto (npc := 59) dX8_cared_112 (by decide) ?_
        exact ih (t + 1) (by omega) _ _ _ _ _ _ _ Fx6 ((alrd (alT_t (alT_3 alx9) alT_0)).trans ez) h7h9x5 o4x7 (fun v9 o9 a9 h9 F9 ol9 o49 al9 f9 => hq v9 o9 a9 h9 F9 (olT_t ol9 (olT_t olx8 olT_0)) o49 (alT_t al9 (alT_t (alT_3 alx9) alT_0)) (am_fpT f9 (am_fpT (fun k (hk : k < 69 ∨ 92 ≤ k) => fyfzx10 k (by omega)) am_fp0)))
      · refine aw_lload (npc := 102) rfl dX8_cared_100 rfl ?_
        refine aw_goto (npc := 107) dX8_cared_102 (by decide) ?_
        refine aw_lstore (npc := 109) (L' := [some (.ref 69), some (.int (nI s)), some (.int (nI e)), some (.int w), some (.int b), some (.long lv2), none, some (.int (nI t)), some (.long lv2), none]) dX8_cared_107 rfl (by decide) rfl rfl ?_
        refine aw_iinc (npc := 112) (v := nI (t + 1)) (L' := [some (.ref 69), some (.int (nI s)), some (.int (nI e)), some (.int w), some (.int b), some (.long lv2), none, some (.int (nI (t + 1))), some (.long lv2), none]) dX8_cared_109 rfl rfl (nI_1 _) (by decide) rfl rfl ?_
        refine aw_goto (npc := 59) dX8_cared_112 (by decide) ?_
        exact ih (t + 1) (by omega) _ _ _ _ _ _ _ Fx6 ((alrd (alT_t (alT_3 alx9) alT_0)).trans ez) h7h9x5 o4x7 (fun v9 o9 a9 h9 F9 ol9 o49 al9 f9 => hq v9 o9 a9 h9 F9 (olT_t ol9 (olT_t olx8 olT_0)) o49 (alT_t al9 (alT_t (alT_3 alx9) alT_0)) (am_fpT f9 (am_fpT (fun k (hk : k < 69 ∨ 92 ≤ k) => fyfzx10 k (by omega)) am_fp0)))
    · refine aw_iload (npc := 85) rfl dX8_cared_83 rfl ?_
      refine aw_goto (npc := 90) dX8_cared_85 (by decide) ?_
      refine aw_istore (npc := 92) (L' := [some (.ref 69), some (.int (nI s)), some (.int (nI e)), some (.int w), some (.int (nI t)), some (.long l), none, some (.int (nI t)), some (.long lv2), none]) dX8_cared_90 rfl (by decide) rfl rfl ?_
      refine aw_lload (npc := 94) rfl dX8_cared_92 rfl ?_
      refine aw_lload (npc := 96) rfl dX8_cared_94 rfl ?_
      refine aw_lcmp (npc := 97) dX8_cared_96 rfl ?_
      refine aw_if_ge (npc := 100) (tgt := 105) dX8_cared_97 rfl (by decide) (fun hc13 => ?_) (fun hc13 => ?_)
      · refine aw_lload (npc := 107) rfl dX8_cared_105 rfl ?_
        refine aw_lstore (npc := 109) (L' := [some (.ref 69), some (.int (nI s)), some (.int (nI e)), some (.int w), some (.int (nI t)), some (.long l), none, some (.int (nI t)), some (.long lv2), none]) dX8_cared_107 rfl (by decide) rfl rfl ?_
        refine aw_iinc (npc := 112) (v := nI (t + 1)) (L' := [some (.ref 69), some (.int (nI s)), some (.int (nI e)), some (.int w), some (.int (nI t)), some (.long l), none, some (.int (nI (t + 1))), some (.long lv2), none]) dX8_cared_109 rfl rfl (nI_1 _) (by decide) rfl rfl ?_
        refine aw_goto (npc := 59) dX8_cared_112 (by decide) ?_
        exact ih (t + 1) (by omega) _ _ _ _ _ _ _ Fx6 ((alrd (alT_t (alT_3 alx9) alT_0)).trans ez) h7h9x5 o4x7 (fun v9 o9 a9 h9 F9 ol9 o49 al9 f9 => hq v9 o9 a9 h9 F9 (olT_t ol9 (olT_t olx8 olT_0)) o49 (alT_t al9 (alT_t (alT_3 alx9) alT_0)) (am_fpT f9 (am_fpT (fun k (hk : k < 69 ∨ 92 ≤ k) => fyfzx10 k (by omega)) am_fp0)))
      · refine aw_lload (npc := 102) rfl dX8_cared_100 rfl ?_
        refine aw_goto (npc := 107) dX8_cared_102 (by decide) ?_
        refine aw_lstore (npc := 109) (L' := [some (.ref 69), some (.int (nI s)), some (.int (nI e)), some (.int w), some (.int (nI t)), some (.long lv2), none, some (.int (nI t)), some (.long lv2), none]) dX8_cared_107 rfl (by decide) rfl rfl ?_
        refine aw_iinc (npc := 112) (v := nI (t + 1)) (L' := [some (.ref 69), some (.int (nI s)), some (.int (nI e)), some (.int w), some (.int (nI t)), some (.long lv2), none, some (.int (nI (t + 1))), some (.long lv2), none]) dX8_cared_109 rfl rfl (nI_1 _) (by decide) rfl rfl ?_
        refine aw_goto (npc := 59) dX8_cared_112 (by decide) ?_
        exact ih (t + 1) (by omega) _ _ _ _ _ _ _ Fx6 ((alrd (alT_t (alT_3 alx9) alT_0)).trans ez) h7h9x5 o4x7 (fun v9 o9 a9 h9 F9 ol9 o49 al9 f9 => hq v9 o9 a9 h9 F9 (olT_t ol9 (olT_t olx8 olT_0)) o49 (alT_t al9 (alT_t (alT_3 alx9) alT_0)) (am_fpT f9 (am_fpT (fun k (hk : k < 69 ∨ 92 ≤ k) => fyfzx10 k (by omega)) am_fp0)))
set_option maxHeartbeats 4000000 in
set_option maxRecDepth 100000 in
theorem M_cared {X : List Int32} {d rc rs n : Nat} {Q : am_Q} {h : am_H} {o N : Nat → Int32} {a : Nat → Nat → Int32} {fr c : Nat} {s : Int32} {e : Int32} {w : Int32} {tb : TB} {tx : List Value} {lk : Nat → Int32} (F : MR o N a h) (hR : RG N fr c) (hC : TC tb tx lk N c) (ho4 : o 4 = -1) (hI : RI (a 83) (a 84)) (hq : ∀ v9 o9 a9 h9, MR o9 N a9 h9 → ol6 o9 o → alT a9 a → am_fp (fun k => k < 69 ∨ 92 ≤ k) h9 h → Q (some (.int v9)) n h9) : AW X mX8_cared (d + 41) rc rs 0 [some (.ref 69), some (.int s), some (.int e), some (.int w), none, none, none, none, none, none] [] n h Q := by
  have h8r := hR.2.1
  have h14r := hR.2.2.2.1
  have hK := rg_rk hR
  refine aw_iload_n (npc := 1) rfl dX8_cared_0 rfl ?_
  refine aw_callS (npc := 4) (N := mX8_isSheet) (mc := 0) (ms := 0) (A := [.int s]) (S := []) (L0 := [some (.int s)]) dX8_cared_1 rfl km_X8_isSheet kk_X8_184 rfl ⟨rfl, by decide⟩ rfl (Nat.le_of_ble_eq_true rfl) (Nat.zero_add _) (Nat.zero_add _) rfl ?_
  refine c_X8_isSheet (fun hw1 => ?_) (fun hw1 => ?_)
  · obtain ⟨sn, hsn, esn⟩ := wi_nI (H := 3) (by decide) (by decide) hw1
    subst esn
    have fsn : fN (nI sn) = sn := fN_nI (by omega)
    obtain ⟨hsr, z9, hz24, ez9⟩ := hI sn (by omega)
    have fz9 : fN (nI z9) = z9 := fN_nI (by omega)
    refine aw_re (S' := [.int 1]) rfl ?_
    refine aw_if_eq (npc := 7) (tgt := 25) dX8_cared_4 rfl (by decide) (fun hc => absurd hc (by decide)) (fun _ => ?_)
    refine aw_iload_n (npc := 8) rfl dX8_cared_7 rfl ?_
    refine aw_iconst (npc := 9) (v := 0) (by decide) dX8_cared_8 rfl ?_
    refine aw_iconst (npc := 10) (v := 1) (by decide) dX8_cared_9 rfl ?_
    refine aw_callS (npc := 13) (N := mX8_in) (mc := 0) (ms := 0) (A := [.int e, .int 0, .int 1]) (S := []) (L0 := [some (.int e), some (.int 0), some (.int 1)]) dX8_cared_10 rfl km_X8_in kk_X8_83 rfl ⟨rfl, by decide⟩ rfl (Nat.le_of_ble_eq_true rfl) (Nat.zero_add _) (Nat.zero_add _) rfl ?_
    refine c_X8_in (fun hw2 => ?_) (fun hw2 => ?_)
    · obtain ⟨en, hen, een⟩ := wi_nI (H := 1) (by decide) (by decide) hw2
      subst een
      have fen : fN (nI en) = en := fN_nI (by omega)
      refine aw_re (S' := [.int 1]) rfl ?_
      refine aw_if_eq (npc := 16) (tgt := 25) dX8_cared_13 rfl (by decide) (fun hc => absurd hc (by decide)) (fun _ => ?_)
      refine aw_iload_n (npc := 17) rfl dX8_cared_16 rfl ?_
      refine aw_iconst (npc := 18) (v := 0) (by decide) dX8_cared_17 rfl ?_
      refine aw_iconst (npc := 19) (v := 1) (by decide) dX8_cared_18 rfl ?_
      refine aw_callS (npc := 22) (N := mX8_in) (mc := 0) (ms := 0) (A := [.int w, .int 0, .int 1]) (S := []) (L0 := [some (.int w), some (.int 0), some (.int 1)]) dX8_cared_19 rfl km_X8_in kk_X8_83 rfl ⟨rfl, by decide⟩ rfl (Nat.le_of_ble_eq_true rfl) (Nat.zero_add _) (Nat.zero_add _) rfl ?_
      refine c_X8_in (fun hw3 => ?_) (fun hw3 => ?_)
      · refine aw_re (S' := [.int 1]) rfl ?_
        refine aw_if_ne (npc := 25) (tgt := 28) dX8_cared_22 rfl (by decide) (fun _ => ?_) (fun hc => absurd hc (by decide))
        refine aw_aload_n (npc := 29) rfl dX8_cared_28 rfl ?_
        refine aw_get (npc := 32) dX8_cared_29 rfl kf_X8_55 F.1 rfl ?_
        refine aw_iload_n (npc := 33) rfl dX8_cared_32 rfl ?_
        refine aw_iald (npc := 34) (x := (a 83) sn) (j := sn) dX8_cared_33 rfl F.2.2.2.2.2.2.2.2.2.2.2.2.2.2.1 (am_ix_nI (by omega)) (tl_at (by omega)) ?_
        rcases wi_cm1_1 hsr with esr | esr | esr
        · refine aw_top (y := -1) esr ?_
          refine aw_if_ge (npc := 37) (tgt := 40) dX8_cared_34 rfl (by decide) (fun hc => absurd hc (by decide)) (fun _ => ?_)
          refine aw_ldc (npc := 39) kc_X8_187 dX8_cared_37 rfl ?_
          refine aw_iret rfl dX8_cared_39 ?_
          exact hq _ _ _ _ F (fun _ _ => rfl) alT_0 am_fp0
        · refine aw_top (y := 0) esr ?_
          refine aw_if_ge (npc := 37) (tgt := 40) dX8_cared_34 rfl (by decide) (fun _ => ?_) (fun hc => absurd (by decide) hc)
          refine aw_aload_n (npc := 41) rfl dX8_cared_40 rfl ?_
          refine aw_callV (npc := 44) (N := mX8_thinks) (b := 69) (mc := 0) (ms := 0) (A := []) (S := []) (L0 := [some (.ref 69), none]) dX8_cared_41 rfl km_X8_thinks kk_X8_169 F.1 ⟨by decide, rfl⟩ rfl ⟨rfl, by decide⟩ rfl (Nat.le_of_ble_eq_true rfl) (Nat.zero_add _) (Nat.zero_add _) rfl ?_
          refine m_thinks F (fun aT4 hp5 F6 eT7 cT8 fz9 => ?_)
          refine aw_iconst (npc := 45) (v := 0) (by decide) dX8_cared_44 rfl ?_
          refine aw_istore (npc := 47) (L' := [some (.ref 69), some (.int (nI sn)), some (.int (nI en)), some (.int w), some (.int 0), none, none, none, none, none]) dX8_cared_45 rfl (by decide) rfl rfl ?_
          refine aw_aload_n (npc := 48) rfl dX8_cared_47 rfl ?_
          refine aw_iload_n (npc := 49) rfl dX8_cared_48 rfl ?_
          refine aw_iload_n (npc := 50) rfl dX8_cared_49 rfl ?_
          refine aw_iconst (npc := 51) (v := 0) (by decide) dX8_cared_50 rfl ?_
          refine aw_callV (npc := 54) (N := mX8_offBy) (b := 69) (mc := 0) (ms := 0) (A := [.int (nI sn), .int (nI en), .int 0]) (S := []) (L0 := [some (.ref 69), some (.int (nI sn)), some (.int (nI en)), some (.int 0), none, none, none, none, none, none]) dX8_cared_51 rfl km_X8_offBy kk_X8_188 F6.1 ⟨by decide, rfl⟩ rfl ⟨rfl, by decide⟩ rfl (Nat.le_of_ble_eq_true rfl) (Nat.zero_add _) (Nat.zero_add _) rfl ?_
          refine m_off (s := sn) (e := en) (t := 0) (by omega) (by omega) (by omega) hz24 F6 ((alrd (alT_t (alT_4 cT8) alT_0)).trans ez9) hC hK eT7 ho4 (fun lv10 oE11 aE12 h9x13 Fx14 o4x15 olx16 alx17 fzx18 => ?_)
          have h7h9x13 : ∀ j, j < 62 → aE12 74 j = N j := fun j hj => (congrFun (alx17 74 (by decide) (by decide) (by decide)) j).trans (eT7 j hj)
          have fyfzx18 : ∀ k, (k < 69 ∨ 92 ≤ k) → h9x13 k = _ := fun k hk => fzx18 k hk
          refine aw_re (S' := [.long lv10]) rfl ?_
          refine aw_lstore (npc := 56) (L' := [some (.ref 69), some (.int (nI sn)), some (.int (nI en)), some (.int w), some (.int 0), some (.long lv10), none, none, none, none]) dX8_cared_54 rfl (by decide) rfl rfl ?_
          refine aw_iconst (npc := 57) (v := 1) (by decide) dX8_cared_56 rfl ?_
          refine aw_istore (npc := 59) (L' := [some (.ref 69), some (.int (nI sn)), some (.int (nI en)), some (.int w), some (.int 0), some (.long lv10), none, some (.int 1), none, none]) dX8_cared_57 rfl (by decide) rfl rfl ?_
          refine aw_locs (L' := [some (.ref 69), some (.int (nI sn)), some (.int (nI en)), some (.int w), some (.int 0), some (.long lv10), none, some (.int (nI 1)), none, none]) rfl ?_
          exact M_caredL (N := N) (s := sn) (e := en) (z := z9) (by omega) (by omega) hz24 hC hK 3 1 (by omega) _ _ _ _ _ _ _ Fx14 ((alrd (alT_t (alT_3 alx17) (alT_t (alT_4 cT8) alT_0))).trans ez9) h7h9x13 o4x15 (fun v9 o9 a9 h9 F9 ol9 o49 al9 f9 => hq v9 o9 a9 h9 F9 (ol_end (olT_t ol9 (olT_t olx16 olT_0)) (o49.trans ho4.symm)) (alT_t al9 (alT_t (alT_3 alx17) (alT_t (alT_4 cT8) alT_0))) (am_fpT f9 (am_fpT (fun k (hk : k < 69 ∨ 92 ≤ k) => fyfzx18 k (by omega)) (am_fpT (fun k (hk : k < 69 ∨ 92 ≤ k) => fz9 k (by omega)) am_fp0))))
        · refine aw_top (y := 1) esr ?_
          refine aw_if_ge (npc := 37) (tgt := 40) dX8_cared_34 rfl (by decide) (fun _ => ?_) (fun hc => absurd (by decide) hc)
          refine aw_aload_n (npc := 41) rfl dX8_cared_40 rfl ?_
          refine aw_callV (npc := 44) (N := mX8_thinks) (b := 69) (mc := 0) (ms := 0) (A := []) (S := []) (L0 := [some (.ref 69), none]) dX8_cared_41 rfl km_X8_thinks kk_X8_169 F.1 ⟨by decide, rfl⟩ rfl ⟨rfl, by decide⟩ rfl (Nat.le_of_ble_eq_true rfl) (Nat.zero_add _) (Nat.zero_add _) rfl ?_
          refine m_thinks F (fun aT19 hp20 F21 eT22 cT23 fz24 => ?_)
          refine aw_iconst (npc := 45) (v := 0) (by decide) dX8_cared_44 rfl ?_
          refine aw_istore (npc := 47) (L' := [some (.ref 69), some (.int (nI sn)), some (.int (nI en)), some (.int w), some (.int 0), none, none, none, none, none]) dX8_cared_45 rfl (by decide) rfl rfl ?_
          refine aw_aload_n (npc := 48) rfl dX8_cared_47 rfl ?_
          refine aw_iload_n (npc := 49) rfl dX8_cared_48 rfl ?_
          refine aw_iload_n (npc := 50) rfl dX8_cared_49 rfl ?_
          refine aw_iconst (npc := 51) (v := 0) (by decide) dX8_cared_50 rfl ?_
          refine aw_callV (npc := 54) (N := mX8_offBy) (b := 69) (mc := 0) (ms := 0) (A := [.int (nI sn), .int (nI en), .int 0]) (S := []) (L0 := [some (.ref 69), some (.int (nI sn)), some (.int (nI en)), some (.int 0), none, none, none, none, none, none]) dX8_cared_51 rfl km_X8_offBy kk_X8_188 F21.1 ⟨by decide, rfl⟩ rfl ⟨rfl, by decide⟩ rfl (Nat.le_of_ble_eq_true rfl) (Nat.zero_add _) (Nat.zero_add _) rfl ?_
          refine m_off (s := sn) (e := en) (t := 0) (by omega) (by omega) (by omega) hz24 F21 ((alrd (alT_t (alT_4 cT23) alT_0)).trans ez9) hC hK eT22 ho4 (fun lv25 oE26 aE27 h9x28 Fx29 o4x30 olx31 alx32 fzx33 => ?_)
          have h7h9x28 : ∀ j, j < 62 → aE27 74 j = N j := fun j hj => (congrFun (alx32 74 (by decide) (by decide) (by decide)) j).trans (eT22 j hj)
          have fyfzx33 : ∀ k, (k < 69 ∨ 92 ≤ k) → h9x28 k = _ := fun k hk => fzx33 k hk
          refine aw_re (S' := [.long lv25]) rfl ?_
          refine aw_lstore (npc := 56) (L' := [some (.ref 69), some (.int (nI sn)), some (.int (nI en)), some (.int w), some (.int 0), some (.long lv25), none, none, none, none]) dX8_cared_54 rfl (by decide) rfl rfl ?_
          refine aw_iconst (npc := 57) (v := 1) (by decide) dX8_cared_56 rfl ?_
          refine aw_istore (npc := 59) (L' := [some (.ref 69), some (.int (nI sn)), some (.int (nI en)), some (.int w), some (.int 0), some (.long lv25), none, some (.int 1), none, none]) dX8_cared_57 rfl (by decide) rfl rfl ?_
          refine aw_locs (L' := [some (.ref 69), some (.int (nI sn)), some (.int (nI en)), some (.int w), some (.int 0), some (.long lv25), none, some (.int (nI 1)), none, none]) rfl ?_
          exact M_caredL (N := N) (s := sn) (e := en) (z := z9) (by omega) (by omega) hz24 hC hK 3 1 (by omega) _ _ _ _ _ _ _ Fx29 ((alrd (alT_t (alT_3 alx32) (alT_t (alT_4 cT23) alT_0))).trans ez9) h7h9x28 o4x30 (fun v9 o9 a9 h9 F9 ol9 o49 al9 f9 => hq v9 o9 a9 h9 F9 (ol_end (olT_t ol9 (olT_t olx31 olT_0)) (o49.trans ho4.symm)) (alT_t al9 (alT_t (alT_3 alx32) (alT_t (alT_4 cT23) alT_0))) (am_fpT f9 (am_fpT (fun k (hk : k < 69 ∨ 92 ≤ k) => fyfzx33 k (by omega)) (am_fpT (fun k (hk : k < 69 ∨ 92 ≤ k) => fz24 k (by omega)) am_fp0))))
      · refine aw_re (S' := [.int 0]) rfl ?_
        refine aw_if_ne (npc := 25) (tgt := 28) dX8_cared_22 rfl (by decide) (fun hc => absurd (by decide) hc) (fun _ => ?_)
        refine aw_ldc (npc := 27) kc_X8_91 dX8_cared_25 rfl ?_
        refine aw_iret rfl dX8_cared_27 ?_
        exact hq _ _ _ _ F (fun _ _ => rfl) alT_0 am_fp0
    · refine aw_re (S' := [.int 0]) rfl ?_
      refine aw_if_eq (npc := 16) (tgt := 25) dX8_cared_13 rfl (by decide) (fun _ => ?_) (fun hc => absurd (by decide) hc)
      refine aw_ldc (npc := 27) kc_X8_91 dX8_cared_25 rfl ?_
      refine aw_iret rfl dX8_cared_27 ?_
      exact hq _ _ _ _ F (fun _ _ => rfl) alT_0 am_fp0
  · refine aw_re (S' := [.int 0]) rfl ?_
    refine aw_if_eq (npc := 7) (tgt := 25) dX8_cared_4 rfl (by decide) (fun _ => ?_) (fun hc => absurd (by decide) hc)
    refine aw_ldc (npc := 27) kc_X8_91 dX8_cared_25 rfl ?_
    refine aw_iret rfl dX8_cared_27 ?_
    exact hq _ _ _ _ F (fun _ _ => rfl) alT_0 am_fp0
