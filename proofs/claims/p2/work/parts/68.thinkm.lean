def alT (a9 a : Nat → Nat → Int32) : Prop := ∀ k, k ≠ 73 → k ≠ 74 → k ≠ 81 → k ≠ 82 → a9 k = a k
theorem alT_t {x y z : Nat → Nat → Int32} (h1 : alT x y) (h2 : alT y z) : alT x z := fun k a b c d => (h1 k a b c d).trans (h2 k a b c d)
theorem al3_t {x y z : Nat → Nat → Int32} (h1 : al3 x y) (h2 : al3 y z) : al3 x z := fun k a b c => (h1 k a b c).trans (h2 k a b c)
theorem al3_0 {x : Nat → Nat → Int32} : al3 x x := fun _ _ _ _ => rfl
theorem alT_0 {x : Nat → Nat → Int32} : alT x x := fun _ _ _ _ _ => rfl
theorem alT_3 {x y : Nat → Nat → Int32} (h : al3 x y) : alT x y := fun k a _ c d => h k a c d
theorem alT_4 {x y : Nat → Nat → Int32} (h : ∀ c, c ≠ 74 → x c = y c) : alT x y := fun k _ b _ _ => h k b
def olT (o9 o : Nat → Int32) : Prop := ∀ k, k ≠ 4 → k ≠ 6 → o9 k = o k
theorem olT_t {x y z : Nat → Int32} (h1 : olT x y) (h2 : olT y z) : olT x z := fun k a b => (h1 k a b).trans (h2 k a b)
theorem olT_0 {x : Nat → Int32} : olT x x := fun _ _ _ => rfl
theorem olT_6 {x y : Nat → Int32} (h : ol6 x y) : olT x y := fun k _ b => h k b
theorem olT_u {x y : Nat → Int32} {v : Int32} (h : olT x y) : olT (upd x 4 v) y := fun k a b => (pk_un a).trans (h k a b)
theorem ol_end {x y : Nat → Int32} (h : olT x y) (h4 : x 4 = y 4) : ol6 x y := fun k b => by
  by_cases q : k = 4
  · subst q; exact h4
  · exact h k q b
theorem mi_rk {N : Nat → Int32} {fr c : Nat} (hK : RK N fr c) (hT : TXM N c) : MI N c fr := ⟨hT, hK.1, hK.2.1, fun f hf => ⟨(hK.2.2.2.2.1 f (by have z := hK.2.1; omega)).1, (hK.2.2.2.2.1 f (by have z := hK.2.1; omega)).2.1⟩⟩
set_option maxHeartbeats 4000000 in
set_option maxRecDepth 100000 in
theorem M_behind {X : List Int32} {d rc rs n : Nat} {Q : am_Q} {h : am_H} {o N : Nat → Int32} {a : Nat → Nat → Int32} {fr c : Nat} {v : Int32} {w : Int32} {tb : TB} {tx : List Value} {lk : Nat → Int32} (F : MR o N a h) (hR : RG N fr c) (hC : TC tb tx lk N c) (ho4 : o 4 = -1) (hq : ∀ v9 o9 a9 h9, v9 = bhV c fr N v w → MR o9 N a9 h9 → ol6 o9 o → alT a9 a → am_fp (fun k => k < 69 ∨ 92 ≤ k) h9 h → Q (some (.int v9)) n h9) : AW X mX8_behind (d + 40) rc rs 0 [some (.ref 69), some (.int v), some (.int w), none] [] n h Q := by
  have h8r := hR.2.1
  have h14r := hR.2.2.2.1
  have hK := rg_rk hR
  refine aw_iload_n (npc := 1) rfl dX8_behind_0 rfl ?_
  refine aw_iconst (npc := 2) (v := 0) (by decide) dX8_behind_1 rfl ?_
  refine aw_bipush (npc := 4) (v := 100) (by decide) dX8_behind_2 rfl ?_
  refine aw_callS (npc := 7) (N := mX8_in) (mc := 0) (ms := 0) (A := [.int v, .int 0, .int 100]) (S := []) (L0 := [some (.int v), some (.int 0), some (.int 100)]) dX8_behind_4 rfl km_X8_in kk_X8_83 rfl ⟨rfl, by decide⟩ rfl (Nat.le_of_ble_eq_true rfl) (Nat.zero_add _) (Nat.zero_add _) rfl ?_
  refine c_X8_in (fun hw1 => ?_) (fun hw1 => ?_)
  · obtain ⟨vn, hvn, evn⟩ := wi_nI (H := 100) (by decide) (by decide) hw1
    subst evn
    have fvn : fN (nI vn) = vn := fN_nI (by omega)
    refine aw_re (S' := [.int 1]) rfl ?_
    refine aw_if_eq (npc := 10) (tgt := 19) dX8_behind_7 rfl (by decide) (fun hc => absurd hc (by decide)) (fun _ => ?_)
    refine aw_iload_n (npc := 11) rfl dX8_behind_10 rfl ?_
    refine aw_iconst (npc := 12) (v := 0) (by decide) dX8_behind_11 rfl ?_
    refine aw_iconst (npc := 13) (v := 3) (by decide) dX8_behind_12 rfl ?_
    refine aw_callS (npc := 16) (N := mX8_in) (mc := 0) (ms := 0) (A := [.int w, .int 0, .int 3]) (S := []) (L0 := [some (.int w), some (.int 0), some (.int 3)]) dX8_behind_13 rfl km_X8_in kk_X8_83 rfl ⟨rfl, by decide⟩ rfl (Nat.le_of_ble_eq_true rfl) (Nat.zero_add _) (Nat.zero_add _) rfl ?_
    refine c_X8_in (fun hw2 => ?_) (fun hw2 => ?_)
    · rcases wi_c0_3 hw2 with rfl | rfl | rfl | rfl
      · refine aw_re (S' := [.int 1]) rfl ?_
        refine aw_if_ne (npc := 19) (tgt := 22) dX8_behind_16 rfl (by decide) (fun _ => ?_) (fun hc => absurd hc (by decide))
        refine aw_aload_n (npc := 23) rfl dX8_behind_22 rfl ?_
        refine aw_callV (npc := 26) (N := mX8_thinks) (b := 69) (mc := 0) (ms := 0) (A := []) (S := []) (L0 := [some (.ref 69), none]) dX8_behind_23 rfl km_X8_thinks kk_X8_169 F.1 ⟨by decide, rfl⟩ rfl ⟨rfl, by decide⟩ rfl (Nat.le_of_ble_eq_true rfl) (Nat.zero_add _) (Nat.zero_add _) rfl ?_
        refine m_thinks F (fun aT3 hp4 F5 eT6 cT7 fz8 => ?_)
        refine aw_aload_n (npc := 27) rfl dX8_behind_26 rfl ?_
        refine aw_iload_n (npc := 28) rfl dX8_behind_27 rfl ?_
        refine aw_callV (npc := 31) (N := mX8_goesOn) (b := 69) (mc := 0) (ms := 0) (A := [.int (nI vn)]) (S := []) (L0 := [some (.ref 69), some (.int (nI vn)), none]) dX8_behind_28 rfl km_X8_goesOn kk_X8_163 F5.1 ⟨by decide, rfl⟩ rfl ⟨rfl, by decide⟩ rfl (Nat.le_of_ble_eq_true rfl) (Nat.zero_add _) (Nat.zero_add _) rfl ?_
        have o4x := ho4
        refine m_go (p := vn) (c := c) (fr := fr) (by omega) F5 (mi_rk hK (tc_txm hC)) (fun o9x9 N9x10 a9x11 h9x12 hrx13 Fx14 olx15 alx16 fzx17 => ?_)
        have eNx18 : N9x10 = goF c fr (-1) vn N := go_m _ _ _ hC hK (o4x ▸ hrx13)
        subst eNx18
        have o419 := ((olx15 4 (by decide)).trans o4x)
        have h7420 : ∀ j, j < 62 → a9x11 74 j = N j := (fun j hj => (congrFun (alx16 74 (by decide) (by decide) (by decide)) j).trans (eT6 j hj))
        refine aw_iload_n (npc := 32) rfl dX8_behind_31 rfl ?_
        refine aw_if_ne (npc := 35) (tgt := 44) dX8_behind_32 rfl (by decide) (fun hc => absurd (by decide) hc) (fun _ => ?_)
        refine aw_aload_n (npc := 36) rfl dX8_behind_35 rfl ?_
        refine aw_get (npc := 39) dX8_behind_36 rfl kf_X8_9 Fx14.1 rfl ?_
        refine aw_iconst (npc := 40) (v := 3) (by decide) dX8_behind_39 rfl ?_
        refine aw_iald (npc := 41) (x := (goF c fr (-1) vn N) 3) (j := 3) dX8_behind_40 rfl Fx14.2.1 ⟨by decide, by decide⟩ (tl_at (by omega)) ?_
        refine aw_goto (npc := 83) dX8_behind_41 (by decide) ?_
        refine aw_istore_n (npc := 84) (L' := [some (.ref 69), some (.int (nI vn)), some (.int 0), some (.int ((goF c fr (-1) vn N) 3))]) dX8_behind_83 rfl (by decide) rfl rfl ?_
        refine aw_aload_n (npc := 85) rfl dX8_behind_84 rfl ?_
        refine aw_callV (npc := 88) (N := mX8_putsBack) (b := 69) (mc := 0) (ms := 0) (A := []) (S := []) (L0 := [some (.ref 69), none]) dX8_behind_85 rfl km_X8_putsBack kk_X8_175 Fx14.1 ⟨by decide, rfl⟩ rfl ⟨rfl, by decide⟩ rfl (Nat.le_of_ble_eq_true rfl) (Nat.zero_add _) (Nat.zero_add _) rfl ?_
        refine m_puts Fx14 (fun N821 hp22 F23 e824 c825 fz26 => ?_)
        have eN27 : N821 = N := funext (fun j => by
          by_cases hj : j < 62
          · exact (e824 j hj).trans (h7420 j hj)
          · have hj : 62 ≤ j := by omega
            exact (c825 j hj).trans ((goF_62 hK.2.1 hj).trans rfl))
        rw [eN27] at F23
        refine aw_iload_n (npc := 89) rfl dX8_behind_88 rfl ?_
        refine aw_iret rfl dX8_behind_89 ?_
        exact hq _ _ _ _ (by simp [bhV, cI, hw1, hw2, fvn]) F23 (ol_end (olT_u (olT_t (olT_6 olx15) olT_0)) (Eq.trans pk_us ho4.symm)) (alT_t (alT_3 alx16) (alT_t (alT_4 cT7) alT_0)) (am_fpT (fun k (hk : k < 69 ∨ 92 ≤ k) => fz26 k (by omega)) (am_fpT (fun k (hk : k < 69 ∨ 92 ≤ k) => fzx17 k (by omega)) (am_fpT (fun k (hk : k < 69 ∨ 92 ≤ k) => fz8 k (by omega)) am_fp0)))
      · refine aw_re (S' := [.int 1]) rfl ?_
        refine aw_if_ne (npc := 19) (tgt := 22) dX8_behind_16 rfl (by decide) (fun _ => ?_) (fun hc => absurd hc (by decide))
        refine aw_aload_n (npc := 23) rfl dX8_behind_22 rfl ?_
        refine aw_callV (npc := 26) (N := mX8_thinks) (b := 69) (mc := 0) (ms := 0) (A := []) (S := []) (L0 := [some (.ref 69), none]) dX8_behind_23 rfl km_X8_thinks kk_X8_169 F.1 ⟨by decide, rfl⟩ rfl ⟨rfl, by decide⟩ rfl (Nat.le_of_ble_eq_true rfl) (Nat.zero_add _) (Nat.zero_add _) rfl ?_
        refine m_thinks F (fun aT28 hp29 F30 eT31 cT32 fz33 => ?_)
        refine aw_aload_n (npc := 27) rfl dX8_behind_26 rfl ?_
        refine aw_iload_n (npc := 28) rfl dX8_behind_27 rfl ?_
        refine aw_callV (npc := 31) (N := mX8_goesOn) (b := 69) (mc := 0) (ms := 0) (A := [.int (nI vn)]) (S := []) (L0 := [some (.ref 69), some (.int (nI vn)), none]) dX8_behind_28 rfl km_X8_goesOn kk_X8_163 F30.1 ⟨by decide, rfl⟩ rfl ⟨rfl, by decide⟩ rfl (Nat.le_of_ble_eq_true rfl) (Nat.zero_add _) (Nat.zero_add _) rfl ?_
        have o4x := ho4
        refine m_go (p := vn) (c := c) (fr := fr) (by omega) F30 (mi_rk hK (tc_txm hC)) (fun o9x34 N9x35 a9x36 h9x37 hrx38 Fx39 olx40 alx41 fzx42 => ?_)
        have eNx43 : N9x35 = goF c fr (-1) vn N := go_m _ _ _ hC hK (o4x ▸ hrx38)
        subst eNx43
        have o444 := ((olx40 4 (by decide)).trans o4x)
        have h7445 : ∀ j, j < 62 → a9x36 74 j = N j := (fun j hj => (congrFun (alx41 74 (by decide) (by decide) (by decide)) j).trans (eT31 j hj))
        refine aw_iload_n (npc := 32) rfl dX8_behind_31 rfl ?_
        refine aw_if_ne (npc := 35) (tgt := 44) dX8_behind_32 rfl (by decide) (fun _ => ?_) (fun hc => absurd hc (by decide))
        refine aw_iload_n (npc := 45) rfl dX8_behind_44 rfl ?_
        refine aw_iconst (npc := 46) (v := 1) (by decide) dX8_behind_45 rfl ?_
        refine aw_icmp_ne (npc := 49) (tgt := 56) dX8_behind_46 rfl (by decide) (fun hc => absurd (by decide) hc) (fun _ => ?_)
        refine aw_aload_n (npc := 50) rfl dX8_behind_49 rfl ?_
        refine aw_callV (npc := 53) (N := mX8_stands) (b := 69) (mc := 0) (ms := 0) (A := []) (S := []) (L0 := [some (.ref 69), none, none]) dX8_behind_50 rfl km_X8_stands kk_X8_166 Fx39.1 ⟨by decide, rfl⟩ rfl ⟨rfl, by decide⟩ rfl (Nat.le_of_ble_eq_true rfl) (Nat.zero_add _) (Nat.zero_add _) rfl ?_
        refine m_stands Fx39 ?_
        refine aw_re (S' := [.int (snum (goF c fr (-1) vn N))]) rfl ?_
        refine aw_goto (npc := 83) dX8_behind_53 (by decide) ?_
        refine aw_istore_n (npc := 84) (L' := [some (.ref 69), some (.int (nI vn)), some (.int 1), some (.int (snum (goF c fr (-1) vn N)))]) dX8_behind_83 rfl (by decide) rfl rfl ?_
        refine aw_aload_n (npc := 85) rfl dX8_behind_84 rfl ?_
        refine aw_callV (npc := 88) (N := mX8_putsBack) (b := 69) (mc := 0) (ms := 0) (A := []) (S := []) (L0 := [some (.ref 69), none]) dX8_behind_85 rfl km_X8_putsBack kk_X8_175 Fx39.1 ⟨by decide, rfl⟩ rfl ⟨rfl, by decide⟩ rfl (Nat.le_of_ble_eq_true rfl) (Nat.zero_add _) (Nat.zero_add _) rfl ?_
        refine m_puts Fx39 (fun N846 hp47 F48 e849 c850 fz51 => ?_)
        have eN52 : N846 = N := funext (fun j => by
          by_cases hj : j < 62
          · exact (e849 j hj).trans (h7445 j hj)
          · have hj : 62 ≤ j := by omega
            exact (c850 j hj).trans ((goF_62 hK.2.1 hj).trans rfl))
        rw [eN52] at F48
        refine aw_iload_n (npc := 89) rfl dX8_behind_88 rfl ?_
        refine aw_iret rfl dX8_behind_89 ?_
        exact hq _ _ _ _ (by simp [bhV, cI, hw1, hw2, fvn]) F48 (ol_end (olT_u (olT_t (olT_6 olx40) olT_0)) (Eq.trans pk_us ho4.symm)) (alT_t (alT_3 alx41) (alT_t (alT_4 cT32) alT_0)) (am_fpT (fun k (hk : k < 69 ∨ 92 ≤ k) => fz51 k (by omega)) (am_fpT (fun k (hk : k < 69 ∨ 92 ≤ k) => fzx42 k (by omega)) (am_fpT (fun k (hk : k < 69 ∨ 92 ≤ k) => fz33 k (by omega)) am_fp0)))
      · refine aw_re (S' := [.int 1]) rfl ?_
        refine aw_if_ne (npc := 19) (tgt := 22) dX8_behind_16 rfl (by decide) (fun _ => ?_) (fun hc => absurd hc (by decide))
        refine aw_aload_n (npc := 23) rfl dX8_behind_22 rfl ?_
        refine aw_callV (npc := 26) (N := mX8_thinks) (b := 69) (mc := 0) (ms := 0) (A := []) (S := []) (L0 := [some (.ref 69), none]) dX8_behind_23 rfl km_X8_thinks kk_X8_169 F.1 ⟨by decide, rfl⟩ rfl ⟨rfl, by decide⟩ rfl (Nat.le_of_ble_eq_true rfl) (Nat.zero_add _) (Nat.zero_add _) rfl ?_
        refine m_thinks F (fun aT53 hp54 F55 eT56 cT57 fz58 => ?_)
        refine aw_aload_n (npc := 27) rfl dX8_behind_26 rfl ?_
        refine aw_iload_n (npc := 28) rfl dX8_behind_27 rfl ?_
        refine aw_callV (npc := 31) (N := mX8_goesOn) (b := 69) (mc := 0) (ms := 0) (A := [.int (nI vn)]) (S := []) (L0 := [some (.ref 69), some (.int (nI vn)), none]) dX8_behind_28 rfl km_X8_goesOn kk_X8_163 F55.1 ⟨by decide, rfl⟩ rfl ⟨rfl, by decide⟩ rfl (Nat.le_of_ble_eq_true rfl) (Nat.zero_add _) (Nat.zero_add _) rfl ?_
        have o4x := ho4
        refine m_go (p := vn) (c := c) (fr := fr) (by omega) F55 (mi_rk hK (tc_txm hC)) (fun o9x59 N9x60 a9x61 h9x62 hrx63 Fx64 olx65 alx66 fzx67 => ?_)
        have eNx68 : N9x60 = goF c fr (-1) vn N := go_m _ _ _ hC hK (o4x ▸ hrx63)
        subst eNx68
        have o469 := ((olx65 4 (by decide)).trans o4x)
        have h7470 : ∀ j, j < 62 → a9x61 74 j = N j := (fun j hj => (congrFun (alx66 74 (by decide) (by decide) (by decide)) j).trans (eT56 j hj))
        refine aw_iload_n (npc := 32) rfl dX8_behind_31 rfl ?_
        refine aw_if_ne (npc := 35) (tgt := 44) dX8_behind_32 rfl (by decide) (fun _ => ?_) (fun hc => absurd hc (by decide))
        refine aw_iload_n (npc := 45) rfl dX8_behind_44 rfl ?_
        refine aw_iconst (npc := 46) (v := 1) (by decide) dX8_behind_45 rfl ?_
        refine aw_icmp_ne (npc := 49) (tgt := 56) dX8_behind_46 rfl (by decide) (fun _ => ?_) (fun hc => absurd hc (by decide))
        refine aw_iload_n (npc := 57) rfl dX8_behind_56 rfl ?_
        refine aw_iconst (npc := 58) (v := 2) (by decide) dX8_behind_57 rfl ?_
        refine aw_icmp_ne (npc := 61) (tgt := 76) dX8_behind_58 rfl (by decide) (fun hc => absurd (by decide) hc) (fun _ => ?_)
        refine aw_aload_n (npc := 62) rfl dX8_behind_61 rfl ?_
        refine aw_callV (npc := 65) (N := mX8_isPeace) (b := 69) (mc := 0) (ms := 0) (A := []) (S := []) (L0 := [some (.ref 69)]) dX8_behind_62 rfl km_X8_isPeace kk_X8_149 Fx64.1 ⟨by decide, rfl⟩ rfl ⟨rfl, by decide⟩ rfl (Nat.le_of_ble_eq_true rfl) (Nat.zero_add _) (Nat.zero_add _) rfl ?_
        refine m_peace Fx64 (fun hp71 => ?_) (fun hp71 => ?_)
        · refine aw_re (S' := [.int 1]) rfl ?_
          refine aw_if_eq (npc := 68) (tgt := 72) dX8_behind_65 rfl (by decide) (fun hc => absurd hc (by decide)) (fun _ => ?_)
          refine aw_iconst (npc := 69) (v := 1) (by decide) dX8_behind_68 rfl ?_
          refine aw_goto (npc := 83) dX8_behind_69 (by decide) ?_
          refine aw_istore_n (npc := 84) (L' := [some (.ref 69), some (.int (nI vn)), some (.int 2), some (.int 1)]) dX8_behind_83 rfl (by decide) rfl rfl ?_
          refine aw_aload_n (npc := 85) rfl dX8_behind_84 rfl ?_
          refine aw_callV (npc := 88) (N := mX8_putsBack) (b := 69) (mc := 0) (ms := 0) (A := []) (S := []) (L0 := [some (.ref 69), none]) dX8_behind_85 rfl km_X8_putsBack kk_X8_175 Fx64.1 ⟨by decide, rfl⟩ rfl ⟨rfl, by decide⟩ rfl (Nat.le_of_ble_eq_true rfl) (Nat.zero_add _) (Nat.zero_add _) rfl ?_
          refine m_puts Fx64 (fun N872 hp73 F74 e875 c876 fz77 => ?_)
          have eN78 : N872 = N := funext (fun j => by
            by_cases hj : j < 62
            · exact (e875 j hj).trans (h7470 j hj)
            · have hj : 62 ≤ j := by omega
              exact (c876 j hj).trans ((goF_62 hK.2.1 hj).trans rfl))
          rw [eN78] at F74
          refine aw_iload_n (npc := 89) rfl dX8_behind_88 rfl ?_
          refine aw_iret rfl dX8_behind_89 ?_
          exact hq _ _ _ _ (by simp [bhV, cI, hw1, hw2, hp71, fvn]) F74 (ol_end (olT_u (olT_t (olT_6 olx65) olT_0)) (Eq.trans pk_us ho4.symm)) (alT_t (alT_3 alx66) (alT_t (alT_4 cT57) alT_0)) (am_fpT (fun k (hk : k < 69 ∨ 92 ≤ k) => fz77 k (by omega)) (am_fpT (fun k (hk : k < 69 ∨ 92 ≤ k) => fzx67 k (by omega)) (am_fpT (fun k (hk : k < 69 ∨ 92 ≤ k) => fz58 k (by omega)) am_fp0)))
        · refine aw_re (S' := [.int 0]) rfl ?_
          refine aw_if_eq (npc := 68) (tgt := 72) dX8_behind_65 rfl (by decide) (fun _ => ?_) (fun hc => absurd (by decide) hc)
          refine aw_iconst (npc := 73) (v := 0) (by decide) dX8_behind_72 rfl ?_
          refine aw_goto (npc := 83) dX8_behind_73 (by decide) ?_
          refine aw_istore_n (npc := 84) (L' := [some (.ref 69), some (.int (nI vn)), some (.int 2), some (.int 0)]) dX8_behind_83 rfl (by decide) rfl rfl ?_
          refine aw_aload_n (npc := 85) rfl dX8_behind_84 rfl ?_
          refine aw_callV (npc := 88) (N := mX8_putsBack) (b := 69) (mc := 0) (ms := 0) (A := []) (S := []) (L0 := [some (.ref 69), none]) dX8_behind_85 rfl km_X8_putsBack kk_X8_175 Fx64.1 ⟨by decide, rfl⟩ rfl ⟨rfl, by decide⟩ rfl (Nat.le_of_ble_eq_true rfl) (Nat.zero_add _) (Nat.zero_add _) rfl ?_
          refine m_puts Fx64 (fun N879 hp80 F81 e882 c883 fz84 => ?_)
          have eN85 : N879 = N := funext (fun j => by
            by_cases hj : j < 62
            · exact (e882 j hj).trans (h7470 j hj)
            · have hj : 62 ≤ j := by omega
              exact (c883 j hj).trans ((goF_62 hK.2.1 hj).trans rfl))
          rw [eN85] at F81
          refine aw_iload_n (npc := 89) rfl dX8_behind_88 rfl ?_
          refine aw_iret rfl dX8_behind_89 ?_
          exact hq _ _ _ _ (by simp [bhV, cI, hw1, hw2, hp71, fvn]) F81 (ol_end (olT_u (olT_t (olT_6 olx65) olT_0)) (Eq.trans pk_us ho4.symm)) (alT_t (alT_3 alx66) (alT_t (alT_4 cT57) alT_0)) (am_fpT (fun k (hk : k < 69 ∨ 92 ≤ k) => fz84 k (by omega)) (am_fpT (fun k (hk : k < 69 ∨ 92 ≤ k) => fzx67 k (by omega)) (am_fpT (fun k (hk : k < 69 ∨ 92 ≤ k) => fz58 k (by omega)) am_fp0)))
      · refine aw_re (S' := [.int 1]) rfl ?_
        refine aw_if_ne (npc := 19) (tgt := 22) dX8_behind_16 rfl (by decide) (fun _ => ?_) (fun hc => absurd hc (by decide))
        refine aw_aload_n (npc := 23) rfl dX8_behind_22 rfl ?_
        refine aw_callV (npc := 26) (N := mX8_thinks) (b := 69) (mc := 0) (ms := 0) (A := []) (S := []) (L0 := [some (.ref 69), none]) dX8_behind_23 rfl km_X8_thinks kk_X8_169 F.1 ⟨by decide, rfl⟩ rfl ⟨rfl, by decide⟩ rfl (Nat.le_of_ble_eq_true rfl) (Nat.zero_add _) (Nat.zero_add _) rfl ?_
        refine m_thinks F (fun aT86 hp87 F88 eT89 cT90 fz91 => ?_)
        refine aw_aload_n (npc := 27) rfl dX8_behind_26 rfl ?_
        refine aw_iload_n (npc := 28) rfl dX8_behind_27 rfl ?_
        refine aw_callV (npc := 31) (N := mX8_goesOn) (b := 69) (mc := 0) (ms := 0) (A := [.int (nI vn)]) (S := []) (L0 := [some (.ref 69), some (.int (nI vn)), none]) dX8_behind_28 rfl km_X8_goesOn kk_X8_163 F88.1 ⟨by decide, rfl⟩ rfl ⟨rfl, by decide⟩ rfl (Nat.le_of_ble_eq_true rfl) (Nat.zero_add _) (Nat.zero_add _) rfl ?_
        have o4x := ho4
        refine m_go (p := vn) (c := c) (fr := fr) (by omega) F88 (mi_rk hK (tc_txm hC)) (fun o9x92 N9x93 a9x94 h9x95 hrx96 Fx97 olx98 alx99 fzx100 => ?_)
        have eNx101 : N9x93 = goF c fr (-1) vn N := go_m _ _ _ hC hK (o4x ▸ hrx96)
        subst eNx101
        have o4102 := ((olx98 4 (by decide)).trans o4x)
        have h74103 : ∀ j, j < 62 → a9x94 74 j = N j := (fun j hj => (congrFun (alx99 74 (by decide) (by decide) (by decide)) j).trans (eT89 j hj))
        refine aw_iload_n (npc := 32) rfl dX8_behind_31 rfl ?_
        refine aw_if_ne (npc := 35) (tgt := 44) dX8_behind_32 rfl (by decide) (fun _ => ?_) (fun hc => absurd hc (by decide))
        refine aw_iload_n (npc := 45) rfl dX8_behind_44 rfl ?_
        refine aw_iconst (npc := 46) (v := 1) (by decide) dX8_behind_45 rfl ?_
        refine aw_icmp_ne (npc := 49) (tgt := 56) dX8_behind_46 rfl (by decide) (fun _ => ?_) (fun hc => absurd hc (by decide))
        refine aw_iload_n (npc := 57) rfl dX8_behind_56 rfl ?_
        refine aw_iconst (npc := 58) (v := 2) (by decide) dX8_behind_57 rfl ?_
        refine aw_icmp_ne (npc := 61) (tgt := 76) dX8_behind_58 rfl (by decide) (fun _ => ?_) (fun hc => absurd hc (by decide))
        refine aw_aload_n (npc := 77) rfl dX8_behind_76 rfl ?_
        refine aw_get (npc := 80) dX8_behind_77 rfl kf_X8_9 Fx97.1 rfl ?_
        refine aw_bipush (npc := 82) (v := 6) (by decide) dX8_behind_80 rfl ?_
        refine aw_iald (npc := 83) (x := (goF c fr (-1) vn N) 6) (j := 6) dX8_behind_82 rfl Fx97.2.1 ⟨by decide, by decide⟩ (tl_at (by omega)) ?_
        refine aw_istore_n (npc := 84) (L' := [some (.ref 69), some (.int (nI vn)), some (.int 3), some (.int ((goF c fr (-1) vn N) 6))]) dX8_behind_83 rfl (by decide) rfl rfl ?_
        refine aw_aload_n (npc := 85) rfl dX8_behind_84 rfl ?_
        refine aw_callV (npc := 88) (N := mX8_putsBack) (b := 69) (mc := 0) (ms := 0) (A := []) (S := []) (L0 := [some (.ref 69), none]) dX8_behind_85 rfl km_X8_putsBack kk_X8_175 Fx97.1 ⟨by decide, rfl⟩ rfl ⟨rfl, by decide⟩ rfl (Nat.le_of_ble_eq_true rfl) (Nat.zero_add _) (Nat.zero_add _) rfl ?_
        refine m_puts Fx97 (fun N8104 hp105 F106 e8107 c8108 fz109 => ?_)
        have eN110 : N8104 = N := funext (fun j => by
          by_cases hj : j < 62
          · exact (e8107 j hj).trans (h74103 j hj)
          · have hj : 62 ≤ j := by omega
            exact (c8108 j hj).trans ((goF_62 hK.2.1 hj).trans rfl))
        rw [eN110] at F106
        refine aw_iload_n (npc := 89) rfl dX8_behind_88 rfl ?_
        refine aw_iret rfl dX8_behind_89 ?_
        exact hq _ _ _ _ (by simp [bhV, cI, hw1, hw2, fvn]) F106 (ol_end (olT_u (olT_t (olT_6 olx98) olT_0)) (Eq.trans pk_us ho4.symm)) (alT_t (alT_3 alx99) (alT_t (alT_4 cT90) alT_0)) (am_fpT (fun k (hk : k < 69 ∨ 92 ≤ k) => fz109 k (by omega)) (am_fpT (fun k (hk : k < 69 ∨ 92 ≤ k) => fzx100 k (by omega)) (am_fpT (fun k (hk : k < 69 ∨ 92 ≤ k) => fz91 k (by omega)) am_fp0)))
    · refine aw_re (S' := [.int 0]) rfl ?_
      refine aw_if_ne (npc := 19) (tgt := 22) dX8_behind_16 rfl (by decide) (fun hc => absurd (by decide) hc) (fun _ => ?_)
      refine aw_ldc (npc := 21) kc_X8_91 dX8_behind_19 rfl ?_
      refine aw_iret rfl dX8_behind_21 ?_
      exact hq _ _ _ _ (by simp [bhV, cI, hw1, hw2, fvn, nwi_1 hw2 (k := 0) ⟨by decide, by decide⟩, nwi_1 hw2 (k := 1) ⟨by decide, by decide⟩, nwi_1 hw2 (k := 2) ⟨by decide, by decide⟩, nwi_1 hw2 (k := 3) ⟨by decide, by decide⟩]) F (ol_end olT_0 (Eq.trans ho4 ho4.symm)) alT_0 am_fp0
  · refine aw_re (S' := [.int 0]) rfl ?_
    refine aw_if_eq (npc := 10) (tgt := 19) dX8_behind_7 rfl (by decide) (fun _ => ?_) (fun hc => absurd (by decide) hc)
    refine aw_ldc (npc := 21) kc_X8_91 dX8_behind_19 rfl ?_
    refine aw_iret rfl dX8_behind_21 ?_
    exact hq _ _ _ _ (by simp [bhV, cI, hw1]) F (ol_end olT_0 (Eq.trans ho4 ho4.symm)) alT_0 am_fp0
set_option maxHeartbeats 4000000 in
set_option maxRecDepth 100000 in
theorem m_ew {X : List Int32} {d rc rs n : Nat} {Q : am_Q} {h : am_H} {o N : Nat → Int32} {a : Nat → Nat → Int32} {fr c : Nat} {tb : TB} {tx : List Value} {lk N0 : Nat → Int32} {K : Nat} {wo : Int32} (hK60 : K < 1000) (F : MR o N a h) (hC : TC tb tx lk N c) (hK : RK N fr c) (h74 : ∀ j, j < 62 → a 74 j = N0 j) (h62 : ∀ j, 62 ≤ j → N j = N0 j) (ho : o 4 = wo) (k1 : peace (goF c fr wo K N) → ∀ o9 a9 h9, MR o9 N0 a9 h9 → o9 4 = -1 → olT o9 o → al3 a9 a → am_fp (fun k => k < 69 ∨ 92 ≤ k) h9 h → Q (some (.int 1)) n h9) (k0 : ¬ peace (goF c fr wo K N) → ∀ o9 a9 h9, MR o9 N0 a9 h9 → o9 4 = -1 → olT o9 o → al3 a9 a → am_fp (fun k => k < 69 ∨ 92 ≤ k) h9 h → Q (some (.int 0)) n h9) : AW X mX8_endsWell (d + 30) rc rs 0 [some (.ref 69), some (.int (nI K)), none] [] n h Q := by
  refine aw_aload_n (npc := 1) rfl dX8_endsWell_0 rfl ?_
  refine aw_iload_n (npc := 2) rfl dX8_endsWell_1 rfl ?_
  refine aw_callV (npc := 5) (N := mX8_goesOn) (b := 69) (mc := 0) (ms := 0) (A := [.int (nI K)]) (S := []) (L0 := [some (.ref 69), some (.int (nI K)), none]) dX8_endsWell_2 rfl km_X8_goesOn kk_X8_163 F.1 ⟨by decide, rfl⟩ rfl ⟨rfl, by decide⟩ rfl (Nat.le_of_ble_eq_true rfl) (Nat.zero_add _) (Nat.zero_add _) rfl ?_
  have o4x := ho
  refine m_go (p := K) (c := c) (fr := fr) (by omega) F (mi_rk hK (tc_txm hC)) (fun o9x1 N9x2 a9x3 h9x4 hrx5 Fx6 olx7 alx8 fzx9 => ?_)
  have eNx10 : N9x2 = goF c fr wo K N := go_m _ _ _ hC hK (o4x ▸ hrx5)
  subst eNx10
  have o411 := ((olx7 4 (by decide)).trans o4x)
  have h7412 : ∀ j, j < 62 → a9x3 74 j = N0 j := (fun j hj => (congrFun (alx8 74 (by decide) (by decide) (by decide)) j).trans (h74 j hj))
  refine aw_aload_n (npc := 6) rfl dX8_endsWell_5 rfl ?_
  refine aw_callV (npc := 9) (N := mX8_isPeace) (b := 69) (mc := 0) (ms := 0) (A := []) (S := []) (L0 := [some (.ref 69)]) dX8_endsWell_6 rfl km_X8_isPeace kk_X8_149 Fx6.1 ⟨by decide, rfl⟩ rfl ⟨rfl, by decide⟩ rfl (Nat.le_of_ble_eq_true rfl) (Nat.zero_add _) (Nat.zero_add _) rfl ?_
  refine m_peace Fx6 (fun hp13 => ?_) (fun hp13 => ?_)
  · refine aw_re (S' := [.int 1]) rfl ?_
    refine aw_istore_n (npc := 10) (L' := [some (.ref 69), some (.int (nI K)), some (.int 1)]) dX8_endsWell_9 rfl (by decide) rfl rfl ?_
    refine aw_aload_n (npc := 11) rfl dX8_endsWell_10 rfl ?_
    refine aw_callV (npc := 14) (N := mX8_putsBack) (b := 69) (mc := 0) (ms := 0) (A := []) (S := []) (L0 := [some (.ref 69), none]) dX8_endsWell_11 rfl km_X8_putsBack kk_X8_175 Fx6.1 ⟨by decide, rfl⟩ rfl ⟨rfl, by decide⟩ rfl (Nat.le_of_ble_eq_true rfl) (Nat.zero_add _) (Nat.zero_add _) rfl ?_
    refine m_puts Fx6 (fun N814 hp15 F16 e817 c818 fz19 => ?_)
    have eN20 : N814 = N0 := funext (fun j => by
      by_cases hj : j < 62
      · exact (e817 j hj).trans (h7412 j hj)
      · have hj : 62 ≤ j := by omega
        exact (c818 j hj).trans ((goF_62 hK.2.1 hj).trans (h62 j hj)))
    subst eN20
    refine aw_iload_n (npc := 15) rfl dX8_endsWell_14 rfl ?_
    refine aw_zret rfl rfl dX8_endsWell_15 ?_
    exact k1 hp13 _ _ _ F16 pk_us (olT_u (olT_t (olT_6 olx7) olT_0)) (al3_t alx8 al3_0) (am_fpT (fun k (hk : k < 69 ∨ 92 ≤ k) => fz19 k (by omega)) (am_fpT (fun k (hk : k < 69 ∨ 92 ≤ k) => fzx9 k (by omega)) am_fp0))
  · refine aw_re (S' := [.int 0]) rfl ?_
    refine aw_istore_n (npc := 10) (L' := [some (.ref 69), some (.int (nI K)), some (.int 0)]) dX8_endsWell_9 rfl (by decide) rfl rfl ?_
    refine aw_aload_n (npc := 11) rfl dX8_endsWell_10 rfl ?_
    refine aw_callV (npc := 14) (N := mX8_putsBack) (b := 69) (mc := 0) (ms := 0) (A := []) (S := []) (L0 := [some (.ref 69), none]) dX8_endsWell_11 rfl km_X8_putsBack kk_X8_175 Fx6.1 ⟨by decide, rfl⟩ rfl ⟨rfl, by decide⟩ rfl (Nat.le_of_ble_eq_true rfl) (Nat.zero_add _) (Nat.zero_add _) rfl ?_
    refine m_puts Fx6 (fun N821 hp22 F23 e824 c825 fz26 => ?_)
    have eN27 : N821 = N0 := funext (fun j => by
      by_cases hj : j < 62
      · exact (e824 j hj).trans (h7412 j hj)
      · have hj : 62 ≤ j := by omega
        exact (c825 j hj).trans ((goF_62 hK.2.1 hj).trans (h62 j hj)))
    subst eN27
    refine aw_iload_n (npc := 15) rfl dX8_endsWell_14 rfl ?_
    refine aw_zret rfl rfl dX8_endsWell_15 ?_
    exact k0 hp13 _ _ _ F23 pk_us (olT_u (olT_t (olT_6 olx7) olT_0)) (al3_t alx8 al3_0) (am_fpT (fun k (hk : k < 69 ∨ 92 ≤ k) => fz26 k (by omega)) (am_fpT (fun k (hk : k < 69 ∨ 92 ≤ k) => fzx9 k (by omega)) am_fp0))
set_option maxHeartbeats 4000000 in
set_option maxRecDepth 100000 in
theorem M_endsL {X : List Int32} {d rc rs n : Nat} {Q : am_Q} {fr c : Nat} {tb : TB} {tx : List Value} {lk : Nat → Int32} {N : Nat → Int32} {w : Int32} (hw01 : wi w 0 1) : ∀ (m k : Nat), k + m = 201 → ∀ (v3 : Option Value) (NA o : Nat → Int32) (a : Nat → Nat → Int32) (h : am_H), MR o NA a h → TC tb tx lk NA c → RK NA fr c → (∀ j, j < 62 → a 74 j = N j) → (∀ j, 62 ≤ j → NA j = N j) → o 4 = -1 → (∀ v9 o9 a9 h9, v9 = enV c fr w m k NA → MR o9 N a9 h9 → olT o9 o → o9 4 = -1 → alT a9 a → am_fp (fun k => k < 69 ∨ 92 ≤ k) h9 h → Q (some (.int v9)) n h9) → AW X mX8_ends (d + 40) rc rs 18 [some (.ref 69), some (.int w), some (.int (nI k)), v3] [] n h Q := by
  intro m
  induction m with
  | zero =>
    intro k hk v3 NA o a h F hCA hKA h74 h62 ho4 hq
    obtain rfl : k = 201 := by omega
    refine aw_iload_n (npc := 19) rfl dX8_ends_18 rfl ?_
    refine aw_sipush (npc := 22) (v := 200) (by decide) dX8_ends_19 rfl ?_
    refine aw_icmp_gt (npc := 25) (tgt := 57) dX8_ends_22 rfl (by decide) (fun _ => ?_) (fun hc => absurd (nI_lt (a := 200) (b := 201) (by omega) (by omega)) hc)
    refine aw_aload_n (npc := 58) rfl dX8_ends_57 rfl ?_
    refine aw_callV (npc := 61) (N := mX8_isPeace) (b := 69) (mc := 0) (ms := 0) (A := []) (S := []) (L0 := [some (.ref 69)]) dX8_ends_58 rfl km_X8_isPeace kk_X8_149 F.1 ⟨by decide, rfl⟩ rfl ⟨rfl, by decide⟩ rfl (Nat.le_of_ble_eq_true rfl) (Nat.zero_add _) (Nat.zero_add _) rfl ?_
    refine m_peace F (fun hp2 => ?_) (fun hp2 => ?_)
    · refine aw_re (S' := [.int 1]) rfl ?_
      refine aw_if_eq (npc := 64) (tgt := 68) dX8_ends_61 rfl (by decide) (fun hc => absurd hc (by decide)) (fun _ => ?_)
      refine aw_iconst (npc := 65) (v := 1) (by decide) dX8_ends_64 rfl ?_
      refine aw_goto (npc := 69) dX8_ends_65 (by decide) ?_
      refine aw_istore_n (npc := 70) (L' := [some (.ref 69), some (.int w), some (.int (nI 201)), some (.int 1)]) dX8_ends_69 rfl (by decide) rfl rfl ?_
      refine aw_aload_n (npc := 71) rfl dX8_ends_70 rfl ?_
      refine aw_callV (npc := 74) (N := mX8_putsBack) (b := 69) (mc := 0) (ms := 0) (A := []) (S := []) (L0 := [some (.ref 69), none]) dX8_ends_71 rfl km_X8_putsBack kk_X8_175 F.1 ⟨by decide, rfl⟩ rfl ⟨rfl, by decide⟩ rfl (Nat.le_of_ble_eq_true rfl) (Nat.zero_add _) (Nat.zero_add _) rfl ?_
      refine m_puts F (fun N83 hp4 F5 e86 c87 fz8 => ?_)
      have eN9 : N83 = N := funext (fun j => by
        by_cases hj : j < 62
        · exact (e86 j hj).trans (h74 j hj)
        · have hj : 62 ≤ j := by omega
          exact (c87 j hj).trans (h62 j hj))
      rw [eN9] at F5
      refine aw_iload_n (npc := 75) rfl dX8_ends_74 rfl ?_
      refine aw_sipush (npc := 78) (v := 200) (by decide) dX8_ends_75 rfl ?_
      refine aw_icmp_le (npc := 81) (tgt := 86) dX8_ends_78 rfl (by decide) (fun hc => absurd hc (nI_ge (a := 200) (b := 201) (by omega) (by omega))) (fun _ => ?_)
      refine aw_ldc (npc := 83) kc_X8_82 dX8_ends_81 rfl ?_
      refine aw_goto (npc := 95) dX8_ends_83 (by decide) ?_
      refine aw_iret rfl dX8_ends_95 ?_
      exact hq _ _ _ _ (by simp [enV, cI, hp2]) F5 (olT_u olT_0) pk_us alT_0 (am_fpT (fun k (hk : k < 69 ∨ 92 ≤ k) => fz8 k (by omega)) am_fp0)
    · refine aw_re (S' := [.int 0]) rfl ?_
      refine aw_if_eq (npc := 64) (tgt := 68) dX8_ends_61 rfl (by decide) (fun _ => ?_) (fun hc => absurd (by decide) hc)
      refine aw_iconst (npc := 69) (v := 2) (by decide) dX8_ends_68 rfl ?_
      refine aw_istore_n (npc := 70) (L' := [some (.ref 69), some (.int w), some (.int (nI 201)), some (.int 2)]) dX8_ends_69 rfl (by decide) rfl rfl ?_
      refine aw_aload_n (npc := 71) rfl dX8_ends_70 rfl ?_
      refine aw_callV (npc := 74) (N := mX8_putsBack) (b := 69) (mc := 0) (ms := 0) (A := []) (S := []) (L0 := [some (.ref 69), none]) dX8_ends_71 rfl km_X8_putsBack kk_X8_175 F.1 ⟨by decide, rfl⟩ rfl ⟨rfl, by decide⟩ rfl (Nat.le_of_ble_eq_true rfl) (Nat.zero_add _) (Nat.zero_add _) rfl ?_
      refine m_puts F (fun N811 hp12 F13 e814 c815 fz16 => ?_)
      have eN17 : N811 = N := funext (fun j => by
        by_cases hj : j < 62
        · exact (e814 j hj).trans (h74 j hj)
        · have hj : 62 ≤ j := by omega
          exact (c815 j hj).trans (h62 j hj))
      rw [eN17] at F13
      refine aw_iload_n (npc := 75) rfl dX8_ends_74 rfl ?_
      refine aw_sipush (npc := 78) (v := 200) (by decide) dX8_ends_75 rfl ?_
      refine aw_icmp_le (npc := 81) (tgt := 86) dX8_ends_78 rfl (by decide) (fun hc => absurd hc (nI_ge (a := 200) (b := 201) (by omega) (by omega))) (fun _ => ?_)
      refine aw_ldc (npc := 83) kc_X8_82 dX8_ends_81 rfl ?_
      refine aw_goto (npc := 95) dX8_ends_83 (by decide) ?_
      refine aw_iret rfl dX8_ends_95 ?_
      exact hq _ _ _ _ (by simp [enV, cI, hp2]) F13 (olT_u olT_0) pk_us alT_0 (am_fpT (fun k (hk : k < 69 ∨ 92 ≤ k) => fz16 k (by omega)) am_fp0)
  | succ m ih =>
    intro k hk v3 NA o a h F hCA hKA h74 h62 ho4 hq
    refine aw_iload_n (npc := 19) rfl dX8_ends_18 rfl ?_
    refine aw_sipush (npc := 22) (v := 200) (by decide) dX8_ends_19 rfl ?_
    refine aw_icmp_gt (npc := 25) (tgt := 57) dX8_ends_22 rfl (by decide) (fun hc => absurd hc (nI_nlt (a := 200) (b := k) (by omega) (by omega))) (fun _ => ?_)
    refine aw_aload_n (npc := 26) rfl dX8_ends_25 rfl ?_
    refine aw_callV (npc := 29) (N := mX8_isPeace) (b := 69) (mc := 0) (ms := 0) (A := []) (S := []) (L0 := [some (.ref 69)]) dX8_ends_26 rfl km_X8_isPeace kk_X8_149 F.1 ⟨by decide, rfl⟩ rfl ⟨rfl, by decide⟩ rfl (Nat.le_of_ble_eq_true rfl) (Nat.zero_add _) (Nat.zero_add _) rfl ?_
    refine m_peace F (fun hp2 => ?_) (fun hp2 => ?_)
    · refine aw_re (S' := [.int 1]) rfl ?_
      refine aw_if_ne (npc := 32) (tgt := 57) dX8_ends_29 rfl (by decide) (fun _ => ?_) (fun hc => absurd hc (by decide))
      refine aw_aload_n (npc := 58) rfl dX8_ends_57 rfl ?_
      refine aw_callV (npc := 61) (N := mX8_isPeace) (b := 69) (mc := 0) (ms := 0) (A := []) (S := []) (L0 := [some (.ref 69)]) dX8_ends_58 rfl km_X8_isPeace kk_X8_149 F.1 ⟨by decide, rfl⟩ rfl ⟨rfl, by decide⟩ rfl (Nat.le_of_ble_eq_true rfl) (Nat.zero_add _) (Nat.zero_add _) rfl ?_
      refine m_peace F (fun hp9 => ?_) (fun hp9 => ?_)
      · refine aw_re (S' := [.int 1]) rfl ?_
        refine aw_if_eq (npc := 64) (tgt := 68) dX8_ends_61 rfl (by decide) (fun hc => absurd hc (by decide)) (fun _ => ?_)
        refine aw_iconst (npc := 65) (v := 1) (by decide) dX8_ends_64 rfl ?_
        refine aw_goto (npc := 69) dX8_ends_65 (by decide) ?_
        refine aw_istore_n (npc := 70) (L' := [some (.ref 69), some (.int w), some (.int (nI k)), some (.int 1)]) dX8_ends_69 rfl (by decide) rfl rfl ?_
        refine aw_aload_n (npc := 71) rfl dX8_ends_70 rfl ?_
        refine aw_callV (npc := 74) (N := mX8_putsBack) (b := 69) (mc := 0) (ms := 0) (A := []) (S := []) (L0 := [some (.ref 69), none]) dX8_ends_71 rfl km_X8_putsBack kk_X8_175 F.1 ⟨by decide, rfl⟩ rfl ⟨rfl, by decide⟩ rfl (Nat.le_of_ble_eq_true rfl) (Nat.zero_add _) (Nat.zero_add _) rfl ?_
        refine m_puts F (fun N83 hp4 F5 e86 c87 fz8 => ?_)
        have eN9 : N83 = N := funext (fun j => by
          by_cases hj : j < 62
          · exact (e86 j hj).trans (h74 j hj)
          · have hj : 62 ≤ j := by omega
            exact (c87 j hj).trans (h62 j hj))
        rw [eN9] at F5
        refine aw_iload_n (npc := 75) rfl dX8_ends_74 rfl ?_
        refine aw_sipush (npc := 78) (v := 200) (by decide) dX8_ends_75 rfl ?_
        refine aw_icmp_le (npc := 81) (tgt := 86) dX8_ends_78 rfl (by decide) (fun _ => ?_) (fun hc => absurd (nI_le (a := k) (b := 200) (by omega) (by omega)) hc)
        refine aw_iload_n (npc := 87) rfl dX8_ends_86 rfl ?_
        refine aw_if_ne (npc := 90) (tgt := 94) dX8_ends_87 rfl (by decide) (fun hc11 => ?_) (fun hc11 => ?_)
        · refine aw_iload_n (npc := 95) rfl dX8_ends_94 rfl ?_
          refine aw_iret rfl dX8_ends_95 ?_
          exact hq _ _ _ _ (by simp [enV, cI, hp2, hc11]) F5 (olT_u olT_0) pk_us alT_0 (am_fpT (fun k (hk : k < 69 ∨ 92 ≤ k) => fz8 k (by omega)) am_fp0)
        · refine aw_iload_n (npc := 91) rfl dX8_ends_90 rfl ?_
          refine aw_goto (npc := 95) dX8_ends_91 (by decide) ?_
          refine aw_iret rfl dX8_ends_95 ?_
          exact hq _ _ _ _ (by simp [enV, cI, hp2, hc11]) F5 (olT_u olT_0) pk_us alT_0 (am_fpT (fun k (hk : k < 69 ∨ 92 ≤ k) => fz8 k (by omega)) am_fp0)
      · exact absurd hp2 hp9
    · refine aw_re (S' := [.int 0]) rfl ?_
      refine aw_if_ne (npc := 32) (tgt := 57) dX8_ends_29 rfl (by decide) (fun hc => absurd (by decide) hc) (fun _ => ?_)
      refine aw_aload_n (npc := 33) rfl dX8_ends_32 rfl ?_
      refine aw_get (npc := 36) dX8_ends_33 rfl kf_X8_9 F.1 rfl ?_
      refine aw_iconst (npc := 37) (v := 3) (by decide) dX8_ends_36 rfl ?_
      refine aw_iald (npc := 38) (x := NA 3) (j := 3) dX8_ends_37 rfl F.2.1 ⟨by decide, by decide⟩ (tl_at (by omega)) ?_
      refine aw_aload_n (npc := 39) rfl dX8_ends_38 rfl ?_
      refine aw_get (npc := 42) dX8_ends_39 rfl kf_X8_9 F.1 rfl ?_
      refine aw_iconst (npc := 43) (v := 4) (by decide) dX8_ends_42 rfl ?_
      refine aw_iald (npc := 44) (x := NA 4) (j := 4) dX8_ends_43 rfl F.2.1 ⟨by decide, by decide⟩ (tl_at (by omega)) ?_
      refine aw_icmp_ge (npc := 47) (tgt := 57) dX8_ends_44 rfl (by decide) (fun hc12 => ?_) (fun hc12 => ?_)
      · refine aw_aload_n (npc := 58) rfl dX8_ends_57 rfl ?_
        refine aw_callV (npc := 61) (N := mX8_isPeace) (b := 69) (mc := 0) (ms := 0) (A := []) (S := []) (L0 := [some (.ref 69)]) dX8_ends_58 rfl km_X8_isPeace kk_X8_149 F.1 ⟨by decide, rfl⟩ rfl ⟨rfl, by decide⟩ rfl (Nat.le_of_ble_eq_true rfl) (Nat.zero_add _) (Nat.zero_add _) rfl ?_
        refine m_peace F (fun hp9 => ?_) (fun hp9 => ?_)
        · exact absurd hp9 hp2
        · refine aw_re (S' := [.int 0]) rfl ?_
          refine aw_if_eq (npc := 64) (tgt := 68) dX8_ends_61 rfl (by decide) (fun _ => ?_) (fun hc => absurd (by decide) hc)
          refine aw_iconst (npc := 69) (v := 2) (by decide) dX8_ends_68 rfl ?_
          refine aw_istore_n (npc := 70) (L' := [some (.ref 69), some (.int w), some (.int (nI k)), some (.int 2)]) dX8_ends_69 rfl (by decide) rfl rfl ?_
          refine aw_aload_n (npc := 71) rfl dX8_ends_70 rfl ?_
          refine aw_callV (npc := 74) (N := mX8_putsBack) (b := 69) (mc := 0) (ms := 0) (A := []) (S := []) (L0 := [some (.ref 69), none]) dX8_ends_71 rfl km_X8_putsBack kk_X8_175 F.1 ⟨by decide, rfl⟩ rfl ⟨rfl, by decide⟩ rfl (Nat.le_of_ble_eq_true rfl) (Nat.zero_add _) (Nat.zero_add _) rfl ?_
          refine m_puts F (fun N813 hp14 F15 e816 c817 fz18 => ?_)
          have eN19 : N813 = N := funext (fun j => by
            by_cases hj : j < 62
            · exact (e816 j hj).trans (h74 j hj)
            · have hj : 62 ≤ j := by omega
              exact (c817 j hj).trans (h62 j hj))
          rw [eN19] at F15
          refine aw_iload_n (npc := 75) rfl dX8_ends_74 rfl ?_
          refine aw_sipush (npc := 78) (v := 200) (by decide) dX8_ends_75 rfl ?_
          refine aw_icmp_le (npc := 81) (tgt := 86) dX8_ends_78 rfl (by decide) (fun _ => ?_) (fun hc => absurd (nI_le (a := k) (b := 200) (by omega) (by omega)) hc)
          refine aw_iload_n (npc := 87) rfl dX8_ends_86 rfl ?_
          refine aw_if_ne (npc := 90) (tgt := 94) dX8_ends_87 rfl (by decide) (fun hc21 => ?_) (fun hc21 => ?_)
          · refine aw_iload_n (npc := 95) rfl dX8_ends_94 rfl ?_
            refine aw_iret rfl dX8_ends_95 ?_
            exact hq _ _ _ _ (by simp [enV, cI, hp2, hc12, hc21, (show duel NA from Int32.not_lt.mpr hc12)]) F15 (olT_u olT_0) pk_us alT_0 (am_fpT (fun k (hk : k < 69 ∨ 92 ≤ k) => fz18 k (by omega)) am_fp0)
          · refine aw_iload_n (npc := 91) rfl dX8_ends_90 rfl ?_
            refine aw_goto (npc := 95) dX8_ends_91 (by decide) ?_
            refine aw_iret rfl dX8_ends_95 ?_
            exact hq _ _ _ _ (by simp [enV, cI, hp2, hc12, hc21, (show duel NA from Int32.not_lt.mpr hc12)]) F15 (olT_u olT_0) pk_us alT_0 (am_fpT (fun k (hk : k < 69 ∨ 92 ≤ k) => fz18 k (by omega)) am_fp0)
      · refine aw_aload_n (npc := 48) rfl dX8_ends_47 rfl ?_
        refine aw_callV (npc := 51) (N := mX8_post) (b := 69) (mc := 0) (ms := 0) (A := []) (S := []) (L0 := [some (.ref 69), none]) dX8_ends_48 rfl km_X8_post kk_X8_157 F.1 ⟨by decide, rfl⟩ rfl ⟨rfl, by decide⟩ rfl (Nat.le_of_ble_eq_true rfl) (Nat.zero_add _) (Nat.zero_add _) rfl ?_
        have o4x := ho4
        refine m_post (c := c) (fr := fr) F (mi_rk hKA (tc_txm hCA)) (fun o9x22 N9x23 a9x24 h9x25 hrx26 Fx27 olx28 alx29 fzx30 => ?_)
        have eNx31 : N9x23 = goF c fr (-1) 1 NA := post_m hCA hKA (o4x ▸ hrx26)
        subst eNx31
        have o432 := ((olx28 4 (by decide)).trans o4x)
        have h7433 : ∀ j, j < 62 → a9x24 74 j = N j := (fun j hj => (congrFun (alx29 74 (by decide) (by decide) (by decide)) j).trans (h74 j hj))
        refine aw_iinc (npc := 54) (v := nI (k + 1)) (L' := [some (.ref 69), some (.int w), some (.int (nI (k + 1))), v3]) dX8_ends_51 rfl rfl (nI_1 _) (by decide) rfl rfl ?_
        refine aw_goto (npc := 18) dX8_ends_54 (by decide) ?_
        refine ih (k + 1) (by omega) _ _ _ _ _ Fx27 (tc_go hKA.2.1 hCA) (rk_go _ _ hKA) h7433 (fun j hj => ((goF_62 hKA.2.1 hj).trans (h62 j hj))) o432 (fun v9 o9 a9 h9 e9 F9 ol9 o49 al9 f9 => hq v9 o9 a9 h9 ?_ F9 (olT_t ol9 (olT_t (olT_6 olx28) olT_0)) o49 (alT_t al9 (alT_t (alT_3 alx29) alT_0)) (am_fpT f9 (am_fpT (fun k (hk : k < 69 ∨ 92 ≤ k) => fzx30 k (by omega)) am_fp0)))
        rw [e9]; simp [enV, cI, hp2, hc12, (show ¬ duel NA from fun z => z (Int32.not_le.mp hc12))]
set_option maxHeartbeats 4000000 in
set_option maxRecDepth 100000 in
theorem M_ends {X : List Int32} {d rc rs n : Nat} {Q : am_Q} {h : am_H} {o N : Nat → Int32} {a : Nat → Nat → Int32} {fr c : Nat} {w : Int32} {tb : TB} {tx : List Value} {lk : Nat → Int32} (F : MR o N a h) (hR : RG N fr c) (hC : TC tb tx lk N c) (ho4 : o 4 = -1) (hq : ∀ v9 o9 a9 h9, v9 = esV c fr N w → MR o9 N a9 h9 → ol6 o9 o → alT a9 a → am_fp (fun k => k < 69 ∨ 92 ≤ k) h9 h → Q (some (.int v9)) n h9) : AW X mX8_ends (d + 40) rc rs 0 [some (.ref 69), some (.int w), none, none] [] n h Q := by
  have h8r := hR.2.1
  have h14r := hR.2.2.2.1
  have hK := rg_rk hR
  refine aw_iload_n (npc := 1) rfl dX8_ends_0 rfl ?_
  refine aw_iconst (npc := 2) (v := 0) (by decide) dX8_ends_1 rfl ?_
  refine aw_iconst (npc := 3) (v := 1) (by decide) dX8_ends_2 rfl ?_
  refine aw_callS (npc := 6) (N := mX8_in) (mc := 0) (ms := 0) (A := [.int w, .int 0, .int 1]) (S := []) (L0 := [some (.int w), some (.int 0), some (.int 1)]) dX8_ends_3 rfl km_X8_in kk_X8_83 rfl ⟨rfl, by decide⟩ rfl (Nat.le_of_ble_eq_true rfl) (Nat.zero_add _) (Nat.zero_add _) rfl ?_
  refine c_X8_in (fun hw1 => ?_) (fun hw1 => ?_)
  · refine aw_re (S' := [.int 1]) rfl ?_
    refine aw_if_ne (npc := 9) (tgt := 12) dX8_ends_6 rfl (by decide) (fun _ => ?_) (fun hc => absurd hc (by decide))
    refine aw_aload_n (npc := 13) rfl dX8_ends_12 rfl ?_
    refine aw_callV (npc := 16) (N := mX8_thinks) (b := 69) (mc := 0) (ms := 0) (A := []) (S := []) (L0 := [some (.ref 69), none]) dX8_ends_13 rfl km_X8_thinks kk_X8_169 F.1 ⟨by decide, rfl⟩ rfl ⟨rfl, by decide⟩ rfl (Nat.le_of_ble_eq_true rfl) (Nat.zero_add _) (Nat.zero_add _) rfl ?_
    refine m_thinks F (fun aT2 hp3 F4 eT5 cT6 fz7 => ?_)
    refine aw_iconst (npc := 17) (v := 0) (by decide) dX8_ends_16 rfl ?_
    refine aw_istore_n (npc := 18) (L' := [some (.ref 69), some (.int w), some (.int 0), none]) dX8_ends_17 rfl (by decide) rfl rfl ?_
    refine aw_locs (L' := [some (.ref 69), some (.int w), some (.int (nI 0)), none]) rfl ?_
    refine M_endsL (N := N) hw1 201 0 (by omega) none _ _ _ _ F4 hC hK eT5 (fun _ _ => rfl) ho4 (fun v9 o9 a9 h9 e9 F9 ol9 o49 al9 f9 => hq v9 o9 a9 h9 ?_ F9 (ol_end ol9 (o49.trans ho4.symm)) (alT_t al9 (alT_t (alT_4 cT6) alT_0)) (am_fpT f9 (am_fpT (fun k (hk : k < 69 ∨ 92 ≤ k) => fz7 k (by omega)) am_fp0)))
    rw [e9]; simp [esV, cI, hw1]
  · refine aw_re (S' := [.int 0]) rfl ?_
    refine aw_if_ne (npc := 9) (tgt := 12) dX8_ends_6 rfl (by decide) (fun hc => absurd (by decide) hc) (fun _ => ?_)
    refine aw_ldc (npc := 11) kc_X8_91 dX8_ends_9 rfl ?_
    refine aw_iret rfl dX8_ends_11 ?_
    exact hq _ _ _ _ (by simp [esV, cI, hw1]) F (ol_end olT_0 (Eq.trans ho4 ho4.symm)) alT_0 am_fp0
theorem or_0 (x : Int32) : x ||| 0 = x := Int32.or_zero
set_option maxHeartbeats 4000000 in
set_option maxRecDepth 100000 in
theorem M_heldL {X : List Int32} {d rc rs n : Nat} {Q : am_Q} {fr c : Nat} {tb : TB} {tx : List Value} {lk : Nat → Int32} {N : Nat → Int32} {K : Nat} (hK60 : K < 1000) (hC : TC tb tx lk N c) (hK : RK N fr c) : ∀ (m i : Nat), i + m = fr → ∀ (s : Int32) (o : Nat → Int32) (a : Nat → Nat → Int32) (h : am_H), MR o N a h → (∀ j, j < 62 → a 74 j = N j) → o 4 = -1 → (∀ v9 o9 a9 h9, v9 = hlM c fr K N m i s → MR o9 N a9 h9 → olT o9 o → o9 4 = -1 → alT a9 a → am_fp (fun k => k < 69 ∨ 92 ≤ k) h9 h → Q (some (.int v9)) n h9) → AW X mX8_held (d + 40) rc rs 28 [some (.ref 69), some (.int (nI K)), some (.int s), some (.int 0), some (.int (nI i))] [] n h Q := by
  have h8r := hK.2.1
  intro m
  induction m with
  | zero =>
    intro i hi s o a h F h74 ho4 hq
    obtain rfl : i = fr := by omega
    refine aw_iload (npc := 30) rfl dX8_held_28 rfl ?_
    refine aw_aload_n (npc := 31) rfl dX8_held_30 rfl ?_
    refine aw_get (npc := 34) dX8_held_31 rfl kf_X8_9 F.1 rfl ?_
    refine aw_iconst (npc := 35) (v := 1) (by decide) dX8_held_34 rfl ?_
    refine aw_iald (npc := 36) (x := N 1) (j := 1) dX8_held_35 rfl F.2.1 ⟨by decide, by decide⟩ (tl_at (by omega)) ?_
    refine aw_top (y := nI i) (hK.1) ?_
    refine aw_icmp_ge (npc := 39) (tgt := 74) dX8_held_36 rfl (by decide) (fun _ => ?_) (fun hc => absurd (nI_le (a := i) (b := i) (by omega) (by omega)) hc)
    refine aw_iload_n (npc := 75) rfl dX8_held_74 rfl ?_
    refine aw_iret rfl dX8_held_75 ?_
    exact hq _ _ _ _ rfl F olT_0 ho4 alT_0 am_fp0
  | succ m ih =>
    intro i hi s o a h F h74 ho4 hq
    refine aw_iload (npc := 30) rfl dX8_held_28 rfl ?_
    refine aw_aload_n (npc := 31) rfl dX8_held_30 rfl ?_
    refine aw_get (npc := 34) dX8_held_31 rfl kf_X8_9 F.1 rfl ?_
    refine aw_iconst (npc := 35) (v := 1) (by decide) dX8_held_34 rfl ?_
    refine aw_iald (npc := 36) (x := N 1) (j := 1) dX8_held_35 rfl F.2.1 ⟨by decide, by decide⟩ (tl_at (by omega)) ?_
    refine aw_top (y := nI fr) (hK.1) ?_
    refine aw_icmp_ge (npc := 39) (tgt := 74) dX8_held_36 rfl (by decide) (fun hc => absurd hc (nI_ge (a := i) (b := fr) (by omega) (by omega))) (fun _ => ?_)
    refine aw_iload_n (npc := 40) rfl dX8_held_39 rfl ?_
    refine aw_if_ne (npc := 43) (tgt := 74) dX8_held_40 rfl (by decide) (fun hc => absurd (by decide) hc) (fun _ => ?_)
    refine aw_aload_n (npc := 44) rfl dX8_held_43 rfl ?_
    refine aw_iload (npc := 46) rfl dX8_held_44 rfl ?_
    refine aw_put (npc := 49) dX8_held_46 rfl kf_X8_19 F.1 (Nat.le_of_ble_eq_true rfl) (am_ok_int _) rfl ?_
    have F2 := mr_o4 (v := nI i) F
    refine aw_iload_n (npc := 50) rfl dX8_held_49 rfl ?_
    refine aw_aload_n (npc := 51) rfl dX8_held_50 rfl ?_
    refine aw_iload_n (npc := 52) rfl dX8_held_51 rfl ?_
    refine aw_callV (npc := 55) (N := mX8_endsWell) (b := 69) (mc := 0) (ms := 0) (A := [.int (nI K)]) (S := [.int s]) (L0 := [some (.ref 69), some (.int (nI K)), none]) dX8_held_52 rfl km_X8_endsWell kk_X8_181 F2.1 ⟨by decide, rfl⟩ rfl ⟨rfl, by decide⟩ rfl (Nat.le_of_ble_eq_true rfl) (Nat.zero_add _) (Nat.zero_add _) rfl ?_
    refine m_ew (N0 := N) (K := K) (wo := (nI i)) (by omega) F2 hC hK h74 (fun j hj => rfl) pk_us (fun hp3 oE4 aE5 h9x6 Fx7 o4x8 olx9 alx10 fzx11 => ?_) (fun hp3 oE4 aE5 h9x6 Fx7 o4x8 olx9 alx10 fzx11 => ?_)
    · have h7h9x6 : ∀ j, j < 62 → aE5 74 j = N j := fun j hj => (congrFun (alx10 74 (by decide) (by decide) (by decide)) j).trans (h74 j hj)
      have fyfzx11 : ∀ k, (k < 69 ∨ 92 ≤ k) → h9x6 k = _ := fun k hk => fzx11 k hk
      refine aw_re (S' := [.int 1, .int s]) rfl ?_
      refine aw_if_eq (npc := 58) (tgt := 65) dX8_held_55 rfl (by decide) (fun hc => absurd hc (by decide)) (fun _ => ?_)
      refine aw_iconst (npc := 59) (v := 1) (by decide) dX8_held_58 rfl ?_
      refine aw_iload (npc := 61) rfl dX8_held_59 rfl ?_
      refine aw_ishl (npc := 62) dX8_held_61 rfl ?_
      refine aw_goto (npc := 66) dX8_held_62 (by decide) ?_
      refine aw_ior (npc := 67) dX8_held_66 rfl ?_
      refine aw_istore_n (npc := 68) (L' := [some (.ref 69), some (.int (nI K)), some (.int (s ||| (1 <<< ((nI i) &&& 31)))), some (.int 0), some (.int (nI i))]) dX8_held_67 rfl (by decide) rfl rfl ?_
      refine aw_iinc (npc := 71) (v := nI (i + 1)) (L' := [some (.ref 69), some (.int (nI K)), some (.int (s ||| (1 <<< ((nI i) &&& 31)))), some (.int 0), some (.int (nI (i + 1)))]) dX8_held_68 rfl rfl (nI_1 _) (by decide) rfl rfl ?_
      refine aw_goto (npc := 28) dX8_held_71 (by decide) ?_
      refine ih (i + 1) (by omega) (s ||| (1 <<< ((nI i) &&& 31))) _ _ _ Fx7 h7h9x6 o4x8 (fun v9 o9 a9 h9 e9 F9 ol9 o49 al9 f9 => hq v9 o9 a9 h9 ?_ F9 (olT_t ol9 (olT_t olx9 (olT_u olT_0))) o49 (alT_t al9 (alT_t (alT_3 alx10) alT_0)) (am_fpT f9 (am_fpT (fun k (hk : k < 69 ∨ 92 ≤ k) => fyfzx11 k (by omega)) (am_fpU (show ¬ (69 < 69 ∨ 92 ≤ 69) by omega) am_fp0))))
      rw [e9]; simp [hlM, cI, hp3]
    · have h7h9x6 : ∀ j, j < 62 → aE5 74 j = N j := fun j hj => (congrFun (alx10 74 (by decide) (by decide) (by decide)) j).trans (h74 j hj)
      have fyfzx11 : ∀ k, (k < 69 ∨ 92 ≤ k) → h9x6 k = _ := fun k hk => fzx11 k hk
      refine aw_re (S' := [.int 0, .int s]) rfl ?_
      refine aw_if_eq (npc := 58) (tgt := 65) dX8_held_55 rfl (by decide) (fun _ => ?_) (fun hc => absurd (by decide) hc)
      refine aw_iconst (npc := 66) (v := 0) (by decide) dX8_held_65 rfl ?_
      refine aw_ior (npc := 67) dX8_held_66 rfl ?_
      refine aw_istore_n (npc := 68) (L' := [some (.ref 69), some (.int (nI K)), some (.int (s ||| 0)), some (.int 0), some (.int (nI i))]) dX8_held_67 rfl (by decide) rfl rfl ?_
      refine aw_iinc (npc := 71) (v := nI (i + 1)) (L' := [some (.ref 69), some (.int (nI K)), some (.int (s ||| 0)), some (.int 0), some (.int (nI (i + 1)))]) dX8_held_68 rfl rfl (nI_1 _) (by decide) rfl rfl ?_
      refine aw_goto (npc := 28) dX8_held_71 (by decide) ?_
      refine aw_locs (L' := [some (.ref 69), some (.int (nI K)), some (.int s), some (.int 0), some (.int (nI (i + 1)))]) (by rw [or_0]) ?_
      refine ih (i + 1) (by omega) s _ _ _ Fx7 h7h9x6 o4x8 (fun v9 o9 a9 h9 e9 F9 ol9 o49 al9 f9 => hq v9 o9 a9 h9 ?_ F9 (olT_t ol9 (olT_t olx9 (olT_u olT_0))) o49 (alT_t al9 (alT_t (alT_3 alx10) alT_0)) (am_fpT f9 (am_fpT (fun k (hk : k < 69 ∨ 92 ≤ k) => fyfzx11 k (by omega)) (am_fpU (show ¬ (69 < 69 ∨ 92 ≤ 69) by omega) am_fp0))))
      rw [e9]; simp [hlM, cI, hp3]
set_option maxHeartbeats 4000000 in
set_option maxRecDepth 100000 in
theorem M_held {X : List Int32} {d rc rs n : Nat} {Q : am_Q} {h : am_H} {o N : Nat → Int32} {a : Nat → Nat → Int32} {fr c : Nat} {v : Int32} {tb : TB} {tx : List Value} {lk : Nat → Int32} (F : MR o N a h) (hR : RG N fr c) (hC : TC tb tx lk N c) (ho4 : o 4 = -1) (hq : ∀ v9 o9 a9 h9, v9 = heV c fr N v → MR o9 N a9 h9 → ol6 o9 o → alT a9 a → am_fp (fun k => k < 69 ∨ 92 ≤ k) h9 h → Q (some (.int v9)) n h9) : AW X mX8_held (d + 40) rc rs 0 [some (.ref 69), some (.int v), none, none, none] [] n h Q := by
  have h8r := hR.2.1
  have h14r := hR.2.2.2.1
  have hK := rg_rk hR
  refine aw_iload_n (npc := 1) rfl dX8_held_0 rfl ?_
  refine aw_iconst (npc := 2) (v := 1) (by decide) dX8_held_1 rfl ?_
  refine aw_bipush (npc := 4) (v := 60) (by decide) dX8_held_2 rfl ?_
  refine aw_callS (npc := 7) (N := mX8_in) (mc := 0) (ms := 0) (A := [.int v, .int 1, .int 60]) (S := []) (L0 := [some (.int v), some (.int 1), some (.int 60)]) dX8_held_4 rfl km_X8_in kk_X8_83 rfl ⟨rfl, by decide⟩ rfl (Nat.le_of_ble_eq_true rfl) (Nat.zero_add _) (Nat.zero_add _) rfl ?_
  refine c_X8_in (fun hw1 => ?_) (fun hw1 => ?_)
  · obtain ⟨vn, hvn, evn⟩ := wi_nI (H := 60) (by decide) (by decide) hw1
    subst evn
    have fvn : fN (nI vn) = vn := fN_nI (by omega)
    refine aw_re (S' := [.int 1]) rfl ?_
    refine aw_if_ne (npc := 10) (tgt := 13) dX8_held_7 rfl (by decide) (fun _ => ?_) (fun hc => absurd hc (by decide))
    refine aw_aload_n (npc := 14) rfl dX8_held_13 rfl ?_
    refine aw_callV (npc := 17) (N := mX8_thinks) (b := 69) (mc := 0) (ms := 0) (A := []) (S := []) (L0 := [some (.ref 69), none]) dX8_held_14 rfl km_X8_thinks kk_X8_169 F.1 ⟨by decide, rfl⟩ rfl ⟨rfl, by decide⟩ rfl (Nat.le_of_ble_eq_true rfl) (Nat.zero_add _) (Nat.zero_add _) rfl ?_
    refine m_thinks F (fun aT2 hp3 F4 eT5 cT6 fz7 => ?_)
    refine aw_iconst (npc := 18) (v := 0) (by decide) dX8_held_17 rfl ?_
    refine aw_istore_n (npc := 19) (L' := [some (.ref 69), some (.int (nI vn)), some (.int 0), none, none]) dX8_held_18 rfl (by decide) rfl rfl ?_
    refine aw_aload_n (npc := 20) rfl dX8_held_19 rfl ?_
    refine aw_iload_n (npc := 21) rfl dX8_held_20 rfl ?_
    refine aw_callV (npc := 24) (N := mX8_endsWell) (b := 69) (mc := 0) (ms := 0) (A := [.int (nI vn)]) (S := []) (L0 := [some (.ref 69), some (.int (nI vn)), none]) dX8_held_21 rfl km_X8_endsWell kk_X8_181 F4.1 ⟨by decide, rfl⟩ rfl ⟨rfl, by decide⟩ rfl (Nat.le_of_ble_eq_true rfl) (Nat.zero_add _) (Nat.zero_add _) rfl ?_
    refine m_ew (N0 := N) (K := vn) (wo := (-1)) (by omega) F4 hC hK eT5 (fun j hj => rfl) ho4 (fun hp8 oE9 aE10 h9x11 Fx12 o4x13 olx14 alx15 fzx16 => ?_) (fun hp8 oE9 aE10 h9x11 Fx12 o4x13 olx14 alx15 fzx16 => ?_)
    · have h7h9x11 : ∀ j, j < 62 → aE10 74 j = N j := fun j hj => (congrFun (alx15 74 (by decide) (by decide) (by decide)) j).trans (eT5 j hj)
      have fyfzx16 : ∀ k, (k < 69 ∨ 92 ≤ k) → h9x11 k = _ := fun k hk => fzx16 k hk
      refine aw_re (S' := [.int 1]) rfl ?_
      refine aw_istore_n (npc := 25) (L' := [some (.ref 69), some (.int (nI vn)), some (.int 0), some (.int 1), none]) dX8_held_24 rfl (by decide) rfl rfl ?_
      refine aw_iconst (npc := 26) (v := 0) (by decide) dX8_held_25 rfl ?_
      refine aw_istore (npc := 28) (L' := [some (.ref 69), some (.int (nI vn)), some (.int 0), some (.int 1), some (.int 0)]) dX8_held_26 rfl (by decide) rfl rfl ?_
      refine aw_iload (npc := 30) rfl dX8_held_28 rfl ?_
      refine aw_aload_n (npc := 31) rfl dX8_held_30 rfl ?_
      refine aw_get (npc := 34) dX8_held_31 rfl kf_X8_9 Fx12.1 rfl ?_
      refine aw_iconst (npc := 35) (v := 1) (by decide) dX8_held_34 rfl ?_
      refine aw_iald (npc := 36) (x := N 1) (j := 1) dX8_held_35 rfl Fx12.2.1 ⟨by decide, by decide⟩ (tl_at (by omega)) ?_
      refine aw_top (y := nI fr) (hK.1) ?_
      refine aw_icmp_ge (npc := 39) (tgt := 74) dX8_held_36 rfl (by decide) (fun hc17 => ?_) (fun hc17 => ?_)
      · have hc17N := (nI_leI (a := fr) (b := 0) (by omega) (by omega)).mp hc17
        refine aw_iload_n (npc := 75) rfl dX8_held_74 rfl ?_
        refine aw_iret rfl dX8_held_75 ?_
        exact hq _ _ _ _ (by simp [heV, cI, hw1, hp8, hc17, hc17N, fvn, Int32.not_lt.mpr hc17]) Fx12 (ol_end (olT_t olx14 olT_0) (Eq.trans o4x13 ho4.symm)) (alT_t (alT_3 alx15) (alT_t (alT_4 cT6) alT_0)) (am_fpT (fun k (hk : k < 69 ∨ 92 ≤ k) => fyfzx16 k (by omega)) (am_fpT (fun k (hk : k < 69 ∨ 92 ≤ k) => fz7 k (by omega)) am_fp0))
      · have hc17N : ¬ fr ≤ 0 := fun z9q => hc17 ((nI_leI (a := fr) (b := 0) (by omega) (by omega)).mpr z9q)
        refine aw_iload_n (npc := 40) rfl dX8_held_39 rfl ?_
        refine aw_if_ne (npc := 43) (tgt := 74) dX8_held_40 rfl (by decide) (fun _ => ?_) (fun hc => absurd hc (by decide))
        refine aw_iload_n (npc := 75) rfl dX8_held_74 rfl ?_
        refine aw_iret rfl dX8_held_75 ?_
        exact hq _ _ _ _ (by simp [heV, cI, hw1, hp8, hc17, hc17N, fvn, Int32.not_le.mp hc17]) Fx12 (ol_end (olT_t olx14 olT_0) (Eq.trans o4x13 ho4.symm)) (alT_t (alT_3 alx15) (alT_t (alT_4 cT6) alT_0)) (am_fpT (fun k (hk : k < 69 ∨ 92 ≤ k) => fyfzx16 k (by omega)) (am_fpT (fun k (hk : k < 69 ∨ 92 ≤ k) => fz7 k (by omega)) am_fp0))
    · have h7h9x11 : ∀ j, j < 62 → aE10 74 j = N j := fun j hj => (congrFun (alx15 74 (by decide) (by decide) (by decide)) j).trans (eT5 j hj)
      have fyfzx16 : ∀ k, (k < 69 ∨ 92 ≤ k) → h9x11 k = _ := fun k hk => fzx16 k hk
      refine aw_re (S' := [.int 0]) rfl ?_
      refine aw_istore_n (npc := 25) (L' := [some (.ref 69), some (.int (nI vn)), some (.int 0), some (.int 0), none]) dX8_held_24 rfl (by decide) rfl rfl ?_
      refine aw_iconst (npc := 26) (v := 0) (by decide) dX8_held_25 rfl ?_
      refine aw_istore (npc := 28) (L' := [some (.ref 69), some (.int (nI vn)), some (.int 0), some (.int 0), some (.int 0)]) dX8_held_26 rfl (by decide) rfl rfl ?_
      refine aw_locs (L' := [some (.ref 69), some (.int (nI vn)), some (.int 0), some (.int 0), some (.int (nI 0))]) rfl ?_
      refine M_heldL (K := vn) (by omega) hC hK fr 0 (by omega) 0 _ _ _ Fx12 h7h9x11 o4x13 (fun v9 o9 a9 h9 e9 F9 ol9 o49 al9 f9 => hq v9 o9 a9 h9 ?_ F9 (ol_end (olT_t ol9 (olT_t olx14 olT_0)) (o49.trans ho4.symm)) (alT_t al9 (alT_t (alT_3 alx15) (alT_t (alT_4 cT6) alT_0))) (am_fpT f9 (am_fpT (fun k (hk : k < 69 ∨ 92 ≤ k) => fyfzx16 k (by omega)) (am_fpT (fun k (hk : k < 69 ∨ 92 ≤ k) => fz7 k (by omega)) am_fp0))))
      rw [e9]; simp [heV, cI, hw1, hp8, fvn]
  · refine aw_re (S' := [.int 0]) rfl ?_
    refine aw_if_ne (npc := 10) (tgt := 13) dX8_held_7 rfl (by decide) (fun hc => absurd (by decide) hc) (fun _ => ?_)
    refine aw_ldc (npc := 12) kc_X8_91 dX8_held_10 rfl ?_
    refine aw_iret rfl dX8_held_12 ?_
    exact hq _ _ _ _ (by simp [heV, cI, hw1]) F (ol_end olT_0 (Eq.trans ho4 ho4.symm)) alT_0 am_fp0
