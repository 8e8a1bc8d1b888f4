def cpC (cl : Nat → Int32) (s sp t dp m : Nat) : Nat → Int32 := fun i => if 24 * t + dp ≤ i ∧ i < 24 * t + dp + m then cl (24 * s + sp + (i - (24 * t + dp))) else cl i
def cpD (cl g : Nat → Int32) (t dp m : Nat) : Nat → Int32 := fun i => if 24 * t + dp ≤ i ∧ i < 24 * t + dp + m then g (i - (24 * t + dp)) else cl i
def cpS (hc cl : Nat → Int32) (s t : Nat) : Nat → Int32 := fun i => if 24 * s ≤ i ∧ i < 24 * s + 24 then cl (24 * t + (i - 24 * s)) else hc i
def cpT (hc cl : Nat → Int32) (s t m : Nat) : Nat → Int32 := fun i => if 24 * s ≤ i ∧ i < 24 * s + m then cl (24 * t + (i - 24 * s)) else hc i
theorem am_cpy_tl {a b sp dp m : Nat} {f g : Nat → Int32} (h : sp + m ≤ a) : am_cpy (tl a f) (tl b g) sp dp m = tl b (fun j => if dp ≤ j ∧ j < dp + m then f (sp + (j - dp)) else g j) := by
  unfold am_cpy
  rw [tl_len]
  refine List.map_congr_left (fun j hj => ?_)
  have hj := List.mem_range.mp hj
  by_cases q : dp ≤ j ∧ j < dp + m
  · rw [if_pos q, if_pos q, List.getD_eq_getElem?_getD, tl_at (by omega)]; rfl
  · rw [if_neg q, if_neg q, List.getD_eq_getElem?_getD, tl_at hj]; rfl
theorem cpC_l {cl : Nat → Int32} {s sp t dp m : Nat} (h : sp + m ≤ 24) : am_cpy (tl 24 (fun i => cl (24 * s + i))) (tl 24 (fun i => cl (24 * t + i))) sp dp m = tl 24 (fun i => cpC cl s sp t dp m (24 * t + i)) := by
  rw [am_cpy_tl h]
  refine tl_congr (fun i hi => ?_)
  unfold cpC
  by_cases q : dp ≤ i ∧ i < dp + m
  · rw [if_pos q, if_pos (by omega)]; exact congrArg cl (by omega)
  · rw [if_neg q, if_neg (by omega)]
theorem cpC_o {cl : Nat → Int32} {s sp t dp m u i : Nat} (h : dp + m ≤ 24) (hi : i < 24) (e : u ≠ t) : cpC cl s sp t dp m (24 * u + i) = cl (24 * u + i) := if_neg (by omega)
theorem cpS_l {hc cl : Nat → Int32} {s t : Nat} : am_cpy (tl 24 (fun i => cl (24 * t + i))) (tl 24 (fun i => hc (24 * s + i))) 0 0 24 = tl 24 (fun i => cpS hc cl s t (24 * s + i)) := by
  rw [am_cpy_tl (by omega)]
  refine tl_congr (fun i hi => ?_)
  unfold cpS
  rw [if_pos (by omega), if_pos (by omega)]
  exact congrArg cl (by omega)
theorem cpS_o {hc cl : Nat → Int32} {s t u i : Nat} (hi : i < 24) (e : u ≠ s) : cpS hc cl s t (24 * u + i) = hc (24 * u + i) := if_neg (by omega)
theorem cpD_0 {cl g : Nat → Int32} {t dp : Nat} : cpD cl g t dp 0 = cl := funext (fun i => if_neg (by omega))
theorem cpD_s {cl g : Nat → Int32} {t dp k : Nat} : upd (cpD cl g t dp k) (24 * t + dp + k) (g k) = cpD cl g t dp (k + 1) := funext (fun i => by
  unfold cpD
  by_cases e : i = 24 * t + dp + k
  · subst e; rw [pk_us, if_pos (by omega)]; exact congrArg g (by omega)
  · rw [pk_un e]
    by_cases q : 24 * t + dp ≤ i ∧ i < 24 * t + dp + k
    · rw [if_pos q, if_pos (by omega)]
    · rw [if_neg q, if_neg (by omega)])
theorem cpD_C {cl g : Nat → Int32} {s sp t dp m : Nat} (h : ∀ j, j < m → g j = cl (24 * s + sp + j)) : cpD cl g t dp m = cpC cl s sp t dp m := funext (fun i => by
  unfold cpD cpC
  by_cases q : 24 * t + dp ≤ i ∧ i < 24 * t + dp + m
  · rw [if_pos q, if_pos q]; exact h _ (by omega)
  · rw [if_neg q, if_neg q])
theorem cpT_0 {hc cl : Nat → Int32} {s t : Nat} : cpT hc cl s t 0 = hc := funext (fun i => if_neg (by omega))
theorem cpT_s {hc cl : Nat → Int32} {s t k : Nat} : upd (cpT hc cl s t k) (24 * s + k) (cl (24 * t + k)) = cpT hc cl s t (k + 1) := funext (fun i => by
  unfold cpT
  by_cases e : i = 24 * s + k
  · subst e; rw [pk_us, if_pos (by omega)]; exact congrArg cl (by omega)
  · rw [pk_un e]
    by_cases q : 24 * s ≤ i ∧ i < 24 * s + k
    · rw [if_pos q, if_pos (by omega)]
    · rw [if_neg q, if_neg (by omega)])
theorem wi_up {x y : Int32} {c : Nat} (hy : y = nI c) (hc : c < 1000) (h : wi x 0 y) : ∃ t, t ≤ c ∧ x = nI t := wi_nI (by rw [hy]; exact nI_toInt (by omega)) (by decide) h
theorem cpy_nat {p m : Int32} {z : Nat} (hz : z ≤ 24) (h1 : ¬ p < 0) (h2 : ¬ m < 0) (h3 : ¬ nI z - m < p) : ∃ pn mn, p = nI pn ∧ m = nI mn ∧ pn + mn ≤ z := by
  have z0 : (0 : Int32).toInt = 0 := rfl
  have a1 : ¬ p.toInt < 0 := fun q => h1 (Int32.lt_iff_toInt_lt.mpr (by omega))
  have a2 : ¬ m.toInt < 0 := fun q => h2 (Int32.lt_iff_toInt_lt.mpr (by omega))
  have b1 := p.toInt_lt
  have b2 := m.toInt_lt
  have ez : (nI z).toInt = (z : Int) := nI_toInt (by omega)
  have e3 : (nI z - m).toInt = (z : Int) - m.toInt := by
    rw [Int32.toInt_sub, ez]
    exact Int.bmod_eq_of_le (by omega) (by omega)
  have a3 : ¬ (z : Int) - m.toInt < p.toInt := fun q => h3 (Int32.lt_iff_toInt_lt.mpr (by omega))
  refine ⟨p.toInt.toNat, m.toInt.toNat, Int32.toInt_inj.mp ?_, Int32.toInt_inj.mp ?_, by omega⟩
  · rw [nI_toInt (by omega)]; omega
  · rw [nI_toInt (by omega)]; omega
noncomputable def cpK (sz : Nat → Int32) (s p t q m : Int32) : Prop := wi m 0 (sz (fN s)) ∧ wi p 0 (sz (fN s) - m) ∧ wi m 0 (sz (fN t)) ∧ wi q 0 (sz (fN t) - m)
noncomputable def cpV (sr sz : Nat → Int32) (s p t q m : Int32) : Int32 := cI (wi s 0 3 ∧ wi t 0 3) (cI (sr (fN s) = -1 ∨ sr (fN t) = -1) (-1000000011) (cI (sr (fN s) = sr (fN t)) (cI (cpK sz s p t q m) m (-1000000013)) (-1000000012))) (-1000000001)
noncomputable def cpR (sr sz : Nat → Int32) (s p t q m : Int32) (cl : Nat → Int32) : Nat → Int32 := cI (wi s 0 3 ∧ wi t 0 3 ∧ ¬ sr (fN s) = -1 ∧ ¬ sr (fN t) = -1 ∧ sr (fN s) = sr (fN t) ∧ cpK sz s p t q m) (cpC cl (fN s) (fN p) (fN t) (fN q) (fN m)) cl
theorem wi_n0 {t c : Nat} (h : t ≤ c) (hc : c < 1000) : wi (nI t) 0 (nI c) := ⟨nI_pos (by omega), nI_nlt h (by omega)⟩
set_option maxHeartbeats 4000000 in
set_option maxRecDepth 100000 in
theorem C_copy {X : List Int32} {d rc rs n : Nat} {Q : am_Q} {h : am_H} {N : Nat → Int32} {tx : List Value} {lk mv : Nat → Int32} {ik wc : Int32} {fr c : Nat} {s : Int32} {p : Int32} {t : Int32} {q : Int32} {m : Int32} {sr sz cl : Nat → Int32} (O : OB ik wc h) (Rw : RW sr sz cl h) (hI : RI sr sz) (hq : ∀ v9 c9 h9, v9 = cpV sr sz s p t q m → c9 = cpR sr sz s p t q m cl → RW sr sz c9 h9 → am_fp (fun k => k < 46 ∨ 54 ≤ k) h9 h → Q (some (.int v9)) n h9) : AW X mX7_copy (d + 12) rc rs 0 [some (.ref 0), some (.int s), some (.int p), some (.int t), some (.int q), some (.int m), none, none] [] n h Q := by
  refine aw_iload_n (npc := 1) rfl dX7_copy_0 rfl ?_
  refine aw_callS (npc := 4) (N := mX7_isSheet) (mc := 0) (ms := 0) (A := [.int s]) (S := []) (L0 := [some (.int s)]) dX7_copy_1 rfl km_X7_isSheet kk_X7_204 rfl ⟨rfl, by decide⟩ rfl (Nat.le_of_ble_eq_true rfl) (Nat.zero_add _) (Nat.zero_add _) rfl ?_
  refine c_X7_isSheet (fun hw1 => ?_) (fun hw1 => ?_)
  · obtain ⟨sn, hsn, esn⟩ := wi_nI (H := 3) (by decide) (by decide) hw1
    subst esn
    have fsn : fN (nI sn) = sn := fN_nI (by omega)
    obtain ⟨hsr, z9, hz9, ez9⟩ := hI sn (by omega)
    refine aw_re (S' := [.int 1]) rfl ?_
    refine aw_if_eq (npc := 7) (tgt := 14) dX7_copy_4 rfl (by decide) (fun hc => absurd hc (by decide)) (fun _ => ?_)
    refine aw_iload_n (npc := 8) rfl dX7_copy_7 rfl ?_
    refine aw_callS (npc := 11) (N := mX7_isSheet) (mc := 0) (ms := 0) (A := [.int t]) (S := []) (L0 := [some (.int t)]) dX7_copy_8 rfl km_X7_isSheet kk_X7_204 rfl ⟨rfl, by decide⟩ rfl (Nat.le_of_ble_eq_true rfl) (Nat.zero_add _) (Nat.zero_add _) rfl ?_
    refine c_X7_isSheet (fun hw2 => ?_) (fun hw2 => ?_)
    · obtain ⟨tn, htn, etn⟩ := wi_nI (H := 3) (by decide) (by decide) hw2
      subst etn
      have ftn : fN (nI tn) = tn := fN_nI (by omega)
      obtain ⟨htr, z8, hz8, ez8⟩ := hI tn (by omega)
      refine aw_re (S' := [.int 1]) rfl ?_
      refine aw_if_ne (npc := 14) (tgt := 17) dX7_copy_11 rfl (by decide) (fun _ => ?_) (fun hc => absurd hc (by decide))
      refine aw_aload_n (npc := 18) rfl dX7_copy_17 rfl ?_
      refine aw_get (npc := 21) dX7_copy_18 rfl kf_X7_47 O.1 rfl ?_
      refine aw_iload_n (npc := 22) rfl dX7_copy_21 rfl ?_
      refine aw_aald (npc := 23) (j := sn) dX7_copy_22 rfl (by decide) O.2.1 (am_ix_nI (by omega)) (sh_at (by omega)) ?_
      refine aw_astore (npc := 25) (L' := [some (.ref 0), some (.int (nI sn)), some (.int p), some (.int (nI tn)), some (.int q), some (.int m), some (.ref (46 + 2 * sn)), none]) dX7_copy_23 rfl (by decide) rfl rfl ?_
      refine aw_aload_n (npc := 26) rfl dX7_copy_25 rfl ?_
      refine aw_get (npc := 29) dX7_copy_26 rfl kf_X7_47 O.1 rfl ?_
      refine aw_iload_n (npc := 30) rfl dX7_copy_29 rfl ?_
      refine aw_aald (npc := 31) (j := tn) dX7_copy_30 rfl (by decide) O.2.1 (am_ix_nI (by omega)) (sh_at (by omega)) ?_
      refine aw_astore (npc := 33) (L' := [some (.ref 0), some (.int (nI sn)), some (.int p), some (.int (nI tn)), some (.int q), some (.int m), some (.ref (46 + 2 * sn)), some (.ref (46 + 2 * tn))]) dX7_copy_31 rfl (by decide) rfl rfl ?_
      refine aw_aload (npc := 35) rfl dX7_copy_33 rfl ?_
      refine aw_callV (npc := 38) (N := mX2_isMissing) (b := 46 + 2 * sn) (mc := 0) (ms := 0) (A := []) (S := []) (L0 := [some (.ref (46 + 2 * sn))]) dX7_copy_35 rfl km_X2_isMissing kk_X7_207 (Rw sn (by omega)).1 ⟨by decide, rfl⟩ rfl ⟨rfl, by decide⟩ rfl (Nat.le_of_ble_eq_true rfl) (Nat.zero_add _) (Nat.zero_add _) rfl ?_
      refine aw_aload_n (npc := 1) rfl dX2_isMissing_0 rfl ?_
      refine aw_get (npc := 4) dX2_isMissing_1 rfl kf_X2_9 (Rw sn (by omega)).1 rfl ?_
      rcases wi_cm1_1 hsr with esr | esr | esr
      · refine aw_top (y := -1) esr ?_
        refine aw_iconst (npc := 5) (v := -1) (by decide) dX2_isMissing_4 rfl ?_
        refine aw_icmp_ne (npc := 8) (tgt := 12) dX2_isMissing_5 rfl (by decide) (fun hc => absurd (by decide) hc) (fun _ => ?_)
        refine aw_iconst (npc := 9) (v := 1) (by decide) dX2_isMissing_8 rfl ?_
        refine aw_goto (npc := 13) dX2_isMissing_9 (by decide) ?_
        refine aw_zret rfl rfl dX2_isMissing_13 ?_
        refine aw_re (S' := [.int 1]) rfl ?_
        refine aw_if_ne (npc := 41) (tgt := 49) dX7_copy_38 rfl (by decide) (fun _ => ?_) (fun hc => absurd hc (by decide))
        refine aw_ldc (npc := 51) kc_X7_210 dX7_copy_49 rfl ?_
        refine aw_iret rfl dX7_copy_51 ?_
        exact hq _ _ _ (by simp [cpV, cpR, cI, hw1, hw2, fsn, ftn, esr]) (by simp [cpV, cpR, cI, hw1, hw2, fsn, ftn, esr]) Rw am_fp0
      · refine aw_top (y := 0) esr ?_
        refine aw_iconst (npc := 5) (v := -1) (by decide) dX2_isMissing_4 rfl ?_
        refine aw_icmp_ne (npc := 8) (tgt := 12) dX2_isMissing_5 rfl (by decide) (fun _ => ?_) (fun hc => absurd hc (by decide))
        refine aw_iconst (npc := 13) (v := 0) (by decide) dX2_isMissing_12 rfl ?_
        refine aw_zret rfl rfl dX2_isMissing_13 ?_
        refine aw_re (S' := [.int 0]) rfl ?_
        refine aw_if_ne (npc := 41) (tgt := 49) dX7_copy_38 rfl (by decide) (fun hc => absurd (by decide) hc) (fun _ => ?_)
        refine aw_aload (npc := 43) rfl dX7_copy_41 rfl ?_
        refine aw_callV (npc := 46) (N := mX2_isMissing) (b := 46 + 2 * tn) (mc := 0) (ms := 0) (A := []) (S := []) (L0 := [some (.ref (46 + 2 * tn))]) dX7_copy_43 rfl km_X2_isMissing kk_X7_207 (Rw tn (by omega)).1 ⟨by decide, rfl⟩ rfl ⟨rfl, by decide⟩ rfl (Nat.le_of_ble_eq_true rfl) (Nat.zero_add _) (Nat.zero_add _) rfl ?_
        refine aw_aload_n (npc := 1) rfl dX2_isMissing_0 rfl ?_
        refine aw_get (npc := 4) dX2_isMissing_1 rfl kf_X2_9 (Rw tn (by omega)).1 rfl ?_
        rcases wi_cm1_1 htr with etr | etr | etr
        · refine aw_top (y := -1) etr ?_
          refine aw_iconst (npc := 5) (v := -1) (by decide) dX2_isMissing_4 rfl ?_
          refine aw_icmp_ne (npc := 8) (tgt := 12) dX2_isMissing_5 rfl (by decide) (fun hc => absurd (by decide) hc) (fun _ => ?_)
          refine aw_iconst (npc := 9) (v := 1) (by decide) dX2_isMissing_8 rfl ?_
          refine aw_goto (npc := 13) dX2_isMissing_9 (by decide) ?_
          refine aw_zret rfl rfl dX2_isMissing_13 ?_
          refine aw_re (S' := [.int 1]) rfl ?_
          refine aw_if_eq (npc := 49) (tgt := 52) dX7_copy_46 rfl (by decide) (fun hc => absurd hc (by decide)) (fun _ => ?_)
          refine aw_ldc (npc := 51) kc_X7_210 dX7_copy_49 rfl ?_
          refine aw_iret rfl dX7_copy_51 ?_
          exact hq _ _ _ (by simp [cpV, cpR, cI, hw1, hw2, fsn, ftn, esr, etr]) (by simp [cpV, cpR, cI, hw1, hw2, fsn, ftn, esr, etr]) Rw am_fp0
        · refine aw_top (y := 0) etr ?_
          refine aw_iconst (npc := 5) (v := -1) (by decide) dX2_isMissing_4 rfl ?_
          refine aw_icmp_ne (npc := 8) (tgt := 12) dX2_isMissing_5 rfl (by decide) (fun _ => ?_) (fun hc => absurd hc (by decide))
          refine aw_iconst (npc := 13) (v := 0) (by decide) dX2_isMissing_12 rfl ?_
          refine aw_zret rfl rfl dX2_isMissing_13 ?_
          refine aw_re (S' := [.int 0]) rfl ?_
          refine aw_if_eq (npc := 49) (tgt := 52) dX7_copy_46 rfl (by decide) (fun _ => ?_) (fun hc => absurd (by decide) hc)
          refine aw_aload (npc := 54) rfl dX7_copy_52 rfl ?_
          refine aw_get (npc := 57) dX7_copy_54 rfl kf_X7_279 (Rw sn (by omega)).1 rfl ?_
          refine aw_top (y := 0) esr ?_
          refine aw_aload (npc := 59) rfl dX7_copy_57 rfl ?_
          refine aw_get (npc := 62) dX7_copy_59 rfl kf_X7_279 (Rw tn (by omega)).1 rfl ?_
          refine aw_top (y := 0) etr ?_
          refine aw_icmp_eq (npc := 65) (tgt := 68) dX7_copy_62 rfl (by decide) (fun _ => ?_) (fun hc => absurd (by decide) hc)
          refine aw_aload (npc := 70) rfl dX7_copy_68 rfl ?_
          refine aw_iload_n (npc := 71) rfl dX7_copy_70 rfl ?_
          refine aw_iload (npc := 73) rfl dX7_copy_71 rfl ?_
          refine aw_callV (npc := 76) (N := mX2_hasPlaces) (b := 46 + 2 * sn) (mc := 0) (ms := 0) (A := [.int p, .int m]) (S := []) (L0 := [some (.ref (46 + 2 * sn)), some (.int p), some (.int m)]) dX7_copy_73 rfl km_X2_hasPlaces kk_X7_290 (Rw sn (by omega)).1 ⟨by decide, rfl⟩ rfl ⟨rfl, by decide⟩ rfl (Nat.le_of_ble_eq_true rfl) (Nat.zero_add _) (Nat.zero_add _) rfl ?_
          refine aw_iload_n (npc := 1) rfl dX2_hasPlaces_0 rfl ?_
          refine aw_iconst (npc := 2) (v := 0) (by decide) dX2_hasPlaces_1 rfl ?_
          refine aw_aload_n (npc := 3) rfl dX2_hasPlaces_2 rfl ?_
          refine aw_get (npc := 6) dX2_hasPlaces_3 rfl kf_X2_15 (Rw sn (by omega)).1 rfl ?_
          refine aw_top (y := nI z9) (ez9) ?_
          refine aw_callSN (npc := 9) (N := mX7_within) (mc := 0) (ms := 0) (A := [.int m, .int 0, .int (nI z9)]) (S := []) (L0 := [some (.int m), some (.int 0), some (.int (nI z9))]) dX2_hasPlaces_6 rfl km_X7_within kk_X2_34 rfl ⟨rfl, by decide⟩ rfl (Nat.le_of_ble_eq_true rfl) (Nat.zero_add _) (Nat.zero_add _) rfl ?_
          refine c_X7_within (fun hw3 => ?_) (fun hw3 => ?_)
          · obtain ⟨mn, hmn, emn⟩ := wi_up rfl (by omega) hw3
            subst emn
            have fmn : fN (nI mn) = mn := fN_nI (by omega)
            refine aw_re (S' := [.int 1]) rfl ?_
            refine aw_if_eq (npc := 12) (tgt := 30) dX2_hasPlaces_9 rfl (by decide) (fun hc => absurd hc (by decide)) (fun _ => ?_)
            refine aw_iload_n (npc := 13) rfl dX2_hasPlaces_12 rfl ?_
            refine aw_iconst (npc := 14) (v := 0) (by decide) dX2_hasPlaces_13 rfl ?_
            refine aw_aload_n (npc := 15) rfl dX2_hasPlaces_14 rfl ?_
            refine aw_get (npc := 18) dX2_hasPlaces_15 rfl kf_X2_15 (Rw sn (by omega)).1 rfl ?_
            refine aw_top (y := nI z9) (ez9) ?_
            refine aw_iload_n (npc := 19) rfl dX2_hasPlaces_18 rfl ?_
            refine aw_isubV (npc := 20) (v := nI (z9 - mn)) dX2_hasPlaces_19 rfl (pk_sub (by omega)) ?_
            refine aw_callSN (npc := 23) (N := mX7_within) (mc := 0) (ms := 0) (A := [.int p, .int 0, .int (nI (z9 - mn))]) (S := []) (L0 := [some (.int p), some (.int 0), some (.int (nI (z9 - mn)))]) dX2_hasPlaces_20 rfl km_X7_within kk_X2_34 rfl ⟨rfl, by decide⟩ rfl (Nat.le_of_ble_eq_true rfl) (Nat.zero_add _) (Nat.zero_add _) rfl ?_
            refine c_X7_within (fun hw4 => ?_) (fun hw4 => ?_)
            · obtain ⟨pn, hpn, epn⟩ := wi_up rfl (by omega) hw4
              subst epn
              have fpn : fN (nI pn) = pn := fN_nI (by omega)
              refine aw_re (S' := [.int 1]) rfl ?_
              refine aw_if_eq (npc := 26) (tgt := 30) dX2_hasPlaces_23 rfl (by decide) (fun hc => absurd hc (by decide)) (fun _ => ?_)
              refine aw_iconst (npc := 27) (v := 1) (by decide) dX2_hasPlaces_26 rfl ?_
              refine aw_goto (npc := 31) dX2_hasPlaces_27 (by decide) ?_
              refine aw_zret rfl rfl dX2_hasPlaces_31 ?_
              refine aw_re (S' := [.int 1]) rfl ?_
              refine aw_if_eq (npc := 79) (tgt := 91) dX7_copy_76 rfl (by decide) (fun hc => absurd hc (by decide)) (fun _ => ?_)
              refine aw_aload (npc := 81) rfl dX7_copy_79 rfl ?_
              refine aw_iload (npc := 83) rfl dX7_copy_81 rfl ?_
              refine aw_iload (npc := 85) rfl dX7_copy_83 rfl ?_
              refine aw_callV (npc := 88) (N := mX2_hasPlaces) (b := 46 + 2 * tn) (mc := 0) (ms := 0) (A := [.int q, .int (nI mn)]) (S := []) (L0 := [some (.ref (46 + 2 * tn)), some (.int q), some (.int (nI mn))]) dX7_copy_85 rfl km_X2_hasPlaces kk_X7_290 (Rw tn (by omega)).1 ⟨by decide, rfl⟩ rfl ⟨rfl, by decide⟩ rfl (Nat.le_of_ble_eq_true rfl) (Nat.zero_add _) (Nat.zero_add _) rfl ?_
              refine aw_iload_n (npc := 1) rfl dX2_hasPlaces_0 rfl ?_
              refine aw_iconst (npc := 2) (v := 0) (by decide) dX2_hasPlaces_1 rfl ?_
              refine aw_aload_n (npc := 3) rfl dX2_hasPlaces_2 rfl ?_
              refine aw_get (npc := 6) dX2_hasPlaces_3 rfl kf_X2_15 (Rw tn (by omega)).1 rfl ?_
              refine aw_top (y := nI z8) (ez8) ?_
              refine aw_callSN (npc := 9) (N := mX7_within) (mc := 0) (ms := 0) (A := [.int (nI mn), .int 0, .int (nI z8)]) (S := []) (L0 := [some (.int (nI mn)), some (.int 0), some (.int (nI z8))]) dX2_hasPlaces_6 rfl km_X7_within kk_X2_34 rfl ⟨rfl, by decide⟩ rfl (Nat.le_of_ble_eq_true rfl) (Nat.zero_add _) (Nat.zero_add _) rfl ?_
              refine c_X7_within (fun hw5 => ?_) (fun hw5 => ?_)
              · have hm8 : mn ≤ z8 := (nI_leI (by omega) (by omega)).mp (Int32.not_lt.mp hw5.2)
                refine aw_re (S' := [.int 1]) rfl ?_
                refine aw_if_eq (npc := 12) (tgt := 30) dX2_hasPlaces_9 rfl (by decide) (fun hc => absurd hc (by decide)) (fun _ => ?_)
                refine aw_iload_n (npc := 13) rfl dX2_hasPlaces_12 rfl ?_
                refine aw_iconst (npc := 14) (v := 0) (by decide) dX2_hasPlaces_13 rfl ?_
                refine aw_aload_n (npc := 15) rfl dX2_hasPlaces_14 rfl ?_
                refine aw_get (npc := 18) dX2_hasPlaces_15 rfl kf_X2_15 (Rw tn (by omega)).1 rfl ?_
                refine aw_top (y := nI z8) (ez8) ?_
                refine aw_iload_n (npc := 19) rfl dX2_hasPlaces_18 rfl ?_
                refine aw_isubV (npc := 20) (v := nI (z8 - mn)) dX2_hasPlaces_19 rfl (pk_sub (by omega)) ?_
                refine aw_callSN (npc := 23) (N := mX7_within) (mc := 0) (ms := 0) (A := [.int q, .int 0, .int (nI (z8 - mn))]) (S := []) (L0 := [some (.int q), some (.int 0), some (.int (nI (z8 - mn)))]) dX2_hasPlaces_20 rfl km_X7_within kk_X2_34 rfl ⟨rfl, by decide⟩ rfl (Nat.le_of_ble_eq_true rfl) (Nat.zero_add _) (Nat.zero_add _) rfl ?_
                refine c_X7_within (fun hw6 => ?_) (fun hw6 => ?_)
                · obtain ⟨qn, hqn, eqn⟩ := wi_up rfl (by omega) hw6
                  subst eqn
                  have fqn : fN (nI qn) = qn := fN_nI (by omega)
                  refine aw_re (S' := [.int 1]) rfl ?_
                  refine aw_if_eq (npc := 26) (tgt := 30) dX2_hasPlaces_23 rfl (by decide) (fun hc => absurd hc (by decide)) (fun _ => ?_)
                  refine aw_iconst (npc := 27) (v := 1) (by decide) dX2_hasPlaces_26 rfl ?_
                  refine aw_goto (npc := 31) dX2_hasPlaces_27 (by decide) ?_
                  refine aw_zret rfl rfl dX2_hasPlaces_31 ?_
                  refine aw_re (S' := [.int 1]) rfl ?_
                  refine aw_if_ne (npc := 91) (tgt := 95) dX7_copy_88 rfl (by decide) (fun _ => ?_) (fun hc => absurd hc (by decide))
                  refine aw_aload (npc := 97) rfl dX7_copy_95 rfl ?_
                  refine aw_get (npc := 100) dX7_copy_97 rfl kf_X7_218 (Rw sn (by omega)).1 rfl ?_
                  refine aw_iload_n (npc := 101) rfl dX7_copy_100 rfl ?_
                  refine aw_aload (npc := 103) rfl dX7_copy_101 rfl ?_
                  refine aw_get (npc := 106) dX7_copy_103 rfl kf_X7_218 (Rw tn (by omega)).1 rfl ?_
                  refine aw_iload (npc := 108) rfl dX7_copy_106 rfl ?_
                  refine aw_iload (npc := 110) rfl dX7_copy_108 rfl ?_
                  refine aw_copyi (npc := 113) (sp := pn) (dp := qn) (mm := mn) dX7_copy_110 rfl kac_X7_293 kac_x (Rw sn (by omega)).2 (Rw tn (by omega)).2 (am_ix_nI (by omega)) (am_ix_nI (by omega)) (am_ix_nI (by omega)) (by rw [tl_len]; omega) (by rw [tl_len]; omega) (Nat.le_of_ble_eq_true rfl) rfl ?_
                  have Rw7 := rw_arr (cl' := cpC cl sn pn tn qn mn) (s := tn) Rw (cpC_l (by omega)) (fun t i ht hi e => cpC_o (by omega) (by omega) e)
                  have O8 := ob_out (a := 47 + 2 * tn) (c := .inl (0, am_cpy (tl 24 (fun i => cl (24 * sn + i))) (tl 24 (fun i => cl (24 * tn + i))) pn qn mn)) (by omega) O
                  refine aw_iload (npc := 115) rfl dX7_copy_113 rfl ?_
                  refine aw_iret rfl dX7_copy_115 ?_
                  have fK : cpK sz (nI sn) (nI pn) (nI tn) (nI qn) (nI mn) := by
                    unfold cpK
                    rw [fsn, ftn, ez9, ez8]
                    rw [pk_sub hmn, pk_sub hm8]
                    exact ⟨wi_n0 hmn (by omega), wi_n0 hpn (by omega), wi_n0 hm8 (by omega), wi_n0 hqn (by omega)⟩
                  exact hq _ _ _ (by simp [cpV, cpR, cI, hw1, hw2, hw3, hw4, hw5, hw6, fsn, ftn, fmn, fpn, fqn, esr, etr, fK]) (by simp [cpV, cpR, cI, hw1, hw2, hw3, hw4, hw5, hw6, fsn, ftn, fmn, fpn, fqn, esr, etr, fK]) Rw7 (am_fpU (show ¬ ((47 + 2 * tn) < 46 ∨ 54 ≤ (47 + 2 * tn)) by omega) am_fp0)
                · refine aw_re (S' := [.int 0]) rfl ?_
                  refine aw_if_eq (npc := 26) (tgt := 30) dX2_hasPlaces_23 rfl (by decide) (fun _ => ?_) (fun hc => absurd (by decide) hc)
                  refine aw_iconst (npc := 31) (v := 0) (by decide) dX2_hasPlaces_30 rfl ?_
                  refine aw_zret rfl rfl dX2_hasPlaces_31 ?_
                  refine aw_re (S' := [.int 0]) rfl ?_
                  refine aw_if_ne (npc := 91) (tgt := 95) dX7_copy_88 rfl (by decide) (fun hc => absurd (by decide) hc) (fun _ => ?_)
                  refine aw_ldcw (npc := 94) kc_X7_278 dX7_copy_91 rfl ?_
                  refine aw_iret rfl dX7_copy_94 ?_
                  have fK : ¬ cpK sz (nI sn) (nI pn) (nI tn) q (nI mn) := by
                    unfold cpK
                    rw [fsn, ftn, ez9, ez8]
                    try rw [pk_sub hmn]
                    try rw [pk_sub hm8]
                    exact fun K => hw6 K.2.2.2
                  exact hq _ _ _ (by simp [cpV, cpR, cI, hw1, hw2, hw3, hw4, hw5, hw6, fsn, ftn, fmn, fpn, esr, etr, fK]) (by simp [cpV, cpR, cI, hw1, hw2, hw3, hw4, hw5, hw6, fsn, ftn, fmn, fpn, esr, etr, fK]) Rw am_fp0
              · refine aw_re (S' := [.int 0]) rfl ?_
                refine aw_if_eq (npc := 12) (tgt := 30) dX2_hasPlaces_9 rfl (by decide) (fun _ => ?_) (fun hc => absurd (by decide) hc)
                refine aw_iconst (npc := 31) (v := 0) (by decide) dX2_hasPlaces_30 rfl ?_
                refine aw_zret rfl rfl dX2_hasPlaces_31 ?_
                refine aw_re (S' := [.int 0]) rfl ?_
                refine aw_if_ne (npc := 91) (tgt := 95) dX7_copy_88 rfl (by decide) (fun hc => absurd (by decide) hc) (fun _ => ?_)
                refine aw_ldcw (npc := 94) kc_X7_278 dX7_copy_91 rfl ?_
                refine aw_iret rfl dX7_copy_94 ?_
                have fK : ¬ cpK sz (nI sn) (nI pn) (nI tn) q (nI mn) := by
                  unfold cpK
                  rw [fsn, ftn, ez9, ez8]
                  try rw [pk_sub hmn]
                  exact fun K => hw5 K.2.2.1
                exact hq _ _ _ (by simp [cpV, cpR, cI, hw1, hw2, hw3, hw4, hw5, fsn, ftn, fmn, fpn, esr, etr, fK]) (by simp [cpV, cpR, cI, hw1, hw2, hw3, hw4, hw5, fsn, ftn, fmn, fpn, esr, etr, fK]) Rw am_fp0
            · refine aw_re (S' := [.int 0]) rfl ?_
              refine aw_if_eq (npc := 26) (tgt := 30) dX2_hasPlaces_23 rfl (by decide) (fun _ => ?_) (fun hc => absurd (by decide) hc)
              refine aw_iconst (npc := 31) (v := 0) (by decide) dX2_hasPlaces_30 rfl ?_
              refine aw_zret rfl rfl dX2_hasPlaces_31 ?_
              refine aw_re (S' := [.int 0]) rfl ?_
              refine aw_if_eq (npc := 79) (tgt := 91) dX7_copy_76 rfl (by decide) (fun _ => ?_) (fun hc => absurd (by decide) hc)
              refine aw_ldcw (npc := 94) kc_X7_278 dX7_copy_91 rfl ?_
              refine aw_iret rfl dX7_copy_94 ?_
              have fK : ¬ cpK sz (nI sn) p (nI tn) q (nI mn) := by
                unfold cpK
                rw [fsn, ftn, ez9, ez8]
                try rw [pk_sub hmn]
                exact fun K => hw4 K.2.1
              exact hq _ _ _ (by simp [cpV, cpR, cI, hw1, hw2, hw3, hw4, fsn, ftn, fmn, esr, etr, fK]) (by simp [cpV, cpR, cI, hw1, hw2, hw3, hw4, fsn, ftn, fmn, esr, etr, fK]) Rw am_fp0
          · refine aw_re (S' := [.int 0]) rfl ?_
            refine aw_if_eq (npc := 12) (tgt := 30) dX2_hasPlaces_9 rfl (by decide) (fun _ => ?_) (fun hc => absurd (by decide) hc)
            refine aw_iconst (npc := 31) (v := 0) (by decide) dX2_hasPlaces_30 rfl ?_
            refine aw_zret rfl rfl dX2_hasPlaces_31 ?_
            refine aw_re (S' := [.int 0]) rfl ?_
            refine aw_if_eq (npc := 79) (tgt := 91) dX7_copy_76 rfl (by decide) (fun _ => ?_) (fun hc => absurd (by decide) hc)
            refine aw_ldcw (npc := 94) kc_X7_278 dX7_copy_91 rfl ?_
            refine aw_iret rfl dX7_copy_94 ?_
            have fK : ¬ cpK sz (nI sn) p (nI tn) q m := by
              unfold cpK
              rw [fsn, ftn, ez9, ez8]
              exact fun K => hw3 K.1
            exact hq _ _ _ (by simp [cpV, cpR, cI, hw1, hw2, hw3, fsn, ftn, esr, etr, fK]) (by simp [cpV, cpR, cI, hw1, hw2, hw3, fsn, ftn, esr, etr, fK]) Rw am_fp0
        · refine aw_top (y := 1) etr ?_
          refine aw_iconst (npc := 5) (v := -1) (by decide) dX2_isMissing_4 rfl ?_
          refine aw_icmp_ne (npc := 8) (tgt := 12) dX2_isMissing_5 rfl (by decide) (fun _ => ?_) (fun hc => absurd hc (by decide))
          refine aw_iconst (npc := 13) (v := 0) (by decide) dX2_isMissing_12 rfl ?_
          refine aw_zret rfl rfl dX2_isMissing_13 ?_
          refine aw_re (S' := [.int 0]) rfl ?_
          refine aw_if_eq (npc := 49) (tgt := 52) dX7_copy_46 rfl (by decide) (fun _ => ?_) (fun hc => absurd (by decide) hc)
          refine aw_aload (npc := 54) rfl dX7_copy_52 rfl ?_
          refine aw_get (npc := 57) dX7_copy_54 rfl kf_X7_279 (Rw sn (by omega)).1 rfl ?_
          refine aw_top (y := 0) esr ?_
          refine aw_aload (npc := 59) rfl dX7_copy_57 rfl ?_
          refine aw_get (npc := 62) dX7_copy_59 rfl kf_X7_279 (Rw tn (by omega)).1 rfl ?_
          refine aw_top (y := 1) etr ?_
          refine aw_icmp_eq (npc := 65) (tgt := 68) dX7_copy_62 rfl (by decide) (fun hc => absurd hc (by decide)) (fun _ => ?_)
          refine aw_ldc (npc := 67) kc_X7_123 dX7_copy_65 rfl ?_
          refine aw_iret rfl dX7_copy_67 ?_
          exact hq _ _ _ (by simp [cpV, cpR, cI, hw1, hw2, fsn, ftn, esr, etr]) (by simp [cpV, cpR, cI, hw1, hw2, fsn, ftn, esr, etr]) Rw am_fp0
      · refine aw_top (y := 1) esr ?_
        refine aw_iconst (npc := 5) (v := -1) (by decide) dX2_isMissing_4 rfl ?_
        refine aw_icmp_ne (npc := 8) (tgt := 12) dX2_isMissing_5 rfl (by decide) (fun _ => ?_) (fun hc => absurd hc (by decide))
        refine aw_iconst (npc := 13) (v := 0) (by decide) dX2_isMissing_12 rfl ?_
        refine aw_zret rfl rfl dX2_isMissing_13 ?_
        refine aw_re (S' := [.int 0]) rfl ?_
        refine aw_if_ne (npc := 41) (tgt := 49) dX7_copy_38 rfl (by decide) (fun hc => absurd (by decide) hc) (fun _ => ?_)
        refine aw_aload (npc := 43) rfl dX7_copy_41 rfl ?_
        refine aw_callV (npc := 46) (N := mX2_isMissing) (b := 46 + 2 * tn) (mc := 0) (ms := 0) (A := []) (S := []) (L0 := [some (.ref (46 + 2 * tn))]) dX7_copy_43 rfl km_X2_isMissing kk_X7_207 (Rw tn (by omega)).1 ⟨by decide, rfl⟩ rfl ⟨rfl, by decide⟩ rfl (Nat.le_of_ble_eq_true rfl) (Nat.zero_add _) (Nat.zero_add _) rfl ?_
        refine aw_aload_n (npc := 1) rfl dX2_isMissing_0 rfl ?_
        refine aw_get (npc := 4) dX2_isMissing_1 rfl kf_X2_9 (Rw tn (by omega)).1 rfl ?_
        rcases wi_cm1_1 htr with etr | etr | etr
        · refine aw_top (y := -1) etr ?_
          refine aw_iconst (npc := 5) (v := -1) (by decide) dX2_isMissing_4 rfl ?_
          refine aw_icmp_ne (npc := 8) (tgt := 12) dX2_isMissing_5 rfl (by decide) (fun hc => absurd (by decide) hc) (fun _ => ?_)
          refine aw_iconst (npc := 9) (v := 1) (by decide) dX2_isMissing_8 rfl ?_
          refine aw_goto (npc := 13) dX2_isMissing_9 (by decide) ?_
          refine aw_zret rfl rfl dX2_isMissing_13 ?_
          refine aw_re (S' := [.int 1]) rfl ?_
          refine aw_if_eq (npc := 49) (tgt := 52) dX7_copy_46 rfl (by decide) (fun hc => absurd hc (by decide)) (fun _ => ?_)
          refine aw_ldc (npc := 51) kc_X7_210 dX7_copy_49 rfl ?_
          refine aw_iret rfl dX7_copy_51 ?_
          exact hq _ _ _ (by simp [cpV, cpR, cI, hw1, hw2, fsn, ftn, esr, etr]) (by simp [cpV, cpR, cI, hw1, hw2, fsn, ftn, esr, etr]) Rw am_fp0
        · refine aw_top (y := 0) etr ?_
          refine aw_iconst (npc := 5) (v := -1) (by decide) dX2_isMissing_4 rfl ?_
          refine aw_icmp_ne (npc := 8) (tgt := 12) dX2_isMissing_5 rfl (by decide) (fun _ => ?_) (fun hc => absurd hc (by decide))
          refine aw_iconst (npc := 13) (v := 0) (by decide) dX2_isMissing_12 rfl ?_
          refine aw_zret rfl rfl dX2_isMissing_13 ?_
          refine aw_re (S' := [.int 0]) rfl ?_
          refine aw_if_eq (npc := 49) (tgt := 52) dX7_copy_46 rfl (by decide) (fun _ => ?_) (fun hc => absurd (by decide) hc)
          refine aw_aload (npc := 54) rfl dX7_copy_52 rfl ?_
          refine aw_get (npc := 57) dX7_copy_54 rfl kf_X7_279 (Rw sn (by omega)).1 rfl ?_
          refine aw_top (y := 1) esr ?_
          refine aw_aload (npc := 59) rfl dX7_copy_57 rfl ?_
          refine aw_get (npc := 62) dX7_copy_59 rfl kf_X7_279 (Rw tn (by omega)).1 rfl ?_
          refine aw_top (y := 0) etr ?_
          refine aw_icmp_eq (npc := 65) (tgt := 68) dX7_copy_62 rfl (by decide) (fun hc => absurd hc (by decide)) (fun _ => ?_)
          refine aw_ldc (npc := 67) kc_X7_123 dX7_copy_65 rfl ?_
          refine aw_iret rfl dX7_copy_67 ?_
          exact hq _ _ _ (by simp [cpV, cpR, cI, hw1, hw2, fsn, ftn, esr, etr]) (by simp [cpV, cpR, cI, hw1, hw2, fsn, ftn, esr, etr]) Rw am_fp0
        · refine aw_top (y := 1) etr ?_
          refine aw_iconst (npc := 5) (v := -1) (by decide) dX2_isMissing_4 rfl ?_
          refine aw_icmp_ne (npc := 8) (tgt := 12) dX2_isMissing_5 rfl (by decide) (fun _ => ?_) (fun hc => absurd hc (by decide))
          refine aw_iconst (npc := 13) (v := 0) (by decide) dX2_isMissing_12 rfl ?_
          refine aw_zret rfl rfl dX2_isMissing_13 ?_
          refine aw_re (S' := [.int 0]) rfl ?_
          refine aw_if_eq (npc := 49) (tgt := 52) dX7_copy_46 rfl (by decide) (fun _ => ?_) (fun hc => absurd (by decide) hc)
          refine aw_aload (npc := 54) rfl dX7_copy_52 rfl ?_
          refine aw_get (npc := 57) dX7_copy_54 rfl kf_X7_279 (Rw sn (by omega)).1 rfl ?_
          refine aw_top (y := 1) esr ?_
          refine aw_aload (npc := 59) rfl dX7_copy_57 rfl ?_
          refine aw_get (npc := 62) dX7_copy_59 rfl kf_X7_279 (Rw tn (by omega)).1 rfl ?_
          refine aw_top (y := 1) etr ?_
          refine aw_icmp_eq (npc := 65) (tgt := 68) dX7_copy_62 rfl (by decide) (fun _ => ?_) (fun hc => absurd (by decide) hc)
          refine aw_aload (npc := 70) rfl dX7_copy_68 rfl ?_
          refine aw_iload_n (npc := 71) rfl dX7_copy_70 rfl ?_
          refine aw_iload (npc := 73) rfl dX7_copy_71 rfl ?_
          refine aw_callV (npc := 76) (N := mX2_hasPlaces) (b := 46 + 2 * sn) (mc := 0) (ms := 0) (A := [.int p, .int m]) (S := []) (L0 := [some (.ref (46 + 2 * sn)), some (.int p), some (.int m)]) dX7_copy_73 rfl km_X2_hasPlaces kk_X7_290 (Rw sn (by omega)).1 ⟨by decide, rfl⟩ rfl ⟨rfl, by decide⟩ rfl (Nat.le_of_ble_eq_true rfl) (Nat.zero_add _) (Nat.zero_add _) rfl ?_
          refine aw_iload_n (npc := 1) rfl dX2_hasPlaces_0 rfl ?_
          refine aw_iconst (npc := 2) (v := 0) (by decide) dX2_hasPlaces_1 rfl ?_
          refine aw_aload_n (npc := 3) rfl dX2_hasPlaces_2 rfl ?_
          refine aw_get (npc := 6) dX2_hasPlaces_3 rfl kf_X2_15 (Rw sn (by omega)).1 rfl ?_
          refine aw_top (y := nI z9) (ez9) ?_
          refine aw_callSN (npc := 9) (N := mX7_within) (mc := 0) (ms := 0) (A := [.int m, .int 0, .int (nI z9)]) (S := []) (L0 := [some (.int m), some (.int 0), some (.int (nI z9))]) dX2_hasPlaces_6 rfl km_X7_within kk_X2_34 rfl ⟨rfl, by decide⟩ rfl (Nat.le_of_ble_eq_true rfl) (Nat.zero_add _) (Nat.zero_add _) rfl ?_
          refine c_X7_within (fun hw9 => ?_) (fun hw9 => ?_)
          · obtain ⟨mn, hmn, emn⟩ := wi_up rfl (by omega) hw9
            subst emn
            have fmn : fN (nI mn) = mn := fN_nI (by omega)
            refine aw_re (S' := [.int 1]) rfl ?_
            refine aw_if_eq (npc := 12) (tgt := 30) dX2_hasPlaces_9 rfl (by decide) (fun hc => absurd hc (by decide)) (fun _ => ?_)
            refine aw_iload_n (npc := 13) rfl dX2_hasPlaces_12 rfl ?_
            refine aw_iconst (npc := 14) (v := 0) (by decide) dX2_hasPlaces_13 rfl ?_
            refine aw_aload_n (npc := 15) rfl dX2_hasPlaces_14 rfl ?_
            refine aw_get (npc := 18) dX2_hasPlaces_15 rfl kf_X2_15 (Rw sn (by omega)).1 rfl ?_
            refine aw_top (y := nI z9) (ez9) ?_
            refine aw_iload_n (npc := 19) rfl dX2_hasPlaces_18 rfl ?_
            refine aw_isubV (npc := 20) (v := nI (z9 - mn)) dX2_hasPlaces_19 rfl (pk_sub (by omega)) ?_
            refine aw_callSN (npc := 23) (N := mX7_within) (mc := 0) (ms := 0) (A := [.int p, .int 0, .int (nI (z9 - mn))]) (S := []) (L0 := [some (.int p), some (.int 0), some (.int (nI (z9 - mn)))]) dX2_hasPlaces_20 rfl km_X7_within kk_X2_34 rfl ⟨rfl, by decide⟩ rfl (Nat.le_of_ble_eq_true rfl) (Nat.zero_add _) (Nat.zero_add _) rfl ?_
            refine c_X7_within (fun hw10 => ?_) (fun hw10 => ?_)
            · obtain ⟨pn, hpn, epn⟩ := wi_up rfl (by omega) hw10
              subst epn
              have fpn : fN (nI pn) = pn := fN_nI (by omega)
              refine aw_re (S' := [.int 1]) rfl ?_
              refine aw_if_eq (npc := 26) (tgt := 30) dX2_hasPlaces_23 rfl (by decide) (fun hc => absurd hc (by decide)) (fun _ => ?_)
              refine aw_iconst (npc := 27) (v := 1) (by decide) dX2_hasPlaces_26 rfl ?_
              refine aw_goto (npc := 31) dX2_hasPlaces_27 (by decide) ?_
              refine aw_zret rfl rfl dX2_hasPlaces_31 ?_
              refine aw_re (S' := [.int 1]) rfl ?_
              refine aw_if_eq (npc := 79) (tgt := 91) dX7_copy_76 rfl (by decide) (fun hc => absurd hc (by decide)) (fun _ => ?_)
              refine aw_aload (npc := 81) rfl dX7_copy_79 rfl ?_
              refine aw_iload (npc := 83) rfl dX7_copy_81 rfl ?_
              refine aw_iload (npc := 85) rfl dX7_copy_83 rfl ?_
              refine aw_callV (npc := 88) (N := mX2_hasPlaces) (b := 46 + 2 * tn) (mc := 0) (ms := 0) (A := [.int q, .int (nI mn)]) (S := []) (L0 := [some (.ref (46 + 2 * tn)), some (.int q), some (.int (nI mn))]) dX7_copy_85 rfl km_X2_hasPlaces kk_X7_290 (Rw tn (by omega)).1 ⟨by decide, rfl⟩ rfl ⟨rfl, by decide⟩ rfl (Nat.le_of_ble_eq_true rfl) (Nat.zero_add _) (Nat.zero_add _) rfl ?_
              refine aw_iload_n (npc := 1) rfl dX2_hasPlaces_0 rfl ?_
              refine aw_iconst (npc := 2) (v := 0) (by decide) dX2_hasPlaces_1 rfl ?_
              refine aw_aload_n (npc := 3) rfl dX2_hasPlaces_2 rfl ?_
              refine aw_get (npc := 6) dX2_hasPlaces_3 rfl kf_X2_15 (Rw tn (by omega)).1 rfl ?_
              refine aw_top (y := nI z8) (ez8) ?_
              refine aw_callSN (npc := 9) (N := mX7_within) (mc := 0) (ms := 0) (A := [.int (nI mn), .int 0, .int (nI z8)]) (S := []) (L0 := [some (.int (nI mn)), some (.int 0), some (.int (nI z8))]) dX2_hasPlaces_6 rfl km_X7_within kk_X2_34 rfl ⟨rfl, by decide⟩ rfl (Nat.le_of_ble_eq_true rfl) (Nat.zero_add _) (Nat.zero_add _) rfl ?_
              refine c_X7_within (fun hw11 => ?_) (fun hw11 => ?_)
              · have hm8 : mn ≤ z8 := (nI_leI (by omega) (by omega)).mp (Int32.not_lt.mp hw11.2)
                refine aw_re (S' := [.int 1]) rfl ?_
                refine aw_if_eq (npc := 12) (tgt := 30) dX2_hasPlaces_9 rfl (by decide) (fun hc => absurd hc (by decide)) (fun _ => ?_)
                refine aw_iload_n (npc := 13) rfl dX2_hasPlaces_12 rfl ?_
                refine aw_iconst (npc := 14) (v := 0) (by decide) dX2_hasPlaces_13 rfl ?_
                refine aw_aload_n (npc := 15) rfl dX2_hasPlaces_14 rfl ?_
                refine aw_get (npc := 18) dX2_hasPlaces_15 rfl kf_X2_15 (Rw tn (by omega)).1 rfl ?_
                refine aw_top (y := nI z8) (ez8) ?_
                refine aw_iload_n (npc := 19) rfl dX2_hasPlaces_18 rfl ?_
                refine aw_isubV (npc := 20) (v := nI (z8 - mn)) dX2_hasPlaces_19 rfl (pk_sub (by omega)) ?_
                refine aw_callSN (npc := 23) (N := mX7_within) (mc := 0) (ms := 0) (A := [.int q, .int 0, .int (nI (z8 - mn))]) (S := []) (L0 := [some (.int q), some (.int 0), some (.int (nI (z8 - mn)))]) dX2_hasPlaces_20 rfl km_X7_within kk_X2_34 rfl ⟨rfl, by decide⟩ rfl (Nat.le_of_ble_eq_true rfl) (Nat.zero_add _) (Nat.zero_add _) rfl ?_
                refine c_X7_within (fun hw12 => ?_) (fun hw12 => ?_)
                · obtain ⟨qn, hqn, eqn⟩ := wi_up rfl (by omega) hw12
                  subst eqn
                  have fqn : fN (nI qn) = qn := fN_nI (by omega)
                  refine aw_re (S' := [.int 1]) rfl ?_
                  refine aw_if_eq (npc := 26) (tgt := 30) dX2_hasPlaces_23 rfl (by decide) (fun hc => absurd hc (by decide)) (fun _ => ?_)
                  refine aw_iconst (npc := 27) (v := 1) (by decide) dX2_hasPlaces_26 rfl ?_
                  refine aw_goto (npc := 31) dX2_hasPlaces_27 (by decide) ?_
                  refine aw_zret rfl rfl dX2_hasPlaces_31 ?_
                  refine aw_re (S' := [.int 1]) rfl ?_
                  refine aw_if_ne (npc := 91) (tgt := 95) dX7_copy_88 rfl (by decide) (fun _ => ?_) (fun hc => absurd hc (by decide))
                  refine aw_aload (npc := 97) rfl dX7_copy_95 rfl ?_
                  refine aw_get (npc := 100) dX7_copy_97 rfl kf_X7_218 (Rw sn (by omega)).1 rfl ?_
                  refine aw_iload_n (npc := 101) rfl dX7_copy_100 rfl ?_
                  refine aw_aload (npc := 103) rfl dX7_copy_101 rfl ?_
                  refine aw_get (npc := 106) dX7_copy_103 rfl kf_X7_218 (Rw tn (by omega)).1 rfl ?_
                  refine aw_iload (npc := 108) rfl dX7_copy_106 rfl ?_
                  refine aw_iload (npc := 110) rfl dX7_copy_108 rfl ?_
                  refine aw_copyi (npc := 113) (sp := pn) (dp := qn) (mm := mn) dX7_copy_110 rfl kac_X7_293 kac_x (Rw sn (by omega)).2 (Rw tn (by omega)).2 (am_ix_nI (by omega)) (am_ix_nI (by omega)) (am_ix_nI (by omega)) (by rw [tl_len]; omega) (by rw [tl_len]; omega) (Nat.le_of_ble_eq_true rfl) rfl ?_
                  have Rw13 := rw_arr (cl' := cpC cl sn pn tn qn mn) (s := tn) Rw (cpC_l (by omega)) (fun t i ht hi e => cpC_o (by omega) (by omega) e)
                  have O14 := ob_out (a := 47 + 2 * tn) (c := .inl (0, am_cpy (tl 24 (fun i => cl (24 * sn + i))) (tl 24 (fun i => cl (24 * tn + i))) pn qn mn)) (by omega) O
                  refine aw_iload (npc := 115) rfl dX7_copy_113 rfl ?_
                  refine aw_iret rfl dX7_copy_115 ?_
                  have fK : cpK sz (nI sn) (nI pn) (nI tn) (nI qn) (nI mn) := by
                    unfold cpK
                    rw [fsn, ftn, ez9, ez8]
                    rw [pk_sub hmn, pk_sub hm8]
                    exact ⟨wi_n0 hmn (by omega), wi_n0 hpn (by omega), wi_n0 hm8 (by omega), wi_n0 hqn (by omega)⟩
                  exact hq _ _ _ (by simp [cpV, cpR, cI, hw1, hw2, hw9, hw10, hw11, hw12, fsn, ftn, fmn, fpn, fqn, esr, etr, fK]) (by simp [cpV, cpR, cI, hw1, hw2, hw9, hw10, hw11, hw12, fsn, ftn, fmn, fpn, fqn, esr, etr, fK]) Rw13 (am_fpU (show ¬ ((47 + 2 * tn) < 46 ∨ 54 ≤ (47 + 2 * tn)) by omega) am_fp0)
                · refine aw_re (S' := [.int 0]) rfl ?_
                  refine aw_if_eq (npc := 26) (tgt := 30) dX2_hasPlaces_23 rfl (by decide) (fun _ => ?_) (fun hc => absurd (by decide) hc)
                  refine aw_iconst (npc := 31) (v := 0) (by decide) dX2_hasPlaces_30 rfl ?_
                  refine aw_zret rfl rfl dX2_hasPlaces_31 ?_
                  refine aw_re (S' := [.int 0]) rfl ?_
                  refine aw_if_ne (npc := 91) (tgt := 95) dX7_copy_88 rfl (by decide) (fun hc => absurd (by decide) hc) (fun _ => ?_)
                  refine aw_ldcw (npc := 94) kc_X7_278 dX7_copy_91 rfl ?_
                  refine aw_iret rfl dX7_copy_94 ?_
                  have fK : ¬ cpK sz (nI sn) (nI pn) (nI tn) q (nI mn) := by
                    unfold cpK
                    rw [fsn, ftn, ez9, ez8]
                    try rw [pk_sub hmn]
                    try rw [pk_sub hm8]
                    exact fun K => hw12 K.2.2.2
                  exact hq _ _ _ (by simp [cpV, cpR, cI, hw1, hw2, hw9, hw10, hw11, hw12, fsn, ftn, fmn, fpn, esr, etr, fK]) (by simp [cpV, cpR, cI, hw1, hw2, hw9, hw10, hw11, hw12, fsn, ftn, fmn, fpn, esr, etr, fK]) Rw am_fp0
              · refine aw_re (S' := [.int 0]) rfl ?_
                refine aw_if_eq (npc := 12) (tgt := 30) dX2_hasPlaces_9 rfl (by decide) (fun _ => ?_) (fun hc => absurd (by decide) hc)
                refine aw_iconst (npc := 31) (v := 0) (by decide) dX2_hasPlaces_30 rfl ?_
                refine aw_zret rfl rfl dX2_hasPlaces_31 ?_
                refine aw_re (S' := [.int 0]) rfl ?_
                refine aw_if_ne (npc := 91) (tgt := 95) dX7_copy_88 rfl (by decide) (fun hc => absurd (by decide) hc) (fun _ => ?_)
                refine aw_ldcw (npc := 94) kc_X7_278 dX7_copy_91 rfl ?_
                refine aw_iret rfl dX7_copy_94 ?_
                have fK : ¬ cpK sz (nI sn) (nI pn) (nI tn) q (nI mn) := by
                  unfold cpK
                  rw [fsn, ftn, ez9, ez8]
                  try rw [pk_sub hmn]
                  exact fun K => hw11 K.2.2.1
                exact hq _ _ _ (by simp [cpV, cpR, cI, hw1, hw2, hw9, hw10, hw11, fsn, ftn, fmn, fpn, esr, etr, fK]) (by simp [cpV, cpR, cI, hw1, hw2, hw9, hw10, hw11, fsn, ftn, fmn, fpn, esr, etr, fK]) Rw am_fp0
            · refine aw_re (S' := [.int 0]) rfl ?_
              refine aw_if_eq (npc := 26) (tgt := 30) dX2_hasPlaces_23 rfl (by decide) (fun _ => ?_) (fun hc => absurd (by decide) hc)
              refine aw_iconst (npc := 31) (v := 0) (by decide) dX2_hasPlaces_30 rfl ?_
              refine aw_zret rfl rfl dX2_hasPlaces_31 ?_
              refine aw_re (S' := [.int 0]) rfl ?_
              refine aw_if_eq (npc := 79) (tgt := 91) dX7_copy_76 rfl (by decide) (fun _ => ?_) (fun hc => absurd (by decide) hc)
              refine aw_ldcw (npc := 94) kc_X7_278 dX7_copy_91 rfl ?_
              refine aw_iret rfl dX7_copy_94 ?_
              have fK : ¬ cpK sz (nI sn) p (nI tn) q (nI mn) := by
                unfold cpK
                rw [fsn, ftn, ez9, ez8]
                try rw [pk_sub hmn]
                exact fun K => hw10 K.2.1
              exact hq _ _ _ (by simp [cpV, cpR, cI, hw1, hw2, hw9, hw10, fsn, ftn, fmn, esr, etr, fK]) (by simp [cpV, cpR, cI, hw1, hw2, hw9, hw10, fsn, ftn, fmn, esr, etr, fK]) Rw am_fp0
          · refine aw_re (S' := [.int 0]) rfl ?_
            refine aw_if_eq (npc := 12) (tgt := 30) dX2_hasPlaces_9 rfl (by decide) (fun _ => ?_) (fun hc => absurd (by decide) hc)
            refine aw_iconst (npc := 31) (v := 0) (by decide) dX2_hasPlaces_30 rfl ?_
            refine aw_zret rfl rfl dX2_hasPlaces_31 ?_
            refine aw_re (S' := [.int 0]) rfl ?_
            refine aw_if_eq (npc := 79) (tgt := 91) dX7_copy_76 rfl (by decide) (fun _ => ?_) (fun hc => absurd (by decide) hc)
            refine aw_ldcw (npc := 94) kc_X7_278 dX7_copy_91 rfl ?_
            refine aw_iret rfl dX7_copy_94 ?_
            have fK : ¬ cpK sz (nI sn) p (nI tn) q m := by
              unfold cpK
              rw [fsn, ftn, ez9, ez8]
              exact fun K => hw9 K.1
            exact hq _ _ _ (by simp [cpV, cpR, cI, hw1, hw2, hw9, fsn, ftn, esr, etr, fK]) (by simp [cpV, cpR, cI, hw1, hw2, hw9, fsn, ftn, esr, etr, fK]) Rw am_fp0
    · refine aw_re (S' := [.int 0]) rfl ?_
      refine aw_if_ne (npc := 14) (tgt := 17) dX7_copy_11 rfl (by decide) (fun hc => absurd (by decide) hc) (fun _ => ?_)
      refine aw_ldc (npc := 16) kc_X7_78 dX7_copy_14 rfl ?_
      refine aw_iret rfl dX7_copy_16 ?_
      exact hq _ _ _ (by simp [cpV, cpR, cI, hw1, hw2, fsn]) (by simp [cpV, cpR, cI, hw1, hw2, fsn]) Rw am_fp0
  · refine aw_re (S' := [.int 0]) rfl ?_
    refine aw_if_eq (npc := 7) (tgt := 14) dX7_copy_4 rfl (by decide) (fun _ => ?_) (fun hc => absurd (by decide) hc)
    refine aw_ldc (npc := 16) kc_X7_78 dX7_copy_14 rfl ?_
    refine aw_iret rfl dX7_copy_16 ?_
    exact hq _ _ _ (by simp [cpV, cpR, cI, hw1]) (by simp [cpV, cpR, cI, hw1]) Rw am_fp0
set_option maxHeartbeats 4000000 in
set_option maxRecDepth 100000 in
theorem m_copy1 {X : List Int32} {d rc rs n : Nat} {Q : am_Q} {o N : Nat → Int32} {s p t q m : Nat} (hs : s < 4) (ht : t < 4) (hp : p + m ≤ 24) (hq9 : q + m ≤ 24) {a0 : Nat → Nat → Int32} : ∀ (i k : Nat), k + i = m → ∀ (a : Nat → Nat → Int32) (h : am_H), MR o N a h → (∀ j, j < k → a 90 j = a0 85 (24 * s + p + j)) → (∀ c, c ≠ 90 → a c = a0 c) → (∀ a9 h9, MR o N a9 h9 → (∀ j, j < m → a9 90 j = a0 85 (24 * s + p + j)) → (∀ c, c ≠ 90 → a9 c = a0 c) → am_fp (fun k => k < 69 ∨ 92 ≤ k) h9 h → AW X mX8_copy d rc rs 138 [some (.ref 69), some (.int (nI s)), some (.int (nI p)), some (.int (nI t)), some (.int (nI q)), some (.int (nI m)), some (.int (nI m))] [] n h9 Q) → AW X mX8_copy d rc rs 104 [some (.ref 69), some (.int (nI s)), some (.int (nI p)), some (.int (nI t)), some (.int (nI q)), some (.int (nI m)), some (.int (nI k))] [] n h Q := by
  intro i
  induction i with
  | zero =>
    intro k hk a h F hk9 hc9 hq
    obtain rfl : k = m := by omega
    refine aw_iload (npc := 106) rfl dX8_copy_104 rfl ?_
    refine aw_iload (npc := 108) rfl dX8_copy_106 rfl ?_
    exact aw_icmp_ge (npc := 111) (tgt := 138) dX8_copy_108 rfl (by decide) (fun _ => hq _ _ F hk9 hc9 am_fp0) (fun hc => absurd (nI_le (Nat.le_refl _) (by omega)) hc)
  | succ i ih =>
    intro k hk a h F hk9 hc9 hq
    refine aw_iload (npc := 106) rfl dX8_copy_104 rfl ?_
    refine aw_iload (npc := 108) rfl dX8_copy_106 rfl ?_
    refine aw_icmp_ge (npc := 111) (tgt := 138) dX8_copy_108 rfl (by decide) (fun hc => absurd hc (nI_ge (a := k) (b := m) (by omega) (by omega))) (fun _ => ?_)
    refine aw_aload_n (npc := 112) rfl dX8_copy_111 rfl ?_
    refine aw_get (npc := 115) dX8_copy_112 rfl kf_X8_76 F.1 rfl ?_
    refine aw_iload (npc := 117) rfl dX8_copy_115 rfl ?_
    refine aw_aload_n (npc := 118) rfl dX8_copy_117 rfl ?_
    refine aw_get (npc := 121) dX8_copy_118 rfl kf_X8_61 F.1 rfl ?_
    refine aw_bipush (npc := 123) (v := 24) (by decide) dX8_copy_121 rfl ?_
    refine aw_iload_n (npc := 124) rfl dX8_copy_123 rfl ?_
    refine aw_imulV (npc := 125) (v := nI (24 * s)) dX8_copy_124 rfl (pk_mul 24 _) ?_
    refine aw_iload_n (npc := 126) rfl dX8_copy_125 rfl ?_
    refine aw_iaddV (npc := 127) (v := nI ((24 * s) + p)) dX8_copy_126 rfl (nI_add _ _) ?_
    refine aw_iload (npc := 129) rfl dX8_copy_127 rfl ?_
    refine aw_iaddV (npc := 130) (v := nI (((24 * s) + p) + k)) dX8_copy_129 rfl (nI_add _ _) ?_
    refine aw_iald (npc := 131) (x := (a 85) (((24 * s) + p) + k)) (j := (((24 * s) + p) + k)) dX8_copy_130 rfl F.2.2.2.2.2.2.2.2.2.2.2.2.2.2.2.2.1 (am_ix_nI (by omega)) (tl_at (by omega)) ?_
    refine aw_iast (npc := 132) (j := k) dX8_copy_131 rfl F.2.2.2.2.2.2.2.2.2.2.2.2.2.2.2.2.2.2.2.2.2.1 (am_ix_nI (by omega)) (by rw [tl_len]; omega) rfl ?_
    have F2 := mr_90 (j := k) (v := (a 85) (((24 * s) + p) + k)) F
    refine aw_iinc (npc := 135) (v := nI (k + 1)) (L' := [some (.ref 69), some (.int (nI s)), some (.int (nI p)), some (.int (nI t)), some (.int (nI q)), some (.int (nI m)), some (.int (nI (k + 1)))]) dX8_copy_132 rfl rfl (nI_1 _) (by decide) rfl rfl ?_
    refine aw_goto (npc := 104) dX8_copy_135 (by decide) ?_
    refine ih (k + 1) (by omega) _ _ F2 (fun j hj => ?_) (fun c hc => (aup_n hc).trans (hc9 c hc)) (fun a9 h9 M9 e9 c9 f9 => hq a9 h9 M9 e9 c9 (am_fpT f9 (am_fpU (show ¬ (90 < 69 ∨ 92 ≤ 90) by omega) am_fp0)))
    rw [aup_s, hc9 85 (by decide)]
    by_cases z : j = k
    · subst z; exact pk_us
    · exact (pk_un z).trans (hk9 j (by omega))
set_option maxHeartbeats 4000000 in
set_option maxRecDepth 100000 in
theorem m_copy2 {X : List Int32} {d rc rs n : Nat} {Q : am_Q} {o N : Nat → Int32} {s p t q m : Nat} (hs : s < 4) (ht : t < 4) (hp : p + m ≤ 24) (hq9 : q + m ≤ 24) {a0 : Nat → Nat → Int32} : ∀ (i k : Nat), k + i = m → ∀ (a : Nat → Nat → Int32) (h : am_H), MR o N a h → a 85 = cpD (a0 85) (a0 90) t q k → (∀ c, c ≠ 85 → a c = a0 c) → (∀ a9 h9, MR o N a9 h9 → a9 85 = cpD (a0 85) (a0 90) t q m → (∀ c, c ≠ 85 → a9 c = a0 c) → am_fp (fun k => k < 69 ∨ 92 ≤ k) h9 h → AW X mX8_copy d rc rs 176 [some (.ref 69), some (.int (nI s)), some (.int (nI p)), some (.int (nI t)), some (.int (nI q)), some (.int (nI m)), some (.int (nI m))] [] n h9 Q) → AW X mX8_copy d rc rs 141 [some (.ref 69), some (.int (nI s)), some (.int (nI p)), some (.int (nI t)), some (.int (nI q)), some (.int (nI m)), some (.int (nI k))] [] n h Q := by
  intro i
  induction i with
  | zero =>
    intro k hk a h F hk9 hc9 hq
    obtain rfl : k = m := by omega
    refine aw_iload (npc := 143) rfl dX8_copy_141 rfl ?_
    refine aw_iload (npc := 145) rfl dX8_copy_143 rfl ?_
    exact aw_icmp_ge (npc := 148) (tgt := 176) dX8_copy_145 rfl (by decide) (fun _ => hq _ _ F hk9 hc9 am_fp0) (fun hc => absurd (nI_le (Nat.le_refl _) (by omega)) hc)
  | succ i ih =>
    intro k hk a h F hk9 hc9 hq
    refine aw_iload (npc := 143) rfl dX8_copy_141 rfl ?_
    refine aw_iload (npc := 145) rfl dX8_copy_143 rfl ?_
    refine aw_icmp_ge (npc := 148) (tgt := 176) dX8_copy_145 rfl (by decide) (fun hc => absurd hc (nI_ge (a := k) (b := m) (by omega) (by omega))) (fun _ => ?_)
    refine aw_aload_n (npc := 149) rfl dX8_copy_148 rfl ?_
    refine aw_get (npc := 152) dX8_copy_149 rfl kf_X8_61 F.1 rfl ?_
    refine aw_bipush (npc := 154) (v := 24) (by decide) dX8_copy_152 rfl ?_
    refine aw_iload_n (npc := 155) rfl dX8_copy_154 rfl ?_
    refine aw_imulV (npc := 156) (v := nI (24 * t)) dX8_copy_155 rfl (pk_mul 24 _) ?_
    refine aw_iload (npc := 158) rfl dX8_copy_156 rfl ?_
    refine aw_iaddV (npc := 159) (v := nI ((24 * t) + q)) dX8_copy_158 rfl (nI_add _ _) ?_
    refine aw_iload (npc := 161) rfl dX8_copy_159 rfl ?_
    refine aw_iaddV (npc := 162) (v := nI (((24 * t) + q) + k)) dX8_copy_161 rfl (nI_add _ _) ?_
    refine aw_aload_n (npc := 163) rfl dX8_copy_162 rfl ?_
    refine aw_get (npc := 166) dX8_copy_163 rfl kf_X8_76 F.1 rfl ?_
    refine aw_iload (npc := 168) rfl dX8_copy_166 rfl ?_
    refine aw_iald (npc := 169) (x := (a 90) k) (j := k) dX8_copy_168 rfl F.2.2.2.2.2.2.2.2.2.2.2.2.2.2.2.2.2.2.2.2.2.1 (am_ix_nI (by omega)) (tl_at (by omega)) ?_
    refine aw_iast (npc := 170) (j := (((24 * t) + q) + k)) dX8_copy_169 rfl F.2.2.2.2.2.2.2.2.2.2.2.2.2.2.2.2.1 (am_ix_nI (by omega)) (by rw [tl_len]; omega) rfl ?_
    have F2 := mr_85 (j := (((24 * t) + q) + k)) (v := (a 90) k) F
    refine aw_iinc (npc := 173) (v := nI (k + 1)) (L' := [some (.ref 69), some (.int (nI s)), some (.int (nI p)), some (.int (nI t)), some (.int (nI q)), some (.int (nI m)), some (.int (nI (k + 1)))]) dX8_copy_170 rfl rfl (nI_1 _) (by decide) rfl rfl ?_
    refine aw_goto (npc := 141) dX8_copy_173 (by decide) ?_
    refine ih (k + 1) (by omega) _ _ F2 ?_ (fun c hc => (aup_n hc).trans (hc9 c hc)) (fun a9 h9 M9 e9 c9 f9 => hq a9 h9 M9 e9 c9 (am_fpT f9 (am_fpU (show ¬ (85 < 69 ∨ 92 ≤ 85) by omega) am_fp0)))
    rw [aup_s, hk9, hc9 90 (by decide)]
    exact cpD_s
set_option maxHeartbeats 4000000 in
set_option maxRecDepth 100000 in
theorem M_copy {X : List Int32} {d rc rs n : Nat} {Q : am_Q} {h : am_H} {o N : Nat → Int32} {a : Nat → Nat → Int32} {fr c : Nat} {s : Int32} {p : Int32} {t : Int32} {q : Int32} {m : Int32} (F : MR o N a h) (hI : RI (a 83) (a 84)) (hq : ∀ v9 a9 h9, v9 = cpV (a 83) (a 84) s p t q m → a9 85 = cpR (a 83) (a 84) s p t q m (a 85) → (∀ c, c ≠ 85 → c ≠ 90 → a9 c = a c) → MR o N a9 h9 → am_fp (fun k => k < 69 ∨ 92 ≤ k) h9 h → Q (some (.int v9)) n h9) : AW X mX8_copy (d + 12) rc rs 0 [some (.ref 69), some (.int s), some (.int p), some (.int t), some (.int q), some (.int m), none] [] n h Q := by
  refine aw_iload_n (npc := 1) rfl dX8_copy_0 rfl ?_
  refine aw_callS (npc := 4) (N := mX8_isSheet) (mc := 0) (ms := 0) (A := [.int s]) (S := []) (L0 := [some (.int s)]) dX8_copy_1 rfl km_X8_isSheet kk_X8_184 rfl ⟨rfl, by decide⟩ rfl (Nat.le_of_ble_eq_true rfl) (Nat.zero_add _) (Nat.zero_add _) rfl ?_
  refine c_X8_isSheet (fun hw1 => ?_) (fun hw1 => ?_)
  · obtain ⟨sn, hsn, esn⟩ := wi_nI (H := 3) (by decide) (by decide) hw1
    subst esn
    have fsn : fN (nI sn) = sn := fN_nI (by omega)
    obtain ⟨hsr, z9, hz9, ez9⟩ := hI sn (by omega)
    refine aw_re (S' := [.int 1]) rfl ?_
    refine aw_if_eq (npc := 7) (tgt := 14) dX8_copy_4 rfl (by decide) (fun hc => absurd hc (by decide)) (fun _ => ?_)
    refine aw_iload_n (npc := 8) rfl dX8_copy_7 rfl ?_
    refine aw_callS (npc := 11) (N := mX8_isSheet) (mc := 0) (ms := 0) (A := [.int t]) (S := []) (L0 := [some (.int t)]) dX8_copy_8 rfl km_X8_isSheet kk_X8_184 rfl ⟨rfl, by decide⟩ rfl (Nat.le_of_ble_eq_true rfl) (Nat.zero_add _) (Nat.zero_add _) rfl ?_
    refine c_X8_isSheet (fun hw2 => ?_) (fun hw2 => ?_)
    · obtain ⟨tn, htn, etn⟩ := wi_nI (H := 3) (by decide) (by decide) hw2
      subst etn
      have ftn : fN (nI tn) = tn := fN_nI (by omega)
      obtain ⟨htr, z8, hz8, ez8⟩ := hI tn (by omega)
      refine aw_re (S' := [.int 1]) rfl ?_
      refine aw_if_ne (npc := 14) (tgt := 17) dX8_copy_11 rfl (by decide) (fun _ => ?_) (fun hc => absurd hc (by decide))
      refine aw_aload_n (npc := 18) rfl dX8_copy_17 rfl ?_
      refine aw_get (npc := 21) dX8_copy_18 rfl kf_X8_55 F.1 rfl ?_
      refine aw_iload_n (npc := 22) rfl dX8_copy_21 rfl ?_
      refine aw_iald (npc := 23) (x := (a 83) sn) (j := sn) dX8_copy_22 rfl F.2.2.2.2.2.2.2.2.2.2.2.2.2.2.1 (am_ix_nI (by omega)) (tl_at (by omega)) ?_
      rcases wi_cm1_1 hsr with esr | esr | esr
      · refine aw_top (y := -1) esr ?_
        refine aw_if_lt (npc := 26) (tgt := 35) dX8_copy_23 rfl (by decide) (fun _ => ?_) (fun hc => absurd (by decide) hc)
        refine aw_ldc (npc := 37) kc_X8_187 dX8_copy_35 rfl ?_
        refine aw_iret rfl dX8_copy_37 ?_
        exact hq _ _ _ (by simp [cpV, cpR, cI, hw1, hw2, fsn, ftn, esr]) (by simp [cpV, cpR, cI, hw1, hw2, fsn, ftn, esr]) (fun _ _ _ => rfl) F am_fp0
      · refine aw_top (y := 0) esr ?_
        refine aw_if_lt (npc := 26) (tgt := 35) dX8_copy_23 rfl (by decide) (fun hc => absurd hc (by decide)) (fun _ => ?_)
        refine aw_aload_n (npc := 27) rfl dX8_copy_26 rfl ?_
        refine aw_get (npc := 30) dX8_copy_27 rfl kf_X8_55 F.1 rfl ?_
        refine aw_iload_n (npc := 31) rfl dX8_copy_30 rfl ?_
        refine aw_iald (npc := 32) (x := (a 83) tn) (j := tn) dX8_copy_31 rfl F.2.2.2.2.2.2.2.2.2.2.2.2.2.2.1 (am_ix_nI (by omega)) (tl_at (by omega)) ?_
        rcases wi_cm1_1 htr with etr | etr | etr
        · refine aw_top (y := -1) etr ?_
          refine aw_if_ge (npc := 35) (tgt := 38) dX8_copy_32 rfl (by decide) (fun hc => absurd hc (by decide)) (fun _ => ?_)
          refine aw_ldc (npc := 37) kc_X8_187 dX8_copy_35 rfl ?_
          refine aw_iret rfl dX8_copy_37 ?_
          exact hq _ _ _ (by simp [cpV, cpR, cI, hw1, hw2, fsn, ftn, esr, etr]) (by simp [cpV, cpR, cI, hw1, hw2, fsn, ftn, esr, etr]) (fun _ _ _ => rfl) F am_fp0
        · refine aw_top (y := 0) etr ?_
          refine aw_if_ge (npc := 35) (tgt := 38) dX8_copy_32 rfl (by decide) (fun _ => ?_) (fun hc => absurd (by decide) hc)
          refine aw_aload_n (npc := 39) rfl dX8_copy_38 rfl ?_
          refine aw_get (npc := 42) dX8_copy_39 rfl kf_X8_55 F.1 rfl ?_
          refine aw_iload_n (npc := 43) rfl dX8_copy_42 rfl ?_
          refine aw_iald (npc := 44) (x := (a 83) sn) (j := sn) dX8_copy_43 rfl F.2.2.2.2.2.2.2.2.2.2.2.2.2.2.1 (am_ix_nI (by omega)) (tl_at (by omega)) ?_
          refine aw_top (y := 0) esr ?_
          refine aw_aload_n (npc := 45) rfl dX8_copy_44 rfl ?_
          refine aw_get (npc := 48) dX8_copy_45 rfl kf_X8_55 F.1 rfl ?_
          refine aw_iload_n (npc := 49) rfl dX8_copy_48 rfl ?_
          refine aw_iald (npc := 50) (x := (a 83) tn) (j := tn) dX8_copy_49 rfl F.2.2.2.2.2.2.2.2.2.2.2.2.2.2.1 (am_ix_nI (by omega)) (tl_at (by omega)) ?_
          refine aw_top (y := 0) etr ?_
          refine aw_icmp_eq (npc := 53) (tgt := 56) dX8_copy_50 rfl (by decide) (fun _ => ?_) (fun hc => absurd (by decide) hc)
          refine aw_iload_n (npc := 57) rfl dX8_copy_56 rfl ?_
          refine aw_if_lt (npc := 60) (tgt := 97) dX8_copy_57 rfl (by decide) (fun hc3 => ?_) (fun hc3 => ?_)
          · refine aw_ldcw (npc := 100) kc_X8_259 dX8_copy_97 rfl ?_
            refine aw_iret rfl dX8_copy_100 ?_
            have fK : ¬ cpK (a 84) (nI sn) p (nI tn) q m := by
              unfold cpK
              rw [fsn, ftn]
              exact fun K => K.2.1.1 hc3
            exact hq _ _ _ (by simp [cpV, cpR, cI, hw1, hw2, hc3, fsn, ftn, esr, etr, fK]) (by simp [cpV, cpR, cI, hw1, hw2, hc3, fsn, ftn, esr, etr, fK]) (fun _ _ _ => rfl) F am_fp0
          · refine aw_iload (npc := 62) rfl dX8_copy_60 rfl ?_
            refine aw_if_lt (npc := 65) (tgt := 97) dX8_copy_62 rfl (by decide) (fun hc4 => ?_) (fun hc4 => ?_)
            · refine aw_ldcw (npc := 100) kc_X8_259 dX8_copy_97 rfl ?_
              refine aw_iret rfl dX8_copy_100 ?_
              have fK : ¬ cpK (a 84) (nI sn) p (nI tn) q m := by
                unfold cpK
                rw [fsn, ftn]
                exact fun K => K.2.2.2.1 hc4
              exact hq _ _ _ (by simp [cpV, cpR, cI, hw1, hw2, hc3, hc4, fsn, ftn, esr, etr, fK]) (by simp [cpV, cpR, cI, hw1, hw2, hc3, hc4, fsn, ftn, esr, etr, fK]) (fun _ _ _ => rfl) F am_fp0
            · refine aw_iload (npc := 67) rfl dX8_copy_65 rfl ?_
              refine aw_if_lt (npc := 70) (tgt := 97) dX8_copy_67 rfl (by decide) (fun hc5 => ?_) (fun hc5 => ?_)
              · refine aw_ldcw (npc := 100) kc_X8_259 dX8_copy_97 rfl ?_
                refine aw_iret rfl dX8_copy_100 ?_
                have fK : ¬ cpK (a 84) (nI sn) p (nI tn) q m := by
                  unfold cpK
                  rw [fsn, ftn]
                  exact fun K => K.1.1 hc5
                exact hq _ _ _ (by simp [cpV, cpR, cI, hw1, hw2, hc3, hc4, hc5, fsn, ftn, esr, etr, fK]) (by simp [cpV, cpR, cI, hw1, hw2, hc3, hc4, hc5, fsn, ftn, esr, etr, fK]) (fun _ _ _ => rfl) F am_fp0
              · refine aw_iload_n (npc := 71) rfl dX8_copy_70 rfl ?_
                refine aw_aload_n (npc := 72) rfl dX8_copy_71 rfl ?_
                refine aw_get (npc := 75) dX8_copy_72 rfl kf_X8_58 F.1 rfl ?_
                refine aw_iload_n (npc := 76) rfl dX8_copy_75 rfl ?_
                refine aw_iald (npc := 77) (x := (a 84) sn) (j := sn) dX8_copy_76 rfl F.2.2.2.2.2.2.2.2.2.2.2.2.2.2.2.1 (am_ix_nI (by omega)) (tl_at (by omega)) ?_
                refine aw_iload (npc := 79) rfl dX8_copy_77 rfl ?_
                refine aw_isub (npc := 80) dX8_copy_79 rfl ?_
                refine aw_icmp_gt (npc := 83) (tgt := 97) dX8_copy_80 rfl (by decide) (fun hc6 => ?_) (fun hc6 => ?_)
                · refine aw_ldcw (npc := 100) kc_X8_259 dX8_copy_97 rfl ?_
                  refine aw_iret rfl dX8_copy_100 ?_
                  have fK : ¬ cpK (a 84) (nI sn) p (nI tn) q m := by
                    unfold cpK
                    rw [fsn, ftn]
                    exact fun K => K.2.1.2 hc6
                  exact hq _ _ _ (by simp [cpV, cpR, cI, hw1, hw2, hc3, hc4, hc5, hc6, fsn, ftn, esr, etr, fK]) (by simp [cpV, cpR, cI, hw1, hw2, hc3, hc4, hc5, hc6, fsn, ftn, esr, etr, fK]) (fun _ _ _ => rfl) F am_fp0
                · refine aw_iload (npc := 85) rfl dX8_copy_83 rfl ?_
                  refine aw_aload_n (npc := 86) rfl dX8_copy_85 rfl ?_
                  refine aw_get (npc := 89) dX8_copy_86 rfl kf_X8_58 F.1 rfl ?_
                  refine aw_iload_n (npc := 90) rfl dX8_copy_89 rfl ?_
                  refine aw_iald (npc := 91) (x := (a 84) tn) (j := tn) dX8_copy_90 rfl F.2.2.2.2.2.2.2.2.2.2.2.2.2.2.2.1 (am_ix_nI (by omega)) (tl_at (by omega)) ?_
                  refine aw_iload (npc := 93) rfl dX8_copy_91 rfl ?_
                  refine aw_isub (npc := 94) dX8_copy_93 rfl ?_
                  refine aw_icmp_le (npc := 97) (tgt := 101) dX8_copy_94 rfl (by decide) (fun hc7 => ?_) (fun hc7 => ?_)
                  · have fK : cpK (a 84) (nI sn) p (nI tn) q m := by
                      unfold cpK
                      rw [fsn, ftn]
                      have hA := cpy_nat hz9 hc3 hc5 (ez9 ▸ hc6)
                      have hB := cpy_nat hz8 hc4 hc5 (ez8 ▸ Int32.not_lt.mpr hc7)
                      obtain ⟨pn, mn, e1, e2, e3⟩ := hA
                      obtain ⟨qn, mm, e4, e5, e6⟩ := hB
                      refine ⟨?_, ⟨hc3, hc6⟩, ?_, ⟨hc4, Int32.not_lt.mpr hc7⟩⟩
                      · rw [e2, ez9]; exact wi_n0 (by omega) (by omega)
                      · rw [e5, ez8]; exact wi_n0 (by omega) (by omega)
                    obtain ⟨pn, mn, epn, emn, hpm⟩ := cpy_nat hz9 hc3 hc5 (ez9 ▸ hc6)
                    obtain ⟨qn, mm, eqn, emm, hqm⟩ := cpy_nat hz8 hc4 hc5 (ez8 ▸ Int32.not_lt.mpr hc7)
                    obtain rfl : mm = mn := by have z := congrArg Int32.toInt (emm.symm.trans emn); rw [nI_toInt (by omega), nI_toInt (by omega)] at z; omega
                    subst epn
                    subst eqn
                    subst emn
                    have fpn : fN (nI pn) = pn := fN_nI (by omega)
                    have fqn : fN (nI qn) = qn := fN_nI (by omega)
                    have fmn : fN (nI mm) = mm := fN_nI (by omega)
                    refine aw_iconst (npc := 102) (v := 0) (by decide) dX8_copy_101 rfl ?_
                    refine aw_istore (npc := 104) (L' := [some (.ref 69), some (.int (nI sn)), some (.int (nI pn)), some (.int (nI tn)), some (.int (nI qn)), some (.int (nI mm)), some (.int 0)]) dX8_copy_102 rfl (by decide) rfl rfl ?_
                    refine aw_locs (L' := [some (.ref 69), some (.int (nI sn)), some (.int (nI pn)), some (.int (nI tn)), some (.int (nI qn)), some (.int (nI mm)), some (.int (nI 0))]) rfl ?_
                    refine m_copy1 (a0 := a) (by omega) (by omega) (by omega) (by omega) mm 0 (by omega) _ _ F (fun j hj => by omega) (fun _ _ => rfl) (fun a9 h9 M9 e9 c9 f9 => ?_)
                    refine aw_iconst (npc := 139) (v := 0) (by decide) dX8_copy_138 rfl ?_
                    refine aw_istore (npc := 141) (L' := [some (.ref 69), some (.int (nI sn)), some (.int (nI pn)), some (.int (nI tn)), some (.int (nI qn)), some (.int (nI mm)), some (.int 0)]) dX8_copy_139 rfl (by decide) rfl rfl ?_
                    refine aw_locs (L' := [some (.ref 69), some (.int (nI sn)), some (.int (nI pn)), some (.int (nI tn)), some (.int (nI qn)), some (.int (nI mm)), some (.int (nI 0))]) rfl ?_
                    refine m_copy2 (a0 := a9) (by omega) (by omega) (by omega) (by omega) mm 0 (by omega) _ _ M9 cpD_0.symm (fun _ _ => rfl) (fun b9 k9 M8 e8 c8 f8 => ?_)
                    have e85 : b9 85 = cpC (a 85) sn pn tn qn mm := e8.trans ((congrArg (fun z => cpD z (a9 90) tn qn mm) (c9 85 (by decide))).trans (cpD_C e9))
                    have a8 : ∀ c, c ≠ 85 → c ≠ 90 → b9 c = a c := fun c h1 h2 => (c8 c h1).trans (c9 c h2)
                    refine aw_iload (npc := 178) rfl dX8_copy_176 rfl ?_
                    refine aw_iret rfl dX8_copy_178 ?_
                    exact hq _ _ _ (by simp [cpV, cpR, cI, hw1, hw2, hc3, hc4, hc5, hc6, hc7, fsn, ftn, fpn, fqn, fmn, esr, etr, fK]) (by rw [e85]; simp [cpV, cpR, cI, hw1, hw2, hc3, hc4, hc5, hc6, hc7, fsn, ftn, fpn, fqn, fmn, esr, etr, fK]) a8 M8 (am_fpT f8 (am_fpT f9 am_fp0))
                  · refine aw_ldcw (npc := 100) kc_X8_259 dX8_copy_97 rfl ?_
                    refine aw_iret rfl dX8_copy_100 ?_
                    have fK : ¬ cpK (a 84) (nI sn) p (nI tn) q m := by
                      unfold cpK
                      rw [fsn, ftn]
                      exact fun K => K.2.2.2.2 (Int32.not_le.mp hc7)
                    exact hq _ _ _ (by simp [cpV, cpR, cI, hw1, hw2, hc3, hc4, hc5, hc6, hc7, fsn, ftn, esr, etr, fK]) (by simp [cpV, cpR, cI, hw1, hw2, hc3, hc4, hc5, hc6, hc7, fsn, ftn, esr, etr, fK]) (fun _ _ _ => rfl) F am_fp0
        · refine aw_top (y := 1) etr ?_
          refine aw_if_ge (npc := 35) (tgt := 38) dX8_copy_32 rfl (by decide) (fun _ => ?_) (fun hc => absurd (by decide) hc)
          refine aw_aload_n (npc := 39) rfl dX8_copy_38 rfl ?_
          refine aw_get (npc := 42) dX8_copy_39 rfl kf_X8_55 F.1 rfl ?_
          refine aw_iload_n (npc := 43) rfl dX8_copy_42 rfl ?_
          refine aw_iald (npc := 44) (x := (a 83) sn) (j := sn) dX8_copy_43 rfl F.2.2.2.2.2.2.2.2.2.2.2.2.2.2.1 (am_ix_nI (by omega)) (tl_at (by omega)) ?_
          refine aw_top (y := 0) esr ?_
          refine aw_aload_n (npc := 45) rfl dX8_copy_44 rfl ?_
          refine aw_get (npc := 48) dX8_copy_45 rfl kf_X8_55 F.1 rfl ?_
          refine aw_iload_n (npc := 49) rfl dX8_copy_48 rfl ?_
          refine aw_iald (npc := 50) (x := (a 83) tn) (j := tn) dX8_copy_49 rfl F.2.2.2.2.2.2.2.2.2.2.2.2.2.2.1 (am_ix_nI (by omega)) (tl_at (by omega)) ?_
          refine aw_top (y := 1) etr ?_
          refine aw_icmp_eq (npc := 53) (tgt := 56) dX8_copy_50 rfl (by decide) (fun hc => absurd hc (by decide)) (fun _ => ?_)
          refine aw_ldc (npc := 55) kc_X8_134 dX8_copy_53 rfl ?_
          refine aw_iret rfl dX8_copy_55 ?_
          exact hq _ _ _ (by simp [cpV, cpR, cI, hw1, hw2, fsn, ftn, esr, etr]) (by simp [cpV, cpR, cI, hw1, hw2, fsn, ftn, esr, etr]) (fun _ _ _ => rfl) F am_fp0
      · refine aw_top (y := 1) esr ?_
        refine aw_if_lt (npc := 26) (tgt := 35) dX8_copy_23 rfl (by decide) (fun hc => absurd hc (by decide)) (fun _ => ?_)
        refine aw_aload_n (npc := 27) rfl dX8_copy_26 rfl ?_
        refine aw_get (npc := 30) dX8_copy_27 rfl kf_X8_55 F.1 rfl ?_
        refine aw_iload_n (npc := 31) rfl dX8_copy_30 rfl ?_
        refine aw_iald (npc := 32) (x := (a 83) tn) (j := tn) dX8_copy_31 rfl F.2.2.2.2.2.2.2.2.2.2.2.2.2.2.1 (am_ix_nI (by omega)) (tl_at (by omega)) ?_
        rcases wi_cm1_1 htr with etr | etr | etr
        · refine aw_top (y := -1) etr ?_
          refine aw_if_ge (npc := 35) (tgt := 38) dX8_copy_32 rfl (by decide) (fun hc => absurd hc (by decide)) (fun _ => ?_)
          refine aw_ldc (npc := 37) kc_X8_187 dX8_copy_35 rfl ?_
          refine aw_iret rfl dX8_copy_37 ?_
          exact hq _ _ _ (by simp [cpV, cpR, cI, hw1, hw2, fsn, ftn, esr, etr]) (by simp [cpV, cpR, cI, hw1, hw2, fsn, ftn, esr, etr]) (fun _ _ _ => rfl) F am_fp0
        · refine aw_top (y := 0) etr ?_
          refine aw_if_ge (npc := 35) (tgt := 38) dX8_copy_32 rfl (by decide) (fun _ => ?_) (fun hc => absurd (by decide) hc)
          refine aw_aload_n (npc := 39) rfl dX8_copy_38 rfl ?_
          refine aw_get (npc := 42) dX8_copy_39 rfl kf_X8_55 F.1 rfl ?_
          refine aw_iload_n (npc := 43) rfl dX8_copy_42 rfl ?_
          refine aw_iald (npc := 44) (x := (a 83) sn) (j := sn) dX8_copy_43 rfl F.2.2.2.2.2.2.2.2.2.2.2.2.2.2.1 (am_ix_nI (by omega)) (tl_at (by omega)) ?_
          refine aw_top (y := 1) esr ?_
          refine aw_aload_n (npc := 45) rfl dX8_copy_44 rfl ?_
          refine aw_get (npc := 48) dX8_copy_45 rfl kf_X8_55 F.1 rfl ?_
          refine aw_iload_n (npc := 49) rfl dX8_copy_48 rfl ?_
          refine aw_iald (npc := 50) (x := (a 83) tn) (j := tn) dX8_copy_49 rfl F.2.2.2.2.2.2.2.2.2.2.2.2.2.2.1 (am_ix_nI (by omega)) (tl_at (by omega)) ?_
          refine aw_top (y := 0) etr ?_
          refine aw_icmp_eq (npc := 53) (tgt := 56) dX8_copy_50 rfl (by decide) (fun hc => absurd hc (by decide)) (fun _ => ?_)
          refine aw_ldc (npc := 55) kc_X8_134 dX8_copy_53 rfl ?_
          refine aw_iret rfl dX8_copy_55 ?_
          exact hq _ _ _ (by simp [cpV, cpR, cI, hw1, hw2, fsn, ftn, esr, etr]) (by simp [cpV, cpR, cI, hw1, hw2, fsn, ftn, esr, etr]) (fun _ _ _ => rfl) F am_fp0
        · refine aw_top (y := 1) etr ?_
          refine aw_if_ge (npc := 35) (tgt := 38) dX8_copy_32 rfl (by decide) (fun _ => ?_) (fun hc => absurd (by decide) hc)
          refine aw_aload_n (npc := 39) rfl dX8_copy_38 rfl ?_
          refine aw_get (npc := 42) dX8_copy_39 rfl kf_X8_55 F.1 rfl ?_
          refine aw_iload_n (npc := 43) rfl dX8_copy_42 rfl ?_
          refine aw_iald (npc := 44) (x := (a 83) sn) (j := sn) dX8_copy_43 rfl F.2.2.2.2.2.2.2.2.2.2.2.2.2.2.1 (am_ix_nI (by omega)) (tl_at (by omega)) ?_
          refine aw_top (y := 1) esr ?_
          refine aw_aload_n (npc := 45) rfl dX8_copy_44 rfl ?_
          refine aw_get (npc := 48) dX8_copy_45 rfl kf_X8_55 F.1 rfl ?_
          refine aw_iload_n (npc := 49) rfl dX8_copy_48 rfl ?_
          refine aw_iald (npc := 50) (x := (a 83) tn) (j := tn) dX8_copy_49 rfl F.2.2.2.2.2.2.2.2.2.2.2.2.2.2.1 (am_ix_nI (by omega)) (tl_at (by omega)) ?_
          refine aw_top (y := 1) etr ?_
          refine aw_icmp_eq (npc := 53) (tgt := 56) dX8_copy_50 rfl (by decide) (fun _ => ?_) (fun hc => absurd (by decide) hc)
          refine aw_iload_n (npc := 57) rfl dX8_copy_56 rfl ?_
          refine aw_if_lt (npc := 60) (tgt := 97) dX8_copy_57 rfl (by decide) (fun hc8 => ?_) (fun hc8 => ?_)
          · refine aw_ldcw (npc := 100) kc_X8_259 dX8_copy_97 rfl ?_
            refine aw_iret rfl dX8_copy_100 ?_
            have fK : ¬ cpK (a 84) (nI sn) p (nI tn) q m := by
              unfold cpK
              rw [fsn, ftn]
              exact fun K => K.2.1.1 hc8
            exact hq _ _ _ (by simp [cpV, cpR, cI, hw1, hw2, hc8, fsn, ftn, esr, etr, fK]) (by simp [cpV, cpR, cI, hw1, hw2, hc8, fsn, ftn, esr, etr, fK]) (fun _ _ _ => rfl) F am_fp0
          · refine aw_iload (npc := 62) rfl dX8_copy_60 rfl ?_
            refine aw_if_lt (npc := 65) (tgt := 97) dX8_copy_62 rfl (by decide) (fun hc9 => ?_) (fun hc9 => ?_)
            · refine aw_ldcw (npc := 100) kc_X8_259 dX8_copy_97 rfl ?_
              refine aw_iret rfl dX8_copy_100 ?_
              have fK : ¬ cpK (a 84) (nI sn) p (nI tn) q m := by
                unfold cpK
                rw [fsn, ftn]
                exact fun K => K.2.2.2.1 hc9
              exact hq _ _ _ (by simp [cpV, cpR, cI, hw1, hw2, hc8, hc9, fsn, ftn, esr, etr, fK]) (by simp [cpV, cpR, cI, hw1, hw2, hc8, hc9, fsn, ftn, esr, etr, fK]) (fun _ _ _ => rfl) F am_fp0
            · refine aw_iload (npc := 67) rfl dX8_copy_65 rfl ?_
              refine aw_if_lt (npc := 70) (tgt := 97) dX8_copy_67 rfl (by decide) (fun hc10 => ?_) (fun hc10 => ?_)
              · refine aw_ldcw (npc := 100) kc_X8_259 dX8_copy_97 rfl ?_
                refine aw_iret rfl dX8_copy_100 ?_
                have fK : ¬ cpK (a 84) (nI sn) p (nI tn) q m := by
                  unfold cpK
                  rw [fsn, ftn]
                  exact fun K => K.1.1 hc10
                exact hq _ _ _ (by simp [cpV, cpR, cI, hw1, hw2, hc8, hc9, hc10, fsn, ftn, esr, etr, fK]) (by simp [cpV, cpR, cI, hw1, hw2, hc8, hc9, hc10, fsn, ftn, esr, etr, fK]) (fun _ _ _ => rfl) F am_fp0
              · refine aw_iload_n (npc := 71) rfl dX8_copy_70 rfl ?_
                refine aw_aload_n (npc := 72) rfl dX8_copy_71 rfl ?_
                refine aw_get (npc := 75) dX8_copy_72 rfl kf_X8_58 F.1 rfl ?_
                refine aw_iload_n (npc := 76) rfl dX8_copy_75 rfl ?_
                refine aw_iald (npc := 77) (x := (a 84) sn) (j := sn) dX8_copy_76 rfl F.2.2.2.2.2.2.2.2.2.2.2.2.2.2.2.1 (am_ix_nI (by omega)) (tl_at (by omega)) ?_
                refine aw_iload (npc := 79) rfl dX8_copy_77 rfl ?_
                refine aw_isub (npc := 80) dX8_copy_79 rfl ?_
                refine aw_icmp_gt (npc := 83) (tgt := 97) dX8_copy_80 rfl (by decide) (fun hc11 => ?_) (fun hc11 => ?_)
                · refine aw_ldcw (npc := 100) kc_X8_259 dX8_copy_97 rfl ?_
                  refine aw_iret rfl dX8_copy_100 ?_
                  have fK : ¬ cpK (a 84) (nI sn) p (nI tn) q m := by
                    unfold cpK
                    rw [fsn, ftn]
                    exact fun K => K.2.1.2 hc11
                  exact hq _ _ _ (by simp [cpV, cpR, cI, hw1, hw2, hc8, hc9, hc10, hc11, fsn, ftn, esr, etr, fK]) (by simp [cpV, cpR, cI, hw1, hw2, hc8, hc9, hc10, hc11, fsn, ftn, esr, etr, fK]) (fun _ _ _ => rfl) F am_fp0
                · refine aw_iload (npc := 85) rfl dX8_copy_83 rfl ?_
                  refine aw_aload_n (npc := 86) rfl dX8_copy_85 rfl ?_
                  refine aw_get (npc := 89) dX8_copy_86 rfl kf_X8_58 F.1 rfl ?_
                  refine aw_iload_n (npc := 90) rfl dX8_copy_89 rfl ?_
                  refine aw_iald (npc := 91) (x := (a 84) tn) (j := tn) dX8_copy_90 rfl F.2.2.2.2.2.2.2.2.2.2.2.2.2.2.2.1 (am_ix_nI (by omega)) (tl_at (by omega)) ?_
                  refine aw_iload (npc := 93) rfl dX8_copy_91 rfl ?_
                  refine aw_isub (npc := 94) dX8_copy_93 rfl ?_
                  refine aw_icmp_le (npc := 97) (tgt := 101) dX8_copy_94 rfl (by decide) (fun hc12 => ?_) (fun hc12 => ?_)
                  · have fK : cpK (a 84) (nI sn) p (nI tn) q m := by
                      unfold cpK
                      rw [fsn, ftn]
                      have hA := cpy_nat hz9 hc8 hc10 (ez9 ▸ hc11)
                      have hB := cpy_nat hz8 hc9 hc10 (ez8 ▸ Int32.not_lt.mpr hc12)
                      obtain ⟨pn, mn, e1, e2, e3⟩ := hA
                      obtain ⟨qn, mm, e4, e5, e6⟩ := hB
                      refine ⟨?_, ⟨hc8, hc11⟩, ?_, ⟨hc9, Int32.not_lt.mpr hc12⟩⟩
                      · rw [e2, ez9]; exact wi_n0 (by omega) (by omega)
                      · rw [e5, ez8]; exact wi_n0 (by omega) (by omega)
                    obtain ⟨pn, mn, epn, emn, hpm⟩ := cpy_nat hz9 hc8 hc10 (ez9 ▸ hc11)
                    obtain ⟨qn, mm, eqn, emm, hqm⟩ := cpy_nat hz8 hc9 hc10 (ez8 ▸ Int32.not_lt.mpr hc12)
                    obtain rfl : mm = mn := by have z := congrArg Int32.toInt (emm.symm.trans emn); rw [nI_toInt (by omega), nI_toInt (by omega)] at z; omega
                    subst epn
                    subst eqn
                    subst emn
                    have fpn : fN (nI pn) = pn := fN_nI (by omega)
                    have fqn : fN (nI qn) = qn := fN_nI (by omega)
                    have fmn : fN (nI mm) = mm := fN_nI (by omega)
                    refine aw_iconst (npc := 102) (v := 0) (by decide) dX8_copy_101 rfl ?_
                    refine aw_istore (npc := 104) (L' := [some (.ref 69), some (.int (nI sn)), some (.int (nI pn)), some (.int (nI tn)), some (.int (nI qn)), some (.int (nI mm)), some (.int 0)]) dX8_copy_102 rfl (by decide) rfl rfl ?_
                    refine aw_locs (L' := [some (.ref 69), some (.int (nI sn)), some (.int (nI pn)), some (.int (nI tn)), some (.int (nI qn)), some (.int (nI mm)), some (.int (nI 0))]) rfl ?_
                    refine m_copy1 (a0 := a) (by omega) (by omega) (by omega) (by omega) mm 0 (by omega) _ _ F (fun j hj => by omega) (fun _ _ => rfl) (fun a9 h9 M9 e9 c9 f9 => ?_)
                    refine aw_iconst (npc := 139) (v := 0) (by decide) dX8_copy_138 rfl ?_
                    refine aw_istore (npc := 141) (L' := [some (.ref 69), some (.int (nI sn)), some (.int (nI pn)), some (.int (nI tn)), some (.int (nI qn)), some (.int (nI mm)), some (.int 0)]) dX8_copy_139 rfl (by decide) rfl rfl ?_
                    refine aw_locs (L' := [some (.ref 69), some (.int (nI sn)), some (.int (nI pn)), some (.int (nI tn)), some (.int (nI qn)), some (.int (nI mm)), some (.int (nI 0))]) rfl ?_
                    refine m_copy2 (a0 := a9) (by omega) (by omega) (by omega) (by omega) mm 0 (by omega) _ _ M9 cpD_0.symm (fun _ _ => rfl) (fun b9 k9 M8 e8 c8 f8 => ?_)
                    have e85 : b9 85 = cpC (a 85) sn pn tn qn mm := e8.trans ((congrArg (fun z => cpD z (a9 90) tn qn mm) (c9 85 (by decide))).trans (cpD_C e9))
                    have a8 : ∀ c, c ≠ 85 → c ≠ 90 → b9 c = a c := fun c h1 h2 => (c8 c h1).trans (c9 c h2)
                    refine aw_iload (npc := 178) rfl dX8_copy_176 rfl ?_
                    refine aw_iret rfl dX8_copy_178 ?_
                    exact hq _ _ _ (by simp [cpV, cpR, cI, hw1, hw2, hc8, hc9, hc10, hc11, hc12, fsn, ftn, fpn, fqn, fmn, esr, etr, fK]) (by rw [e85]; simp [cpV, cpR, cI, hw1, hw2, hc8, hc9, hc10, hc11, hc12, fsn, ftn, fpn, fqn, fmn, esr, etr, fK]) a8 M8 (am_fpT f8 (am_fpT f9 am_fp0))
                  · refine aw_ldcw (npc := 100) kc_X8_259 dX8_copy_97 rfl ?_
                    refine aw_iret rfl dX8_copy_100 ?_
                    have fK : ¬ cpK (a 84) (nI sn) p (nI tn) q m := by
                      unfold cpK
                      rw [fsn, ftn]
                      exact fun K => K.2.2.2.2 (Int32.not_le.mp hc12)
                    exact hq _ _ _ (by simp [cpV, cpR, cI, hw1, hw2, hc8, hc9, hc10, hc11, hc12, fsn, ftn, esr, etr, fK]) (by simp [cpV, cpR, cI, hw1, hw2, hc8, hc9, hc10, hc11, hc12, fsn, ftn, esr, etr, fK]) (fun _ _ _ => rfl) F am_fp0
    · refine aw_re (S' := [.int 0]) rfl ?_
      refine aw_if_ne (npc := 14) (tgt := 17) dX8_copy_11 rfl (by decide) (fun hc => absurd (by decide) hc) (fun _ => ?_)
      refine aw_ldc (npc := 16) kc_X8_91 dX8_copy_14 rfl ?_
      refine aw_iret rfl dX8_copy_16 ?_
      exact hq _ _ _ (by simp [cpV, cpR, cI, hw1, hw2, fsn]) (by simp [cpV, cpR, cI, hw1, hw2, fsn]) (fun _ _ _ => rfl) F am_fp0
  · refine aw_re (S' := [.int 0]) rfl ?_
    refine aw_if_eq (npc := 7) (tgt := 14) dX8_copy_4 rfl (by decide) (fun _ => ?_) (fun hc => absurd (by decide) hc)
    refine aw_ldc (npc := 16) kc_X8_91 dX8_copy_14 rfl ?_
    refine aw_iret rfl dX8_copy_16 ?_
    exact hq _ _ _ (by simp [cpV, cpR, cI, hw1]) (by simp [cpV, cpR, cI, hw1]) (fun _ _ _ => rfl) F am_fp0
