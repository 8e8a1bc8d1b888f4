noncomputable def wif (v lo hi a b : Int32) : Int32 := @ite _ (wi v lo hi) (Classical.propDecidable _) a b
theorem wif_t {v lo hi a b : Int32} (h : wi v lo hi) : wif v lo hi a b = a := if_pos h
theorem wif_f {v lo hi a b : Int32} (h : ¬ wi v lo hi) : wif v lo hi a b = b := if_neg h
theorem wif_same {v lo hi a : Int32} : wif v lo hi a a = a := ite_self _
theorem wi_no {v lo hi : Int32} (h : hi < lo) : ¬ wi v lo hi := fun q => by
  have h1 : ¬ v.toInt < lo.toInt := fun z => q.1 (Int32.lt_iff_toInt_lt.mpr z)
  have h2 : ¬ hi.toInt < v.toInt := fun z => q.2 (Int32.lt_iff_toInt_lt.mpr z)
  have h3 := Int32.lt_iff_toInt_lt.mp h
  omega
theorem fin_c {h h9 : am_H} {Q : am_Q} {n : Nat} {x y : Int32} (hq : ∀ h9, am_fr 69 h9 h → Q (some (.int x)) n h9) (hf : am_fr 69 h9 h) (e : x = y) : Q (some (.int y)) n h9 := e ▸ hq h9 hf
theorem fin_m {h9 : am_H} {Q : am_Q} {n : Nat} {x y : Int32} (hq : ∀ n9 h9, Q (some (.int x)) n9 h9) (e : x = y) : Q (some (.int y)) n h9 := e ▸ hq n h9
theorem wi_c0_1 {x : Int32} (h : wi x 0 1) : x = 0 ∨ x = 1 := by
  have h1 : ¬ x.toInt < 0 := fun q => h.1 (Int32.lt_iff_toInt_lt.mpr (by simpa using q))
  have h2 : ¬ 1 < x.toInt := fun q => h.2 (Int32.lt_iff_toInt_lt.mpr (by simpa using q))
  rcases (show x.toInt = 0 ∨ x.toInt = 1 by omega) with q | q
  · exact Or.inl (Int32.toInt_inj.mp (by rw [q]; rfl))
  · exact Or.inr ((Int32.toInt_inj.mp (by rw [q]; rfl)))
theorem wi_c0_2 {x : Int32} (h : wi x 0 2) : x = 0 ∨ x = 1 ∨ x = 2 := by
  have h1 : ¬ x.toInt < 0 := fun q => h.1 (Int32.lt_iff_toInt_lt.mpr (by simpa using q))
  have h2 : ¬ 2 < x.toInt := fun q => h.2 (Int32.lt_iff_toInt_lt.mpr (by simpa using q))
  rcases (show x.toInt = 0 ∨ x.toInt = 1 ∨ x.toInt = 2 by omega) with q | q | q
  · exact Or.inl (Int32.toInt_inj.mp (by rw [q]; rfl))
  · exact Or.inr (Or.inl (Int32.toInt_inj.mp (by rw [q]; rfl)))
  · exact Or.inr (Or.inr ((Int32.toInt_inj.mp (by rw [q]; rfl))))
theorem wi_c0_3 {x : Int32} (h : wi x 0 3) : x = 0 ∨ x = 1 ∨ x = 2 ∨ x = 3 := by
  have h1 : ¬ x.toInt < 0 := fun q => h.1 (Int32.lt_iff_toInt_lt.mpr (by simpa using q))
  have h2 : ¬ 3 < x.toInt := fun q => h.2 (Int32.lt_iff_toInt_lt.mpr (by simpa using q))
  rcases (show x.toInt = 0 ∨ x.toInt = 1 ∨ x.toInt = 2 ∨ x.toInt = 3 by omega) with q | q | q | q
  · exact Or.inl (Int32.toInt_inj.mp (by rw [q]; rfl))
  · exact Or.inr (Or.inl (Int32.toInt_inj.mp (by rw [q]; rfl)))
  · exact Or.inr (Or.inr (Or.inl (Int32.toInt_inj.mp (by rw [q]; rfl))))
  · exact Or.inr (Or.inr (Or.inr ((Int32.toInt_inj.mp (by rw [q]; rfl)))))
theorem wi_c0_4 {x : Int32} (h : wi x 0 4) : x = 0 ∨ x = 1 ∨ x = 2 ∨ x = 3 ∨ x = 4 := by
  have h1 : ¬ x.toInt < 0 := fun q => h.1 (Int32.lt_iff_toInt_lt.mpr (by simpa using q))
  have h2 : ¬ 4 < x.toInt := fun q => h.2 (Int32.lt_iff_toInt_lt.mpr (by simpa using q))
  rcases (show x.toInt = 0 ∨ x.toInt = 1 ∨ x.toInt = 2 ∨ x.toInt = 3 ∨ x.toInt = 4 by omega) with q | q | q | q | q
  · exact Or.inl (Int32.toInt_inj.mp (by rw [q]; rfl))
  · exact Or.inr (Or.inl (Int32.toInt_inj.mp (by rw [q]; rfl)))
  · exact Or.inr (Or.inr (Or.inl (Int32.toInt_inj.mp (by rw [q]; rfl))))
  · exact Or.inr (Or.inr (Or.inr (Or.inl (Int32.toInt_inj.mp (by rw [q]; rfl)))))
  · exact Or.inr (Or.inr (Or.inr (Or.inr ((Int32.toInt_inj.mp (by rw [q]; rfl))))))
theorem sw_6 (x : Int32) : x = 0 ∨ x = 1 ∨ x = 2 ∨ x = 3 ∨ x = 4 ∨ x = 5 ∨ x = 6 ∨ ((x.toInt < 0 ∨ 6 < x.toInt) ∧ ∀ k : Int32, wi k 0 6 → ¬ x = k) := by
  by_cases hx : x.toInt < 0 ∨ 6 < x.toInt
  · refine Or.inr (Or.inr (Or.inr (Or.inr (Or.inr (Or.inr (Or.inr (⟨hx, fun k hk e => ?_⟩)))))))
    subst e
    have h1 : ¬ x.toInt < 0 := fun q => hk.1 (Int32.lt_iff_toInt_lt.mpr (by simpa using q))
    have h2 : ¬ 6 < x.toInt := fun q => hk.2 (Int32.lt_iff_toInt_lt.mpr (by simpa using q))
    omega
  · rcases (show x.toInt = 0 ∨ x.toInt = 1 ∨ x.toInt = 2 ∨ x.toInt = 3 ∨ x.toInt = 4 ∨ x.toInt = 5 ∨ x.toInt = 6 by omega) with q | q | q | q | q | q | q
    · exact Or.inl (Int32.toInt_inj.mp (by rw [q]; rfl))
    · exact Or.inr (Or.inl (Int32.toInt_inj.mp (by rw [q]; rfl)))
    · exact Or.inr (Or.inr (Or.inl (Int32.toInt_inj.mp (by rw [q]; rfl))))
    · exact Or.inr (Or.inr (Or.inr (Or.inl (Int32.toInt_inj.mp (by rw [q]; rfl)))))
    · exact Or.inr (Or.inr (Or.inr (Or.inr (Or.inl (Int32.toInt_inj.mp (by rw [q]; rfl))))))
    · exact Or.inr (Or.inr (Or.inr (Or.inr (Or.inr (Or.inl (Int32.toInt_inj.mp (by rw [q]; rfl)))))))
    · exact Or.inr (Or.inr (Or.inr (Or.inr (Or.inr (Or.inr (Or.inl (Int32.toInt_inj.mp (by rw [q]; rfl))))))))
theorem sw_8 (x : Int32) : x = 0 ∨ x = 1 ∨ x = 2 ∨ x = 3 ∨ x = 4 ∨ x = 5 ∨ x = 6 ∨ x = 7 ∨ x = 8 ∨ ((x.toInt < 0 ∨ 8 < x.toInt) ∧ ∀ k : Int32, wi k 0 8 → ¬ x = k) := by
  by_cases hx : x.toInt < 0 ∨ 8 < x.toInt
  · refine Or.inr (Or.inr (Or.inr (Or.inr (Or.inr (Or.inr (Or.inr (Or.inr (Or.inr (⟨hx, fun k hk e => ?_⟩)))))))))
    subst e
    have h1 : ¬ x.toInt < 0 := fun q => hk.1 (Int32.lt_iff_toInt_lt.mpr (by simpa using q))
    have h2 : ¬ 8 < x.toInt := fun q => hk.2 (Int32.lt_iff_toInt_lt.mpr (by simpa using q))
    omega
  · rcases (show x.toInt = 0 ∨ x.toInt = 1 ∨ x.toInt = 2 ∨ x.toInt = 3 ∨ x.toInt = 4 ∨ x.toInt = 5 ∨ x.toInt = 6 ∨ x.toInt = 7 ∨ x.toInt = 8 by omega) with q | q | q | q | q | q | q | q | q
    · exact Or.inl (Int32.toInt_inj.mp (by rw [q]; rfl))
    · exact Or.inr (Or.inl (Int32.toInt_inj.mp (by rw [q]; rfl)))
    · exact Or.inr (Or.inr (Or.inl (Int32.toInt_inj.mp (by rw [q]; rfl))))
    · exact Or.inr (Or.inr (Or.inr (Or.inl (Int32.toInt_inj.mp (by rw [q]; rfl)))))
    · exact Or.inr (Or.inr (Or.inr (Or.inr (Or.inl (Int32.toInt_inj.mp (by rw [q]; rfl))))))
    · exact Or.inr (Or.inr (Or.inr (Or.inr (Or.inr (Or.inl (Int32.toInt_inj.mp (by rw [q]; rfl)))))))
    · exact Or.inr (Or.inr (Or.inr (Or.inr (Or.inr (Or.inr (Or.inl (Int32.toInt_inj.mp (by rw [q]; rfl))))))))
    · exact Or.inr (Or.inr (Or.inr (Or.inr (Or.inr (Or.inr (Or.inr (Or.inl (Int32.toInt_inj.mp (by rw [q]; rfl)))))))))
    · exact Or.inr (Or.inr (Or.inr (Or.inr (Or.inr (Or.inr (Or.inr (Or.inr (Or.inl (Int32.toInt_inj.mp (by rw [q]; rfl))))))))))
noncomputable def sp_friend (k : Int32) (s : Int32) (p : Int32) : Int32 := wif k 0 5 (wif s 0 1 (wif p 0 99 (0) (-1000000001)) (-1000000001)) (-1000000001)
set_option maxHeartbeats 40000000 in
set_option maxRecDepth 100000 in
theorem p_X7_friend {X : List Int32} {d rc rs : Nat} {h : am_H} {Q : am_Q} {k : Int32} {s : Int32} {p : Int32} (F : f0_X7 h) (hq : ∀ h9, am_fr 69 h9 h → Q (some (.int (sp_friend k s p))) 92 h9) : AW X mX7_friend (d + 12) rc rs 0 [some (.ref 0), some (.int k), some (.int s), some (.int p)] [] 92 h Q := by
  obtain ⟨f0, f1, -, -, -, f5, f6, f7, f8, f9, -, -, -, -, -, -, -, -, -, -, -, -, -, -, -, -, -, -, -, -, -, -, -, -, -, -, -, -, -, -, -, -, -, -, -, -, -, -, -, -, -, -, -, -, -, -, -, -, -, -, -, -, -, -, -, -, -, -, -⟩ := F
  refine aw_iload_n (npc := 1) rfl dX7_friend_0 rfl ?_
  refine aw_callS (npc := 4) (N := mX7_isKind) (mc := 0) (ms := 0) (A := [.int k]) (S := []) (L0 := [some (.int k)]) dX7_friend_1 rfl km_X7_isKind kk_X7_67 rfl ⟨rfl, by decide⟩ rfl (Nat.le_of_ble_eq_true rfl) (Nat.zero_add _) (Nat.zero_add _) rfl ?_
  refine c_X7_isKind (fun hw1 => ?_) (fun hw1 => ?_)
  · refine aw_re (S' := [.int 1]) rfl ?_
    refine aw_if_eq (npc := 7) (tgt := 24) dX7_friend_4 rfl (by decide) (fun hc => absurd hc (by decide)) (fun _ => ?_)
    refine aw_iload_n (npc := 8) rfl dX7_friend_7 rfl ?_
    refine aw_callS (npc := 11) (N := mX7_isSide) (mc := 0) (ms := 0) (A := [.int s]) (S := []) (L0 := [some (.int s)]) dX7_friend_8 rfl km_X7_isSide kk_X7_71 rfl ⟨rfl, by decide⟩ rfl (Nat.le_of_ble_eq_true rfl) (Nat.zero_add _) (Nat.zero_add _) rfl ?_
    refine c_X7_isSide (fun hw2 => ?_) (fun hw2 => ?_)
    · refine aw_re (S' := [.int 1]) rfl ?_
      refine aw_if_eq (npc := 14) (tgt := 24) dX7_friend_11 rfl (by decide) (fun hc => absurd hc (by decide)) (fun _ => ?_)
      refine aw_iload_n (npc := 15) rfl dX7_friend_14 rfl ?_
      refine aw_iconst (npc := 16) (v := 0) (by decide) dX7_friend_15 rfl ?_
      refine aw_bipush (npc := 18) (v := 99) (by decide) dX7_friend_16 rfl ?_
      refine aw_callS (npc := 21) (N := mX7_within) (mc := 0) (ms := 0) (A := [.int p, .int 0, .int 99]) (S := []) (L0 := [some (.int p), some (.int 0), some (.int 99)]) dX7_friend_18 rfl km_X7_within kk_X7_74 rfl ⟨rfl, by decide⟩ rfl (Nat.le_of_ble_eq_true rfl) (Nat.zero_add _) (Nat.zero_add _) rfl ?_
      refine c_X7_within (fun hw3 => ?_) (fun hw3 => ?_)
      · refine aw_re (S' := [.int 1]) rfl ?_
        refine aw_if_ne (npc := 24) (tgt := 27) dX7_friend_21 rfl (by decide) (fun _ => ?_) (fun hc => absurd hc (by decide))
        refine aw_aload_n (npc := 28) rfl dX7_friend_27 rfl ?_
        refine aw_get (npc := 31) dX7_friend_28 rfl kf_X7_10 f0 rfl ?_
        refine aw_get (npc := 34) dX7_friend_31 rfl kf_X7_79 f1 rfl ?_
        refine aw_bipush (npc := 36) (v := 8) (by decide) dX7_friend_34 rfl ?_
        refine aw_icmp_lt (npc := 39) (tgt := 42) dX7_friend_36 rfl (by decide) (fun _ => ?_) (fun hc => absurd (by decide) hc)
        refine aw_aload_n (npc := 43) rfl dX7_friend_42 rfl ?_
        refine aw_get (npc := 46) dX7_friend_43 rfl kf_X7_10 f0 rfl ?_
        refine aw_iload_n (npc := 47) rfl dX7_friend_46 rfl ?_
        refine aw_iload_n (npc := 48) rfl dX7_friend_47 rfl ?_
        refine aw_iload_n (npc := 49) rfl dX7_friend_48 rfl ?_
        refine aw_callV (npc := 52) (N := mX0_addFriend) (b := 1) (mc := 0) (ms := 0) (A := [.int k, .int s, .int p]) (S := []) (L0 := [some (.ref 1), some (.int k), some (.int s), some (.int p)]) dX7_friend_49 rfl km_X0_addFriend kk_X7_83 f1 ⟨by decide, rfl⟩ rfl ⟨rfl, by decide⟩ rfl (Nat.le_of_ble_eq_true rfl) (Nat.zero_add _) (Nat.zero_add _) rfl ?_
        refine aw_aload_n (npc := 1) rfl dX0_addFriend_0 rfl ?_
        refine aw_get (npc := 4) dX0_addFriend_1 rfl kf_X0_40 f1 rfl ?_
        refine aw_bipush (npc := 6) (v := 8) (by decide) dX0_addFriend_4 rfl ?_
        refine aw_icmp_lt (npc := 9) (tgt := 10) dX0_addFriend_6 rfl (by decide) (fun _ => ?_) (fun hc => absurd (by decide) hc)
        refine aw_aload_n (npc := 11) rfl dX0_addFriend_10 rfl ?_
        refine aw_get (npc := 14) dX0_addFriend_11 rfl kf_X0_43 f1 rfl ?_
        refine aw_aload_n (npc := 15) rfl dX0_addFriend_14 rfl ?_
        refine aw_get (npc := 18) dX0_addFriend_15 rfl kf_X0_40 f1 rfl ?_
        refine aw_iload_n (npc := 19) rfl dX0_addFriend_18 rfl ?_
        refine aw_iast (npc := 20) (j := 0) dX0_addFriend_19 rfl f5 ⟨by decide, by decide⟩ (Nat.le_of_ble_eq_true rfl) (show _ = am_up _ 5 (.inl (0, [k, 0, 0, 0, 0, 0, 0, 0])) from rfl) ?_
        refine aw_aload_n (npc := 21) rfl dX0_addFriend_20 rfl ?_
        refine aw_get (npc := 24) dX0_addFriend_21 rfl kf_X0_46 (am_ne (by decide) f1) rfl ?_
        refine aw_aload_n (npc := 25) rfl dX0_addFriend_24 rfl ?_
        refine aw_get (npc := 28) dX0_addFriend_25 rfl kf_X0_40 (am_ne (by decide) f1) rfl ?_
        refine aw_iload_n (npc := 29) rfl dX0_addFriend_28 rfl ?_
        refine aw_iast (npc := 30) (j := 0) dX0_addFriend_29 rfl (am_ne (by decide) f6) ⟨by decide, by decide⟩ (Nat.le_of_ble_eq_true rfl) (show _ = am_up _ 6 (.inl (0, [s, 0, 0, 0, 0, 0, 0, 0])) from rfl) ?_
        refine aw_aload_n (npc := 31) rfl dX0_addFriend_30 rfl ?_
        refine aw_get (npc := 34) dX0_addFriend_31 rfl kf_X0_49 (am_ne (by decide) (am_ne (by decide) f1)) rfl ?_
        refine aw_aload_n (npc := 35) rfl dX0_addFriend_34 rfl ?_
        refine aw_get (npc := 38) dX0_addFriend_35 rfl kf_X0_40 (am_ne (by decide) (am_ne (by decide) f1)) rfl ?_
        refine aw_iload_n (npc := 39) rfl dX0_addFriend_38 rfl ?_
        refine aw_iast (npc := 40) (j := 0) dX0_addFriend_39 rfl (am_ne (by decide) (am_ne (by decide) f7)) ⟨by decide, by decide⟩ (Nat.le_of_ble_eq_true rfl) (show _ = am_up _ 7 (.inl (0, [p, 0, 0, 0, 0, 0, 0, 0])) from rfl) ?_
        refine aw_aload_n (npc := 41) rfl dX0_addFriend_40 rfl ?_
        refine aw_get (npc := 44) dX0_addFriend_41 rfl kf_X0_52 (am_ne (by decide) (am_ne (by decide) (am_ne (by decide) f1))) rfl ?_
        refine aw_aload_n (npc := 45) rfl dX0_addFriend_44 rfl ?_
        refine aw_get (npc := 48) dX0_addFriend_45 rfl kf_X0_40 (am_ne (by decide) (am_ne (by decide) (am_ne (by decide) f1))) rfl ?_
        refine aw_iconst (npc := 49) (v := 0) (by decide) dX0_addFriend_48 rfl ?_
        refine aw_iast (npc := 50) (j := 0) dX0_addFriend_49 rfl (am_ne (by decide) (am_ne (by decide) (am_ne (by decide) f8))) ⟨by decide, by decide⟩ (Nat.le_of_ble_eq_true rfl) (show _ = am_up _ 8 (.inl (0, [0, 0, 0, 0, 0, 0, 0, 0])) from rfl) ?_
        refine aw_aload_n (npc := 51) rfl dX0_addFriend_50 rfl ?_
        refine aw_get (npc := 54) dX0_addFriend_51 rfl kf_X0_55 (am_ne (by decide) (am_ne (by decide) (am_ne (by decide) (am_ne (by decide) f1)))) rfl ?_
        refine aw_aload_n (npc := 55) rfl dX0_addFriend_54 rfl ?_
        refine aw_get (npc := 58) dX0_addFriend_55 rfl kf_X0_40 (am_ne (by decide) (am_ne (by decide) (am_ne (by decide) (am_ne (by decide) f1)))) rfl ?_
        refine aw_iconst (npc := 59) (v := 0) (by decide) dX0_addFriend_58 rfl ?_
        refine aw_iast (npc := 60) (j := 0) dX0_addFriend_59 rfl (am_ne (by decide) (am_ne (by decide) (am_ne (by decide) (am_ne (by decide) f9)))) ⟨by decide, by decide⟩ (Nat.le_of_ble_eq_true rfl) (show _ = am_up _ 9 (.inl (0, [0, 0, 0, 0, 0, 0, 0, 0])) from rfl) ?_
        refine aw_aload_n (npc := 61) rfl dX0_addFriend_60 rfl ?_
        refine aw_dup (npc := 62) rfl dX0_addFriend_61 rfl ?_
        refine aw_get (npc := 65) dX0_addFriend_62 rfl kf_X0_40 (am_ne (by decide) (am_ne (by decide) (am_ne (by decide) (am_ne (by decide) (am_ne (by decide) f1))))) rfl ?_
        refine aw_iconst (npc := 66) (v := 1) (by decide) dX0_addFriend_65 rfl ?_
        refine aw_iaddV (npc := 67) (v := 1) dX0_addFriend_66 rfl (by decide) ?_
        refine aw_put (npc := 70) dX0_addFriend_67 rfl kf_X0_40 (am_ne (by decide) (am_ne (by decide) (am_ne (by decide) (am_ne (by decide) (am_ne (by decide) f1))))) (Nat.le_of_ble_eq_true rfl) (am_ok_int _) rfl ?_
        refine aw_vret rfl dX0_addFriend_70 ?_
        refine aw_aload_n (npc := 53) rfl dX7_friend_52 rfl ?_
        refine aw_get (npc := 56) dX7_friend_53 rfl kf_X7_10 (am_ne (by decide) (am_ne (by decide) (am_ne (by decide) (am_ne (by decide) (am_ne (by decide) (am_ne (by decide) f0)))))) rfl ?_
        refine aw_get (npc := 59) dX7_friend_56 rfl kf_X7_79 am_eq rfl ?_
        refine aw_iconst (npc := 60) (v := 1) (by decide) dX7_friend_59 rfl ?_
        refine aw_isubV (npc := 61) (v := 0) dX7_friend_60 rfl (by decide) ?_
        refine aw_iret rfl dX7_friend_61 ?_
        exact fin_c hq (am_frU (by decide) (am_frU (by decide) (am_frU (by decide) (am_frU (by decide) (am_frU (by decide) (am_frU (by decide) am_fr0)))))) (show sp_friend k s p = 0 from (by unfold sp_friend; first | rfl | (simp only [wif_t hw1, wif_t hw2, wif_t hw3, wif_same, ite_self]; done) | (simp only [wif_t hw1, wif_t hw2, wif_t hw3, wif_same, ite_self]; rfl) | (simp [wif_t hw1, wif_t hw2, wif_t hw3, wif_same]; done)))
      · refine aw_re (S' := [.int 0]) rfl ?_
        refine aw_if_ne (npc := 24) (tgt := 27) dX7_friend_21 rfl (by decide) (fun hc => absurd (by decide) hc) (fun _ => ?_)
        refine aw_ldc (npc := 26) kc_X7_78 dX7_friend_24 rfl ?_
        refine aw_iret rfl dX7_friend_26 ?_
        exact fin_c hq am_fr0 (show sp_friend k s p = (-1000000001) from (by unfold sp_friend; first | rfl | (simp only [wif_t hw1, wif_t hw2, wif_f hw3, wif_same, ite_self]; done) | (simp only [wif_t hw1, wif_t hw2, wif_f hw3, wif_same, ite_self]; rfl) | (simp [wif_t hw1, wif_t hw2, wif_f hw3, wif_same]; done)))
    · refine aw_re (S' := [.int 0]) rfl ?_
      refine aw_if_eq (npc := 14) (tgt := 24) dX7_friend_11 rfl (by decide) (fun _ => ?_) (fun hc => absurd (by decide) hc)
      refine aw_ldc (npc := 26) kc_X7_78 dX7_friend_24 rfl ?_
      refine aw_iret rfl dX7_friend_26 ?_
      exact fin_c hq am_fr0 (show sp_friend k s p = (-1000000001) from (by unfold sp_friend; first | rfl | (simp only [wif_t hw1, wif_f hw2, wif_same, ite_self]; done) | (simp only [wif_t hw1, wif_f hw2, wif_same, ite_self]; rfl) | (simp [wif_t hw1, wif_f hw2, wif_same]; done)))
  · refine aw_re (S' := [.int 0]) rfl ?_
    refine aw_if_eq (npc := 7) (tgt := 24) dX7_friend_4 rfl (by decide) (fun _ => ?_) (fun hc => absurd (by decide) hc)
    refine aw_ldc (npc := 26) kc_X7_78 dX7_friend_24 rfl ?_
    refine aw_iret rfl dX7_friend_26 ?_
    exact fin_c hq am_fr0 (show sp_friend k s p = (-1000000001) from (by unfold sp_friend; first | rfl | (simp only [wif_f hw1, wif_same, ite_self]; done) | (simp only [wif_f hw1, wif_same, ite_self]; rfl) | (simp [wif_f hw1, wif_same]; done)))
set_option maxHeartbeats 40000000 in
set_option maxRecDepth 100000 in
theorem p_X8_friend {X : List Int32} {d rc rs : Nat} {h : am_H} {Q : am_Q} {k : Int32} {s : Int32} {p : Int32} (F : f0_X8 h) (hq : ∀ n9 h9, Q (some (.int (sp_friend k s p))) n9 h9) : AW X mX8_friend (d + 12) rc rs 0 [some (.ref 69), some (.int k), some (.int s), some (.int p)] [] 92 h Q := by
  obtain ⟨g69, g70, -, -, -, -, -, -, -, -, -, -, -, -, -, -, -, -, -, -, -, -, -⟩ := F
  refine aw_iload_n (npc := 1) rfl dX8_friend_0 rfl ?_
  refine aw_iconst (npc := 2) (v := 0) (by decide) dX8_friend_1 rfl ?_
  refine aw_iconst (npc := 3) (v := 5) (by decide) dX8_friend_2 rfl ?_
  refine aw_callS (npc := 6) (N := mX8_in) (mc := 0) (ms := 0) (A := [.int k, .int 0, .int 5]) (S := []) (L0 := [some (.int k), some (.int 0), some (.int 5)]) dX8_friend_3 rfl km_X8_in kk_X8_83 rfl ⟨rfl, by decide⟩ rfl (Nat.le_of_ble_eq_true rfl) (Nat.zero_add _) (Nat.zero_add _) rfl ?_
  refine c_X8_in (fun hw1 => ?_) (fun hw1 => ?_)
  · refine aw_re (S' := [.int 1]) rfl ?_
    refine aw_if_eq (npc := 9) (tgt := 28) dX8_friend_6 rfl (by decide) (fun hc => absurd hc (by decide)) (fun _ => ?_)
    refine aw_iload_n (npc := 10) rfl dX8_friend_9 rfl ?_
    refine aw_iconst (npc := 11) (v := 0) (by decide) dX8_friend_10 rfl ?_
    refine aw_iconst (npc := 12) (v := 1) (by decide) dX8_friend_11 rfl ?_
    refine aw_callS (npc := 15) (N := mX8_in) (mc := 0) (ms := 0) (A := [.int s, .int 0, .int 1]) (S := []) (L0 := [some (.int s), some (.int 0), some (.int 1)]) dX8_friend_12 rfl km_X8_in kk_X8_83 rfl ⟨rfl, by decide⟩ rfl (Nat.le_of_ble_eq_true rfl) (Nat.zero_add _) (Nat.zero_add _) rfl ?_
    refine c_X8_in (fun hw2 => ?_) (fun hw2 => ?_)
    · refine aw_re (S' := [.int 1]) rfl ?_
      refine aw_if_eq (npc := 18) (tgt := 28) dX8_friend_15 rfl (by decide) (fun hc => absurd hc (by decide)) (fun _ => ?_)
      refine aw_iload_n (npc := 19) rfl dX8_friend_18 rfl ?_
      refine aw_iconst (npc := 20) (v := 0) (by decide) dX8_friend_19 rfl ?_
      refine aw_bipush (npc := 22) (v := 99) (by decide) dX8_friend_20 rfl ?_
      refine aw_callS (npc := 25) (N := mX8_in) (mc := 0) (ms := 0) (A := [.int p, .int 0, .int 99]) (S := []) (L0 := [some (.int p), some (.int 0), some (.int 99)]) dX8_friend_22 rfl km_X8_in kk_X8_83 rfl ⟨rfl, by decide⟩ rfl (Nat.le_of_ble_eq_true rfl) (Nat.zero_add _) (Nat.zero_add _) rfl ?_
      refine c_X8_in (fun hw3 => ?_) (fun hw3 => ?_)
      · refine aw_re (S' := [.int 1]) rfl ?_
        refine aw_if_ne (npc := 28) (tgt := 31) dX8_friend_25 rfl (by decide) (fun _ => ?_) (fun hc => absurd hc (by decide))
        refine aw_aload_n (npc := 32) rfl dX8_friend_31 rfl ?_
        refine aw_get (npc := 35) dX8_friend_32 rfl kf_X8_9 g69 rfl ?_
        refine aw_iconst (npc := 36) (v := 1) (by decide) dX8_friend_35 rfl ?_
        refine aw_iald (npc := 37) (x := 0) (j := 1) dX8_friend_36 rfl g70 ⟨by decide, by decide⟩ rfl ?_
        refine aw_bipush (npc := 39) (v := 8) (by decide) dX8_friend_37 rfl ?_
        refine aw_icmp_ne (npc := 42) (tgt := 47) dX8_friend_39 rfl (by decide) (fun _ => ?_) (fun hc => absurd hc (by decide))
        refine aw_aload_n (npc := 48) rfl dX8_friend_47 rfl ?_
        refine aw_iload_n (npc := 49) rfl dX8_friend_48 rfl ?_
        refine aw_iload_n (npc := 50) rfl dX8_friend_49 rfl ?_
        refine aw_iload_n (npc := 51) rfl dX8_friend_50 rfl ?_
        refine aw_callV (npc := 54) (N := mX8_comes) (b := 69) (mc := 0) (ms := 0) (A := [.int k, .int s, .int p]) (S := []) (L0 := [some (.ref 69), some (.int k), some (.int s), some (.int p), none]) dX8_friend_51 rfl km_X8_comes kk_X8_93 g69 ⟨by decide, rfl⟩ rfl ⟨rfl, by decide⟩ rfl (Nat.le_of_ble_eq_true rfl) (Nat.zero_add _) (Nat.zero_add _) rfl ?_
        refine aw_aload_n (npc := 1) rfl dX8_comes_0 rfl ?_
        refine aw_get (npc := 4) dX8_comes_1 rfl kf_X8_9 g69 rfl ?_
        refine aw_iconst (npc := 5) (v := 1) (by decide) dX8_comes_4 rfl ?_
        refine aw_iald (npc := 6) (x := 0) (j := 1) dX8_comes_5 rfl g70 ⟨by decide, by decide⟩ rfl ?_
        refine aw_istore (npc := 8) (L' := [some (.ref 69), some (.int k), some (.int s), some (.int p), some (.int 0)]) dX8_comes_6 rfl (by decide) rfl rfl ?_
        refine aw_aload_n (npc := 9) rfl dX8_comes_8 rfl ?_
        refine aw_iload (npc := 11) rfl dX8_comes_9 rfl ?_
        refine aw_iconst (npc := 12) (v := 0) (by decide) dX8_comes_11 rfl ?_
        refine aw_iload_n (npc := 13) rfl dX8_comes_12 rfl ?_
        refine aw_callV (npc := 16) (N := mX8_put) (b := 69) (mc := 0) (ms := 0) (A := [.int 0, .int 0, .int k]) (S := []) (L0 := [some (.ref 69), some (.int 0), some (.int 0), some (.int k)]) dX8_comes_13 rfl km_X8_put kk_X8_87 g69 ⟨by decide, rfl⟩ rfl ⟨rfl, by decide⟩ rfl (Nat.le_of_ble_eq_true rfl) (Nat.zero_add _) (Nat.zero_add _) rfl ?_
        refine aw_aload_n (npc := 1) rfl dX8_put_0 rfl ?_
        refine aw_get (npc := 4) dX8_put_1 rfl kf_X8_9 g69 rfl ?_
        refine aw_bipush (npc := 6) (v := 22) (by decide) dX8_put_4 rfl ?_
        refine aw_iconst (npc := 7) (v := 5) (by decide) dX8_put_6 rfl ?_
        refine aw_iload_n (npc := 8) rfl dX8_put_7 rfl ?_
        refine aw_imulV (npc := 9) (v := 0) dX8_put_8 rfl (by decide) ?_
        refine aw_iaddV (npc := 10) (v := 22) dX8_put_9 rfl (by decide) ?_
        refine aw_iload_n (npc := 11) rfl dX8_put_10 rfl ?_
        refine aw_iaddV (npc := 12) (v := 22) dX8_put_11 rfl (by decide) ?_
        refine aw_iload_n (npc := 13) rfl dX8_put_12 rfl ?_
        refine aw_iast (npc := 14) (j := 22) dX8_put_13 rfl g70 ⟨by decide, by decide⟩ (Nat.le_of_ble_eq_true rfl) rfl ?_
        refine aw_vret rfl dX8_put_14 ?_
        refine aw_aload_n (npc := 17) rfl dX8_comes_16 rfl ?_
        refine aw_iload (npc := 19) rfl dX8_comes_17 rfl ?_
        refine aw_iconst (npc := 20) (v := 1) (by decide) dX8_comes_19 rfl ?_
        refine aw_iload_n (npc := 21) rfl dX8_comes_20 rfl ?_
        refine aw_callV (npc := 24) (N := mX8_put) (b := 69) (mc := 0) (ms := 0) (A := [.int 0, .int 1, .int s]) (S := []) (L0 := [some (.ref 69), some (.int 0), some (.int 1), some (.int s)]) dX8_comes_21 rfl km_X8_put kk_X8_87 (am_ne (by decide) g69) ⟨by decide, rfl⟩ rfl ⟨rfl, by decide⟩ rfl (Nat.le_of_ble_eq_true rfl) (Nat.zero_add _) (Nat.zero_add _) rfl ?_
        refine aw_aload_n (npc := 1) rfl dX8_put_0 rfl ?_
        refine aw_get (npc := 4) dX8_put_1 rfl kf_X8_9 (am_ne (by decide) g69) rfl ?_
        refine aw_bipush (npc := 6) (v := 22) (by decide) dX8_put_4 rfl ?_
        refine aw_iconst (npc := 7) (v := 5) (by decide) dX8_put_6 rfl ?_
        refine aw_iload_n (npc := 8) rfl dX8_put_7 rfl ?_
        refine aw_imulV (npc := 9) (v := 0) dX8_put_8 rfl (by decide) ?_
        refine aw_iaddV (npc := 10) (v := 22) dX8_put_9 rfl (by decide) ?_
        refine aw_iload_n (npc := 11) rfl dX8_put_10 rfl ?_
        refine aw_iaddV (npc := 12) (v := 23) dX8_put_11 rfl (by decide) ?_
        refine aw_iload_n (npc := 13) rfl dX8_put_12 rfl ?_
        refine aw_iast (npc := 14) (j := 23) dX8_put_13 rfl am_eq ⟨by decide, by decide⟩ (Nat.le_of_ble_eq_true rfl) am_uu ?_
        refine aw_vret rfl dX8_put_14 ?_
        refine aw_aload_n (npc := 25) rfl dX8_comes_24 rfl ?_
        refine aw_iload (npc := 27) rfl dX8_comes_25 rfl ?_
        refine aw_iconst (npc := 28) (v := 2) (by decide) dX8_comes_27 rfl ?_
        refine aw_iload_n (npc := 29) rfl dX8_comes_28 rfl ?_
        refine aw_callV (npc := 32) (N := mX8_put) (b := 69) (mc := 0) (ms := 0) (A := [.int 0, .int 2, .int p]) (S := []) (L0 := [some (.ref 69), some (.int 0), some (.int 2), some (.int p)]) dX8_comes_29 rfl km_X8_put kk_X8_87 (am_ne (by decide) g69) ⟨by decide, rfl⟩ rfl ⟨rfl, by decide⟩ rfl (Nat.le_of_ble_eq_true rfl) (Nat.zero_add _) (Nat.zero_add _) rfl ?_
        refine aw_aload_n (npc := 1) rfl dX8_put_0 rfl ?_
        refine aw_get (npc := 4) dX8_put_1 rfl kf_X8_9 (am_ne (by decide) g69) rfl ?_
        refine aw_bipush (npc := 6) (v := 22) (by decide) dX8_put_4 rfl ?_
        refine aw_iconst (npc := 7) (v := 5) (by decide) dX8_put_6 rfl ?_
        refine aw_iload_n (npc := 8) rfl dX8_put_7 rfl ?_
        refine aw_imulV (npc := 9) (v := 0) dX8_put_8 rfl (by decide) ?_
        refine aw_iaddV (npc := 10) (v := 22) dX8_put_9 rfl (by decide) ?_
        refine aw_iload_n (npc := 11) rfl dX8_put_10 rfl ?_
        refine aw_iaddV (npc := 12) (v := 24) dX8_put_11 rfl (by decide) ?_
        refine aw_iload_n (npc := 13) rfl dX8_put_12 rfl ?_
        refine aw_iast (npc := 14) (j := 24) dX8_put_13 rfl am_eq ⟨by decide, by decide⟩ (Nat.le_of_ble_eq_true rfl) am_uu ?_
        refine aw_vret rfl dX8_put_14 ?_
        refine aw_aload_n (npc := 33) rfl dX8_comes_32 rfl ?_
        refine aw_iload (npc := 35) rfl dX8_comes_33 rfl ?_
        refine aw_iconst (npc := 36) (v := 3) (by decide) dX8_comes_35 rfl ?_
        refine aw_iconst (npc := 37) (v := 0) (by decide) dX8_comes_36 rfl ?_
        refine aw_callV (npc := 40) (N := mX8_put) (b := 69) (mc := 0) (ms := 0) (A := [.int 0, .int 3, .int 0]) (S := []) (L0 := [some (.ref 69), some (.int 0), some (.int 3), some (.int 0)]) dX8_comes_37 rfl km_X8_put kk_X8_87 (am_ne (by decide) g69) ⟨by decide, rfl⟩ rfl ⟨rfl, by decide⟩ rfl (Nat.le_of_ble_eq_true rfl) (Nat.zero_add _) (Nat.zero_add _) rfl ?_
        refine aw_aload_n (npc := 1) rfl dX8_put_0 rfl ?_
        refine aw_get (npc := 4) dX8_put_1 rfl kf_X8_9 (am_ne (by decide) g69) rfl ?_
        refine aw_bipush (npc := 6) (v := 22) (by decide) dX8_put_4 rfl ?_
        refine aw_iconst (npc := 7) (v := 5) (by decide) dX8_put_6 rfl ?_
        refine aw_iload_n (npc := 8) rfl dX8_put_7 rfl ?_
        refine aw_imulV (npc := 9) (v := 0) dX8_put_8 rfl (by decide) ?_
        refine aw_iaddV (npc := 10) (v := 22) dX8_put_9 rfl (by decide) ?_
        refine aw_iload_n (npc := 11) rfl dX8_put_10 rfl ?_
        refine aw_iaddV (npc := 12) (v := 25) dX8_put_11 rfl (by decide) ?_
        refine aw_iload_n (npc := 13) rfl dX8_put_12 rfl ?_
        refine aw_iast (npc := 14) (j := 25) dX8_put_13 rfl am_eq ⟨by decide, by decide⟩ (Nat.le_of_ble_eq_true rfl) am_uu ?_
        refine aw_vret rfl dX8_put_14 ?_
        refine aw_aload_n (npc := 41) rfl dX8_comes_40 rfl ?_
        refine aw_iload (npc := 43) rfl dX8_comes_41 rfl ?_
        refine aw_iconst (npc := 44) (v := 4) (by decide) dX8_comes_43 rfl ?_
        refine aw_iconst (npc := 45) (v := 0) (by decide) dX8_comes_44 rfl ?_
        refine aw_callV (npc := 48) (N := mX8_put) (b := 69) (mc := 0) (ms := 0) (A := [.int 0, .int 4, .int 0]) (S := []) (L0 := [some (.ref 69), some (.int 0), some (.int 4), some (.int 0)]) dX8_comes_45 rfl km_X8_put kk_X8_87 (am_ne (by decide) g69) ⟨by decide, rfl⟩ rfl ⟨rfl, by decide⟩ rfl (Nat.le_of_ble_eq_true rfl) (Nat.zero_add _) (Nat.zero_add _) rfl ?_
        refine aw_aload_n (npc := 1) rfl dX8_put_0 rfl ?_
        refine aw_get (npc := 4) dX8_put_1 rfl kf_X8_9 (am_ne (by decide) g69) rfl ?_
        refine aw_bipush (npc := 6) (v := 22) (by decide) dX8_put_4 rfl ?_
        refine aw_iconst (npc := 7) (v := 5) (by decide) dX8_put_6 rfl ?_
        refine aw_iload_n (npc := 8) rfl dX8_put_7 rfl ?_
        refine aw_imulV (npc := 9) (v := 0) dX8_put_8 rfl (by decide) ?_
        refine aw_iaddV (npc := 10) (v := 22) dX8_put_9 rfl (by decide) ?_
        refine aw_iload_n (npc := 11) rfl dX8_put_10 rfl ?_
        refine aw_iaddV (npc := 12) (v := 26) dX8_put_11 rfl (by decide) ?_
        refine aw_iload_n (npc := 13) rfl dX8_put_12 rfl ?_
        refine aw_iast (npc := 14) (j := 26) dX8_put_13 rfl am_eq ⟨by decide, by decide⟩ (Nat.le_of_ble_eq_true rfl) am_uu ?_
        refine aw_vret rfl dX8_put_14 ?_
        refine aw_aload_n (npc := 49) rfl dX8_comes_48 rfl ?_
        refine aw_get (npc := 52) dX8_comes_49 rfl kf_X8_9 (am_ne (by decide) g69) rfl ?_
        refine aw_iconst (npc := 53) (v := 1) (by decide) dX8_comes_52 rfl ?_
        refine aw_dup2 (npc := 54) rfl rfl dX8_comes_53 rfl ?_
        refine aw_iald (npc := 55) (x := 0) (j := 1) dX8_comes_54 rfl am_eq ⟨by decide, by decide⟩ rfl ?_
        refine aw_iconst (npc := 56) (v := 1) (by decide) dX8_comes_55 rfl ?_
        refine aw_iaddV (npc := 57) (v := 1) dX8_comes_56 rfl (by decide) ?_
        refine aw_iast (npc := 58) (j := 1) dX8_comes_57 rfl am_eq ⟨by decide, by decide⟩ (Nat.le_of_ble_eq_true rfl) am_uu ?_
        refine aw_iload (npc := 60) rfl dX8_comes_58 rfl ?_
        refine aw_iret rfl dX8_comes_60 ?_
        refine aw_re (S' := [.int 0]) rfl ?_
        refine aw_iret rfl dX8_friend_54 ?_
        exact fin_m hq (show sp_friend k s p = 0 from (by unfold sp_friend; first | rfl | (simp only [wif_t hw1, wif_t hw2, wif_t hw3, wif_same, ite_self]; done) | (simp only [wif_t hw1, wif_t hw2, wif_t hw3, wif_same, ite_self]; rfl) | (simp [wif_t hw1, wif_t hw2, wif_t hw3, wif_same]; done)))
      · refine aw_re (S' := [.int 0]) rfl ?_
        refine aw_if_ne (npc := 28) (tgt := 31) dX8_friend_25 rfl (by decide) (fun hc => absurd (by decide) hc) (fun _ => ?_)
        refine aw_ldc (npc := 30) kc_X8_91 dX8_friend_28 rfl ?_
        refine aw_iret rfl dX8_friend_30 ?_
        exact fin_m hq (show sp_friend k s p = (-1000000001) from (by unfold sp_friend; first | rfl | (simp only [wif_t hw1, wif_t hw2, wif_f hw3, wif_same, ite_self]; done) | (simp only [wif_t hw1, wif_t hw2, wif_f hw3, wif_same, ite_self]; rfl) | (simp [wif_t hw1, wif_t hw2, wif_f hw3, wif_same]; done)))
    · refine aw_re (S' := [.int 0]) rfl ?_
      refine aw_if_eq (npc := 18) (tgt := 28) dX8_friend_15 rfl (by decide) (fun _ => ?_) (fun hc => absurd (by decide) hc)
      refine aw_ldc (npc := 30) kc_X8_91 dX8_friend_28 rfl ?_
      refine aw_iret rfl dX8_friend_30 ?_
      exact fin_m hq (show sp_friend k s p = (-1000000001) from (by unfold sp_friend; first | rfl | (simp only [wif_t hw1, wif_f hw2, wif_same, ite_self]; done) | (simp only [wif_t hw1, wif_f hw2, wif_same, ite_self]; rfl) | (simp [wif_t hw1, wif_f hw2, wif_same]; done)))
  · refine aw_re (S' := [.int 0]) rfl ?_
    refine aw_if_eq (npc := 9) (tgt := 28) dX8_friend_6 rfl (by decide) (fun _ => ?_) (fun hc => absurd (by decide) hc)
    refine aw_ldc (npc := 30) kc_X8_91 dX8_friend_28 rfl ?_
    refine aw_iret rfl dX8_friend_30 ?_
    exact fin_m hq (show sp_friend k s p = (-1000000001) from (by unfold sp_friend; first | rfl | (simp only [wif_f hw1, wif_same, ite_self]; done) | (simp only [wif_f hw1, wif_same, ite_self]; rfl) | (simp [wif_f hw1, wif_same]; done)))
noncomputable def sp_told (f : Int32) (w : Int32) : Int32 := -1000000001
set_option maxHeartbeats 40000000 in
set_option maxRecDepth 100000 in
theorem p_X7_told {X : List Int32} {d rc rs : Nat} {h : am_H} {Q : am_Q} {f : Int32} {w : Int32} (F : f0_X7 h) (hq : ∀ h9, am_fr 69 h9 h → Q (some (.int (sp_told f w))) 92 h9) : AW X mX7_told (d + 12) rc rs 0 [some (.ref 0), some (.int f), some (.int w)] [] 92 h Q := by
  obtain ⟨f0, f1, -, -, -, -, -, -, -, -, -, -, -, -, -, -, -, -, -, -, -, -, -, -, -, -, -, -, -, -, -, -, -, -, -, -, -, -, -, -, -, -, -, -, -, -, -, -, -, -, -, -, -, -, -, -, -, -, -, -, -, -, -, -, -, -, -, -, -⟩ := F
  refine aw_aload_n (npc := 1) rfl dX7_told_0 rfl ?_
  refine aw_get (npc := 4) dX7_told_1 rfl kf_X7_10 f0 rfl ?_
  refine aw_iload_n (npc := 5) rfl dX7_told_4 rfl ?_
  refine aw_callV (npc := 8) (N := mX0_isFriend) (b := 1) (mc := 0) (ms := 0) (A := [.int f]) (S := []) (L0 := [some (.ref 1), some (.int f)]) dX7_told_5 rfl km_X0_isFriend kk_X7_87 f1 ⟨by decide, rfl⟩ rfl ⟨rfl, by decide⟩ rfl (Nat.le_of_ble_eq_true rfl) (Nat.zero_add _) (Nat.zero_add _) rfl ?_
  refine aw_iload_n (npc := 1) rfl dX0_isFriend_0 rfl ?_
  refine aw_iconst (npc := 2) (v := 0) (by decide) dX0_isFriend_1 rfl ?_
  refine aw_aload_n (npc := 3) rfl dX0_isFriend_2 rfl ?_
  refine aw_get (npc := 6) dX0_isFriend_3 rfl kf_X0_40 f1 rfl ?_
  refine aw_iconst (npc := 7) (v := 1) (by decide) dX0_isFriend_6 rfl ?_
  refine aw_isubV (npc := 8) (v := -1) dX0_isFriend_7 rfl (by decide) ?_
  refine aw_callSN (npc := 11) (N := mX7_within) (mc := 0) (ms := 0) (A := [.int f, .int 0, .int (-1)]) (S := []) (L0 := [some (.int f), some (.int 0), some (.int (-1))]) dX0_isFriend_8 rfl km_X7_within kk_X0_79 rfl ⟨rfl, by decide⟩ rfl (Nat.le_of_ble_eq_true rfl) (Nat.zero_add _) (Nat.zero_add _) rfl ?_
  refine c_X7_within (fun hw1 => absurd hw1 (wi_no (by decide))) (fun _ => ?_)
  refine aw_re (S' := [.int 0]) rfl ?_
  refine aw_zret rfl rfl dX0_isFriend_11 ?_
  refine aw_re (S' := [.int 0]) rfl ?_
  refine aw_if_ne (npc := 11) (tgt := 14) dX7_told_8 rfl (by decide) (fun hc => absurd (by decide) hc) (fun _ => ?_)
  refine aw_ldc (npc := 13) kc_X7_78 dX7_told_11 rfl ?_
  refine aw_iret rfl dX7_told_13 ?_
  exact fin_c hq am_fr0 (show sp_told f w = (-1000000001) from (by unfold sp_told; first | rfl | (simp only [wif_same, ite_self]; done) | (simp only [wif_same, ite_self]; rfl) | (simp [wif_same]; done)))
set_option maxHeartbeats 40000000 in
set_option maxRecDepth 100000 in
theorem p_X8_told {X : List Int32} {d rc rs : Nat} {h : am_H} {Q : am_Q} {f : Int32} {w : Int32} (F : f0_X8 h) (hq : ∀ n9 h9, Q (some (.int (sp_told f w))) n9 h9) : AW X mX8_told (d + 12) rc rs 0 [some (.ref 69), some (.int f), some (.int w)] [] 92 h Q := by
  obtain ⟨g69, g70, -, -, -, -, -, -, -, -, -, -, -, -, -, -, -, -, -, -, -, -, -⟩ := F
  refine aw_aload_n (npc := 1) rfl dX8_told_0 rfl ?_
  refine aw_iload_n (npc := 2) rfl dX8_told_1 rfl ?_
  refine aw_callV (npc := 5) (N := mX8_isFriend) (b := 69) (mc := 0) (ms := 0) (A := [.int f]) (S := []) (L0 := [some (.ref 69), some (.int f)]) dX8_told_2 rfl km_X8_isFriend kk_X8_114 g69 ⟨by decide, rfl⟩ rfl ⟨rfl, by decide⟩ rfl (Nat.le_of_ble_eq_true rfl) (Nat.zero_add _) (Nat.zero_add _) rfl ?_
  refine aw_iload_n (npc := 1) rfl dX8_isFriend_0 rfl ?_
  refine aw_iconst (npc := 2) (v := 0) (by decide) dX8_isFriend_1 rfl ?_
  refine aw_aload_n (npc := 3) rfl dX8_isFriend_2 rfl ?_
  refine aw_get (npc := 6) dX8_isFriend_3 rfl kf_X8_9 g69 rfl ?_
  refine aw_iconst (npc := 7) (v := 1) (by decide) dX8_isFriend_6 rfl ?_
  refine aw_iald (npc := 8) (x := 0) (j := 1) dX8_isFriend_7 rfl g70 ⟨by decide, by decide⟩ rfl ?_
  refine aw_iconst (npc := 9) (v := 1) (by decide) dX8_isFriend_8 rfl ?_
  refine aw_isubV (npc := 10) (v := -1) dX8_isFriend_9 rfl (by decide) ?_
  refine aw_callS (npc := 13) (N := mX8_in) (mc := 0) (ms := 0) (A := [.int f, .int 0, .int (-1)]) (S := []) (L0 := [some (.int f), some (.int 0), some (.int (-1))]) dX8_isFriend_10 rfl km_X8_in kk_X8_83 rfl ⟨rfl, by decide⟩ rfl (Nat.le_of_ble_eq_true rfl) (Nat.zero_add _) (Nat.zero_add _) rfl ?_
  refine c_X8_in (fun hw1 => absurd hw1 (wi_no (by decide))) (fun _ => ?_)
  refine aw_re (S' := [.int 0]) rfl ?_
  refine aw_zret rfl rfl dX8_isFriend_13 ?_
  refine aw_re (S' := [.int 0]) rfl ?_
  refine aw_if_eq (npc := 8) (tgt := 18) dX8_told_5 rfl (by decide) (fun _ => ?_) (fun hc => absurd (by decide) hc)
  refine aw_ldc (npc := 20) kc_X8_91 dX8_told_18 rfl ?_
  refine aw_iret rfl dX8_told_20 ?_
  exact fin_m hq (show sp_told f w = (-1000000001) from (by unfold sp_told; first | rfl | (simp only [wif_same, ite_self]; done) | (simp only [wif_same, ite_self]; rfl) | (simp [wif_same]; done)))
noncomputable def sp_as (f : Int32) (w : Int32) : Int32 := -1000000001
set_option maxHeartbeats 40000000 in
set_option maxRecDepth 100000 in
theorem p_X7_as {X : List Int32} {d rc rs : Nat} {h : am_H} {Q : am_Q} {f : Int32} {w : Int32} (F : f0_X7 h) (hq : ∀ h9, am_fr 69 h9 h → Q (some (.int (sp_as f w))) 92 h9) : AW X mX7_as (d + 12) rc rs 0 [some (.ref 0), some (.int f), some (.int w)] [] 92 h Q := by
  obtain ⟨f0, f1, -, -, -, -, -, -, -, -, -, -, -, -, -, -, -, -, -, -, -, -, -, -, -, -, -, -, -, -, -, -, -, -, -, -, -, -, -, -, -, -, -, -, -, -, -, -, -, -, -, -, -, -, -, -, -, -, -, -, -, -, -, -, -, -, -, -, -⟩ := F
  refine aw_aload_n (npc := 1) rfl dX7_as_0 rfl ?_
  refine aw_get (npc := 4) dX7_as_1 rfl kf_X7_10 f0 rfl ?_
  refine aw_iload_n (npc := 5) rfl dX7_as_4 rfl ?_
  refine aw_callV (npc := 8) (N := mX0_isFriend) (b := 1) (mc := 0) (ms := 0) (A := [.int f]) (S := []) (L0 := [some (.ref 1), some (.int f)]) dX7_as_5 rfl km_X0_isFriend kk_X7_87 f1 ⟨by decide, rfl⟩ rfl ⟨rfl, by decide⟩ rfl (Nat.le_of_ble_eq_true rfl) (Nat.zero_add _) (Nat.zero_add _) rfl ?_
  refine aw_iload_n (npc := 1) rfl dX0_isFriend_0 rfl ?_
  refine aw_iconst (npc := 2) (v := 0) (by decide) dX0_isFriend_1 rfl ?_
  refine aw_aload_n (npc := 3) rfl dX0_isFriend_2 rfl ?_
  refine aw_get (npc := 6) dX0_isFriend_3 rfl kf_X0_40 f1 rfl ?_
  refine aw_iconst (npc := 7) (v := 1) (by decide) dX0_isFriend_6 rfl ?_
  refine aw_isubV (npc := 8) (v := -1) dX0_isFriend_7 rfl (by decide) ?_
  refine aw_callSN (npc := 11) (N := mX7_within) (mc := 0) (ms := 0) (A := [.int f, .int 0, .int (-1)]) (S := []) (L0 := [some (.int f), some (.int 0), some (.int (-1))]) dX0_isFriend_8 rfl km_X7_within kk_X0_79 rfl ⟨rfl, by decide⟩ rfl (Nat.le_of_ble_eq_true rfl) (Nat.zero_add _) (Nat.zero_add _) rfl ?_
  refine c_X7_within (fun hw1 => absurd hw1 (wi_no (by decide))) (fun _ => ?_)
  refine aw_re (S' := [.int 0]) rfl ?_
  refine aw_zret rfl rfl dX0_isFriend_11 ?_
  refine aw_re (S' := [.int 0]) rfl ?_
  refine aw_if_eq (npc := 11) (tgt := 18) dX7_as_8 rfl (by decide) (fun _ => ?_) (fun hc => absurd (by decide) hc)
  refine aw_ldc (npc := 20) kc_X7_78 dX7_as_18 rfl ?_
  refine aw_iret rfl dX7_as_20 ?_
  exact fin_c hq am_fr0 (show sp_as f w = (-1000000001) from (by unfold sp_as; first | rfl | (simp only [wif_same, ite_self]; done) | (simp only [wif_same, ite_self]; rfl) | (simp [wif_same]; done)))
set_option maxHeartbeats 40000000 in
set_option maxRecDepth 100000 in
theorem p_X8_as {X : List Int32} {d rc rs : Nat} {h : am_H} {Q : am_Q} {f : Int32} {w : Int32} (F : f0_X8 h) (hq : ∀ n9 h9, Q (some (.int (sp_as f w))) n9 h9) : AW X mX8_as (d + 12) rc rs 0 [some (.ref 69), some (.int f), some (.int w)] [] 92 h Q := by
  obtain ⟨g69, g70, -, -, -, -, -, -, -, -, -, -, -, -, -, -, -, -, -, -, -, -, -⟩ := F
  refine aw_aload_n (npc := 1) rfl dX8_as_0 rfl ?_
  refine aw_iload_n (npc := 2) rfl dX8_as_1 rfl ?_
  refine aw_callV (npc := 5) (N := mX8_isFriend) (b := 69) (mc := 0) (ms := 0) (A := [.int f]) (S := []) (L0 := [some (.ref 69), some (.int f)]) dX8_as_2 rfl km_X8_isFriend kk_X8_114 g69 ⟨by decide, rfl⟩ rfl ⟨rfl, by decide⟩ rfl (Nat.le_of_ble_eq_true rfl) (Nat.zero_add _) (Nat.zero_add _) rfl ?_
  refine aw_iload_n (npc := 1) rfl dX8_isFriend_0 rfl ?_
  refine aw_iconst (npc := 2) (v := 0) (by decide) dX8_isFriend_1 rfl ?_
  refine aw_aload_n (npc := 3) rfl dX8_isFriend_2 rfl ?_
  refine aw_get (npc := 6) dX8_isFriend_3 rfl kf_X8_9 g69 rfl ?_
  refine aw_iconst (npc := 7) (v := 1) (by decide) dX8_isFriend_6 rfl ?_
  refine aw_iald (npc := 8) (x := 0) (j := 1) dX8_isFriend_7 rfl g70 ⟨by decide, by decide⟩ rfl ?_
  refine aw_iconst (npc := 9) (v := 1) (by decide) dX8_isFriend_8 rfl ?_
  refine aw_isubV (npc := 10) (v := -1) dX8_isFriend_9 rfl (by decide) ?_
  refine aw_callS (npc := 13) (N := mX8_in) (mc := 0) (ms := 0) (A := [.int f, .int 0, .int (-1)]) (S := []) (L0 := [some (.int f), some (.int 0), some (.int (-1))]) dX8_isFriend_10 rfl km_X8_in kk_X8_83 rfl ⟨rfl, by decide⟩ rfl (Nat.le_of_ble_eq_true rfl) (Nat.zero_add _) (Nat.zero_add _) rfl ?_
  refine c_X8_in (fun hw1 => absurd hw1 (wi_no (by decide))) (fun _ => ?_)
  refine aw_re (S' := [.int 0]) rfl ?_
  refine aw_zret rfl rfl dX8_isFriend_13 ?_
  refine aw_re (S' := [.int 0]) rfl ?_
  refine aw_if_eq (npc := 8) (tgt := 17) dX8_as_5 rfl (by decide) (fun _ => ?_) (fun hc => absurd (by decide) hc)
  refine aw_ldc (npc := 19) kc_X8_91 dX8_as_17 rfl ?_
  refine aw_iret rfl dX8_as_19 ?_
  exact fin_m hq (show sp_as f w = (-1000000001) from (by unfold sp_as; first | rfl | (simp only [wif_same, ite_self]; done) | (simp only [wif_same, ite_self]; rfl) | (simp [wif_same]; done)))
noncomputable def sp_turns (f : Int32) (w : Int32) : Int32 := -1000000001
set_option maxHeartbeats 40000000 in
set_option maxRecDepth 100000 in
theorem p_X7_turns {X : List Int32} {d rc rs : Nat} {h : am_H} {Q : am_Q} {f : Int32} {w : Int32} (F : f0_X7 h) (hq : ∀ h9, am_fr 69 h9 h → Q (some (.int (sp_turns f w))) 92 h9) : AW X mX7_turns (d + 12) rc rs 0 [some (.ref 0), some (.int f), some (.int w), none] [] 92 h Q := by
  obtain ⟨f0, f1, -, -, -, -, -, -, -, -, -, -, -, -, -, -, -, -, -, -, -, -, -, -, -, -, -, -, -, -, -, -, -, -, -, -, -, -, -, -, -, -, -, -, -, -, -, -, -, -, -, -, -, -, -, -, -, -, -, -, -, -, -, -, -, -, -, -, -⟩ := F
  refine aw_aload_n (npc := 1) rfl dX7_turns_0 rfl ?_
  refine aw_get (npc := 4) dX7_turns_1 rfl kf_X7_10 f0 rfl ?_
  refine aw_iload_n (npc := 5) rfl dX7_turns_4 rfl ?_
  refine aw_callV (npc := 8) (N := mX0_isFriend) (b := 1) (mc := 0) (ms := 0) (A := [.int f]) (S := []) (L0 := [some (.ref 1), some (.int f)]) dX7_turns_5 rfl km_X0_isFriend kk_X7_87 f1 ⟨by decide, rfl⟩ rfl ⟨rfl, by decide⟩ rfl (Nat.le_of_ble_eq_true rfl) (Nat.zero_add _) (Nat.zero_add _) rfl ?_
  refine aw_iload_n (npc := 1) rfl dX0_isFriend_0 rfl ?_
  refine aw_iconst (npc := 2) (v := 0) (by decide) dX0_isFriend_1 rfl ?_
  refine aw_aload_n (npc := 3) rfl dX0_isFriend_2 rfl ?_
  refine aw_get (npc := 6) dX0_isFriend_3 rfl kf_X0_40 f1 rfl ?_
  refine aw_iconst (npc := 7) (v := 1) (by decide) dX0_isFriend_6 rfl ?_
  refine aw_isubV (npc := 8) (v := -1) dX0_isFriend_7 rfl (by decide) ?_
  refine aw_callSN (npc := 11) (N := mX7_within) (mc := 0) (ms := 0) (A := [.int f, .int 0, .int (-1)]) (S := []) (L0 := [some (.int f), some (.int 0), some (.int (-1))]) dX0_isFriend_8 rfl km_X7_within kk_X0_79 rfl ⟨rfl, by decide⟩ rfl (Nat.le_of_ble_eq_true rfl) (Nat.zero_add _) (Nat.zero_add _) rfl ?_
  refine c_X7_within (fun hw1 => absurd hw1 (wi_no (by decide))) (fun _ => ?_)
  refine aw_re (S' := [.int 0]) rfl ?_
  refine aw_zret rfl rfl dX0_isFriend_11 ?_
  refine aw_re (S' := [.int 0]) rfl ?_
  refine aw_if_eq (npc := 11) (tgt := 18) dX7_turns_8 rfl (by decide) (fun _ => ?_) (fun hc => absurd (by decide) hc)
  refine aw_ldc (npc := 20) kc_X7_78 dX7_turns_18 rfl ?_
  refine aw_iret rfl dX7_turns_20 ?_
  exact fin_c hq am_fr0 (show sp_turns f w = (-1000000001) from (by unfold sp_turns; first | rfl | (simp only [wif_same, ite_self]; done) | (simp only [wif_same, ite_self]; rfl) | (simp [wif_same]; done)))
set_option maxHeartbeats 40000000 in
set_option maxRecDepth 100000 in
theorem p_X8_turns {X : List Int32} {d rc rs : Nat} {h : am_H} {Q : am_Q} {f : Int32} {w : Int32} (F : f0_X8 h) (hq : ∀ n9 h9, Q (some (.int (sp_turns f w))) n9 h9) : AW X mX8_turns (d + 12) rc rs 0 [some (.ref 69), some (.int f), some (.int w)] [] 92 h Q := by
  obtain ⟨g69, g70, -, -, -, -, -, -, -, -, -, -, -, -, -, -, -, -, -, -, -, -, -⟩ := F
  refine aw_aload_n (npc := 1) rfl dX8_turns_0 rfl ?_
  refine aw_iload_n (npc := 2) rfl dX8_turns_1 rfl ?_
  refine aw_callV (npc := 5) (N := mX8_isFriend) (b := 69) (mc := 0) (ms := 0) (A := [.int f]) (S := []) (L0 := [some (.ref 69), some (.int f)]) dX8_turns_2 rfl km_X8_isFriend kk_X8_114 g69 ⟨by decide, rfl⟩ rfl ⟨rfl, by decide⟩ rfl (Nat.le_of_ble_eq_true rfl) (Nat.zero_add _) (Nat.zero_add _) rfl ?_
  refine aw_iload_n (npc := 1) rfl dX8_isFriend_0 rfl ?_
  refine aw_iconst (npc := 2) (v := 0) (by decide) dX8_isFriend_1 rfl ?_
  refine aw_aload_n (npc := 3) rfl dX8_isFriend_2 rfl ?_
  refine aw_get (npc := 6) dX8_isFriend_3 rfl kf_X8_9 g69 rfl ?_
  refine aw_iconst (npc := 7) (v := 1) (by decide) dX8_isFriend_6 rfl ?_
  refine aw_iald (npc := 8) (x := 0) (j := 1) dX8_isFriend_7 rfl g70 ⟨by decide, by decide⟩ rfl ?_
  refine aw_iconst (npc := 9) (v := 1) (by decide) dX8_isFriend_8 rfl ?_
  refine aw_isubV (npc := 10) (v := -1) dX8_isFriend_9 rfl (by decide) ?_
  refine aw_callS (npc := 13) (N := mX8_in) (mc := 0) (ms := 0) (A := [.int f, .int 0, .int (-1)]) (S := []) (L0 := [some (.int f), some (.int 0), some (.int (-1))]) dX8_isFriend_10 rfl km_X8_in kk_X8_83 rfl ⟨rfl, by decide⟩ rfl (Nat.le_of_ble_eq_true rfl) (Nat.zero_add _) (Nat.zero_add _) rfl ?_
  refine c_X8_in (fun hw1 => absurd hw1 (wi_no (by decide))) (fun _ => ?_)
  refine aw_re (S' := [.int 0]) rfl ?_
  refine aw_zret rfl rfl dX8_isFriend_13 ?_
  refine aw_re (S' := [.int 0]) rfl ?_
  refine aw_if_eq (npc := 8) (tgt := 31) dX8_turns_5 rfl (by decide) (fun _ => ?_) (fun hc => absurd (by decide) hc)
  refine aw_ldc (npc := 33) kc_X8_91 dX8_turns_31 rfl ?_
  refine aw_iret rfl dX8_turns_33 ?_
  exact fin_m hq (show sp_turns f w = (-1000000001) from (by unfold sp_turns; first | rfl | (simp only [wif_same, ite_self]; done) | (simp only [wif_same, ite_self]; rfl) | (simp [wif_same]; done)))
noncomputable def sp_set (f : Int32) (w : Int32) (v : Int32) : Int32 := -1000000001
set_option maxHeartbeats 40000000 in
set_option maxRecDepth 100000 in
theorem p_X7_set {X : List Int32} {d rc rs : Nat} {h : am_H} {Q : am_Q} {f : Int32} {w : Int32} {v : Int32} (F : f0_X7 h) (hq : ∀ h9, am_fr 69 h9 h → Q (some (.int (sp_set f w v))) 92 h9) : AW X mX7_set (d + 12) rc rs 0 [some (.ref 0), some (.int f), some (.int w), some (.int v), none] [] 92 h Q := by
  obtain ⟨f0, f1, -, -, -, -, -, -, -, -, -, -, -, -, -, -, -, -, -, -, -, -, -, -, -, -, -, -, -, -, -, -, -, -, -, -, -, -, -, -, -, -, -, -, -, -, -, -, -, -, -, -, -, -, -, -, -, -, -, -, -, -, -, -, -, -, -, -, -⟩ := F
  refine aw_aload_n (npc := 1) rfl dX7_set_0 rfl ?_
  refine aw_get (npc := 4) dX7_set_1 rfl kf_X7_10 f0 rfl ?_
  refine aw_iload_n (npc := 5) rfl dX7_set_4 rfl ?_
  refine aw_callV (npc := 8) (N := mX0_isFriend) (b := 1) (mc := 0) (ms := 0) (A := [.int f]) (S := []) (L0 := [some (.ref 1), some (.int f)]) dX7_set_5 rfl km_X0_isFriend kk_X7_87 f1 ⟨by decide, rfl⟩ rfl ⟨rfl, by decide⟩ rfl (Nat.le_of_ble_eq_true rfl) (Nat.zero_add _) (Nat.zero_add _) rfl ?_
  refine aw_iload_n (npc := 1) rfl dX0_isFriend_0 rfl ?_
  refine aw_iconst (npc := 2) (v := 0) (by decide) dX0_isFriend_1 rfl ?_
  refine aw_aload_n (npc := 3) rfl dX0_isFriend_2 rfl ?_
  refine aw_get (npc := 6) dX0_isFriend_3 rfl kf_X0_40 f1 rfl ?_
  refine aw_iconst (npc := 7) (v := 1) (by decide) dX0_isFriend_6 rfl ?_
  refine aw_isubV (npc := 8) (v := -1) dX0_isFriend_7 rfl (by decide) ?_
  refine aw_callSN (npc := 11) (N := mX7_within) (mc := 0) (ms := 0) (A := [.int f, .int 0, .int (-1)]) (S := []) (L0 := [some (.int f), some (.int 0), some (.int (-1))]) dX0_isFriend_8 rfl km_X7_within kk_X0_79 rfl ⟨rfl, by decide⟩ rfl (Nat.le_of_ble_eq_true rfl) (Nat.zero_add _) (Nat.zero_add _) rfl ?_
  refine c_X7_within (fun hw1 => absurd hw1 (wi_no (by decide))) (fun _ => ?_)
  refine aw_re (S' := [.int 0]) rfl ?_
  refine aw_zret rfl rfl dX0_isFriend_11 ?_
  refine aw_re (S' := [.int 0]) rfl ?_
  refine aw_if_ne (npc := 11) (tgt := 14) dX7_set_8 rfl (by decide) (fun hc => absurd (by decide) hc) (fun _ => ?_)
  refine aw_ldc (npc := 13) kc_X7_78 dX7_set_11 rfl ?_
  refine aw_iret rfl dX7_set_13 ?_
  exact fin_c hq am_fr0 (show sp_set f w v = (-1000000001) from (by unfold sp_set; first | rfl | (simp only [wif_same, ite_self]; done) | (simp only [wif_same, ite_self]; rfl) | (simp [wif_same]; done)))
set_option maxHeartbeats 40000000 in
set_option maxRecDepth 100000 in
theorem p_X8_set {X : List Int32} {d rc rs : Nat} {h : am_H} {Q : am_Q} {f : Int32} {w : Int32} {v : Int32} (F : f0_X8 h) (hq : ∀ n9 h9, Q (some (.int (sp_set f w v))) n9 h9) : AW X mX8_set (d + 12) rc rs 0 [some (.ref 69), some (.int f), some (.int w), some (.int v)] [] 92 h Q := by
  obtain ⟨g69, g70, -, -, -, -, -, -, -, -, -, -, -, -, -, -, -, -, -, -, -, -, -⟩ := F
  refine aw_aload_n (npc := 1) rfl dX8_set_0 rfl ?_
  refine aw_iload_n (npc := 2) rfl dX8_set_1 rfl ?_
  refine aw_callV (npc := 5) (N := mX8_isFriend) (b := 69) (mc := 0) (ms := 0) (A := [.int f]) (S := []) (L0 := [some (.ref 69), some (.int f)]) dX8_set_2 rfl km_X8_isFriend kk_X8_114 g69 ⟨by decide, rfl⟩ rfl ⟨rfl, by decide⟩ rfl (Nat.le_of_ble_eq_true rfl) (Nat.zero_add _) (Nat.zero_add _) rfl ?_
  refine aw_iload_n (npc := 1) rfl dX8_isFriend_0 rfl ?_
  refine aw_iconst (npc := 2) (v := 0) (by decide) dX8_isFriend_1 rfl ?_
  refine aw_aload_n (npc := 3) rfl dX8_isFriend_2 rfl ?_
  refine aw_get (npc := 6) dX8_isFriend_3 rfl kf_X8_9 g69 rfl ?_
  refine aw_iconst (npc := 7) (v := 1) (by decide) dX8_isFriend_6 rfl ?_
  refine aw_iald (npc := 8) (x := 0) (j := 1) dX8_isFriend_7 rfl g70 ⟨by decide, by decide⟩ rfl ?_
  refine aw_iconst (npc := 9) (v := 1) (by decide) dX8_isFriend_8 rfl ?_
  refine aw_isubV (npc := 10) (v := -1) dX8_isFriend_9 rfl (by decide) ?_
  refine aw_callS (npc := 13) (N := mX8_in) (mc := 0) (ms := 0) (A := [.int f, .int 0, .int (-1)]) (S := []) (L0 := [some (.int f), some (.int 0), some (.int (-1))]) dX8_isFriend_10 rfl km_X8_in kk_X8_83 rfl ⟨rfl, by decide⟩ rfl (Nat.le_of_ble_eq_true rfl) (Nat.zero_add _) (Nat.zero_add _) rfl ?_
  refine c_X8_in (fun hw1 => absurd hw1 (wi_no (by decide))) (fun _ => ?_)
  refine aw_re (S' := [.int 0]) rfl ?_
  refine aw_zret rfl rfl dX8_isFriend_13 ?_
  refine aw_re (S' := [.int 0]) rfl ?_
  refine aw_if_eq (npc := 8) (tgt := 52) dX8_set_5 rfl (by decide) (fun _ => ?_) (fun hc => absurd (by decide) hc)
  refine aw_ldc (npc := 54) kc_X8_91 dX8_set_52 rfl ?_
  refine aw_iret rfl dX8_set_54 ?_
  exact fin_m hq (show sp_set f w v = (-1000000001) from (by unfold sp_set; first | rfl | (simp only [wif_same, ite_self]; done) | (simp only [wif_same, ite_self]; rfl) | (simp [wif_same]; done)))
noncomputable def sp_fine (f : Int32) : Int32 := -1000000001
set_option maxHeartbeats 40000000 in
set_option maxRecDepth 100000 in
theorem p_X7_fine {X : List Int32} {d rc rs : Nat} {h : am_H} {Q : am_Q} {f : Int32} (F : f0_X7 h) (hq : ∀ h9, am_fr 69 h9 h → Q (some (.int (sp_fine f))) 92 h9) : AW X mX7_fine (d + 12) rc rs 0 [some (.ref 0), some (.int f), none, none] [] 92 h Q := by
  obtain ⟨f0, f1, -, -, -, -, -, -, -, -, -, -, -, -, -, -, -, -, -, -, -, -, -, -, -, -, -, -, -, -, -, -, -, -, -, -, -, -, -, -, -, -, -, -, -, -, -, -, -, -, -, -, -, -, -, -, -, -, -, -, -, -, -, -, -, -, -, -, -⟩ := F
  refine aw_aload_n (npc := 1) rfl dX7_fine_0 rfl ?_
  refine aw_get (npc := 4) dX7_fine_1 rfl kf_X7_10 f0 rfl ?_
  refine aw_iload_n (npc := 5) rfl dX7_fine_4 rfl ?_
  refine aw_callV (npc := 8) (N := mX0_isFriend) (b := 1) (mc := 0) (ms := 0) (A := [.int f]) (S := []) (L0 := [some (.ref 1), some (.int f)]) dX7_fine_5 rfl km_X0_isFriend kk_X7_87 f1 ⟨by decide, rfl⟩ rfl ⟨rfl, by decide⟩ rfl (Nat.le_of_ble_eq_true rfl) (Nat.zero_add _) (Nat.zero_add _) rfl ?_
  refine aw_iload_n (npc := 1) rfl dX0_isFriend_0 rfl ?_
  refine aw_iconst (npc := 2) (v := 0) (by decide) dX0_isFriend_1 rfl ?_
  refine aw_aload_n (npc := 3) rfl dX0_isFriend_2 rfl ?_
  refine aw_get (npc := 6) dX0_isFriend_3 rfl kf_X0_40 f1 rfl ?_
  refine aw_iconst (npc := 7) (v := 1) (by decide) dX0_isFriend_6 rfl ?_
  refine aw_isubV (npc := 8) (v := -1) dX0_isFriend_7 rfl (by decide) ?_
  refine aw_callSN (npc := 11) (N := mX7_within) (mc := 0) (ms := 0) (A := [.int f, .int 0, .int (-1)]) (S := []) (L0 := [some (.int f), some (.int 0), some (.int (-1))]) dX0_isFriend_8 rfl km_X7_within kk_X0_79 rfl ⟨rfl, by decide⟩ rfl (Nat.le_of_ble_eq_true rfl) (Nat.zero_add _) (Nat.zero_add _) rfl ?_
  refine c_X7_within (fun hw1 => absurd hw1 (wi_no (by decide))) (fun _ => ?_)
  refine aw_re (S' := [.int 0]) rfl ?_
  refine aw_zret rfl rfl dX0_isFriend_11 ?_
  refine aw_re (S' := [.int 0]) rfl ?_
  refine aw_if_ne (npc := 11) (tgt := 14) dX7_fine_8 rfl (by decide) (fun hc => absurd (by decide) hc) (fun _ => ?_)
  refine aw_ldc (npc := 13) kc_X7_78 dX7_fine_11 rfl ?_
  refine aw_iret rfl dX7_fine_13 ?_
  exact fin_c hq am_fr0 (show sp_fine f = (-1000000001) from (by unfold sp_fine; first | rfl | (simp only [wif_same, ite_self]; done) | (simp only [wif_same, ite_self]; rfl) | (simp [wif_same]; done)))
set_option maxHeartbeats 40000000 in
set_option maxRecDepth 100000 in
theorem p_X8_fine {X : List Int32} {d rc rs : Nat} {h : am_H} {Q : am_Q} {f : Int32} (F : f0_X8 h) (hq : ∀ n9 h9, Q (some (.int (sp_fine f))) n9 h9) : AW X mX8_fine (d + 12) rc rs 0 [some (.ref 69), some (.int f), none] [] 92 h Q := by
  obtain ⟨g69, g70, -, -, -, -, -, -, -, -, -, -, -, -, -, -, -, -, -, -, -, -, -⟩ := F
  refine aw_aload_n (npc := 1) rfl dX8_fine_0 rfl ?_
  refine aw_iload_n (npc := 2) rfl dX8_fine_1 rfl ?_
  refine aw_callV (npc := 5) (N := mX8_isFriend) (b := 69) (mc := 0) (ms := 0) (A := [.int f]) (S := []) (L0 := [some (.ref 69), some (.int f)]) dX8_fine_2 rfl km_X8_isFriend kk_X8_114 g69 ⟨by decide, rfl⟩ rfl ⟨rfl, by decide⟩ rfl (Nat.le_of_ble_eq_true rfl) (Nat.zero_add _) (Nat.zero_add _) rfl ?_
  refine aw_iload_n (npc := 1) rfl dX8_isFriend_0 rfl ?_
  refine aw_iconst (npc := 2) (v := 0) (by decide) dX8_isFriend_1 rfl ?_
  refine aw_aload_n (npc := 3) rfl dX8_isFriend_2 rfl ?_
  refine aw_get (npc := 6) dX8_isFriend_3 rfl kf_X8_9 g69 rfl ?_
  refine aw_iconst (npc := 7) (v := 1) (by decide) dX8_isFriend_6 rfl ?_
  refine aw_iald (npc := 8) (x := 0) (j := 1) dX8_isFriend_7 rfl g70 ⟨by decide, by decide⟩ rfl ?_
  refine aw_iconst (npc := 9) (v := 1) (by decide) dX8_isFriend_8 rfl ?_
  refine aw_isubV (npc := 10) (v := -1) dX8_isFriend_9 rfl (by decide) ?_
  refine aw_callS (npc := 13) (N := mX8_in) (mc := 0) (ms := 0) (A := [.int f, .int 0, .int (-1)]) (S := []) (L0 := [some (.int f), some (.int 0), some (.int (-1))]) dX8_isFriend_10 rfl km_X8_in kk_X8_83 rfl ⟨rfl, by decide⟩ rfl (Nat.le_of_ble_eq_true rfl) (Nat.zero_add _) (Nat.zero_add _) rfl ?_
  refine c_X8_in (fun hw1 => absurd hw1 (wi_no (by decide))) (fun _ => ?_)
  refine aw_re (S' := [.int 0]) rfl ?_
  refine aw_zret rfl rfl dX8_isFriend_13 ?_
  refine aw_re (S' := [.int 0]) rfl ?_
  refine aw_if_ne (npc := 8) (tgt := 11) dX8_fine_5 rfl (by decide) (fun hc => absurd (by decide) hc) (fun _ => ?_)
  refine aw_ldc (npc := 10) kc_X8_91 dX8_fine_8 rfl ?_
  refine aw_iret rfl dX8_fine_10 ?_
  exact fin_m hq (show sp_fine f = (-1000000001) from (by unfold sp_fine; first | rfl | (simp only [wif_same, ite_self]; done) | (simp only [wif_same, ite_self]; rfl) | (simp [wif_same]; done)))
noncomputable def sp_stand (t : Int32) (v : Int32) : Int32 := wif t 0 3 (wif v 0 9 (5) (-1000000001)) (-1000000001)
set_option maxHeartbeats 40000000 in
set_option maxRecDepth 100000 in
theorem p_X7_stand {X : List Int32} {d rc rs : Nat} {h : am_H} {Q : am_Q} {t : Int32} {v : Int32} (F : f0_X7 h) (hq : ∀ h9, am_fr 69 h9 h → Q (some (.int (sp_stand t v))) 92 h9) : AW X mX7_stand (d + 12) rc rs 0 [some (.ref 0), some (.int t), some (.int v), none] [] 92 h Q := by
  obtain ⟨f0, f1, f2, -, -, -, -, -, -, -, -, -, -, -, -, -, -, -, -, -, -, -, -, -, -, -, -, -, -, -, -, -, -, -, -, -, -, -, -, -, -, -, -, -, -, -, -, -, -, -, -, -, -, -, -, -, -, -, -, -, -, -, -, -, -, -, -, -, -⟩ := F
  refine aw_iload_n (npc := 1) rfl dX7_stand_0 rfl ?_
  refine aw_callS (npc := 4) (N := mX7_isTerm) (mc := 0) (ms := 0) (A := [.int t]) (S := []) (L0 := [some (.int t)]) dX7_stand_1 rfl km_X7_isTerm kk_X7_124 rfl ⟨rfl, by decide⟩ rfl (Nat.le_of_ble_eq_true rfl) (Nat.zero_add _) (Nat.zero_add _) rfl ?_
  refine c_X7_isTerm (fun hw1 => ?_) (fun hw1 => ?_)
  · rcases wi_c0_3 hw1 with rfl | rfl | rfl | rfl
    · refine aw_re (S' := [.int 1]) rfl ?_
      refine aw_if_eq (npc := 7) (tgt := 17) dX7_stand_4 rfl (by decide) (fun hc => absurd hc (by decide)) (fun _ => ?_)
      refine aw_iload_n (npc := 8) rfl dX7_stand_7 rfl ?_
      refine aw_iconst (npc := 9) (v := 0) (by decide) dX7_stand_8 rfl ?_
      refine aw_bipush (npc := 11) (v := 9) (by decide) dX7_stand_9 rfl ?_
      refine aw_callS (npc := 14) (N := mX7_within) (mc := 0) (ms := 0) (A := [.int v, .int 0, .int 9]) (S := []) (L0 := [some (.int v), some (.int 0), some (.int 9)]) dX7_stand_11 rfl km_X7_within kk_X7_74 rfl ⟨rfl, by decide⟩ rfl (Nat.le_of_ble_eq_true rfl) (Nat.zero_add _) (Nat.zero_add _) rfl ?_
      refine c_X7_within (fun hw2 => ?_) (fun hw2 => ?_)
      · refine aw_re (S' := [.int 1]) rfl ?_
        refine aw_if_ne (npc := 17) (tgt := 20) dX7_stand_14 rfl (by decide) (fun _ => ?_) (fun hc => absurd hc (by decide))
        refine aw_aload_n (npc := 21) rfl dX7_stand_20 rfl ?_
        refine aw_get (npc := 24) dX7_stand_21 rfl kf_X7_10 f0 rfl ?_
        refine aw_get (npc := 27) dX7_stand_24 rfl kf_X7_127 f1 rfl ?_
        refine aw_iload_n (npc := 28) rfl dX7_stand_27 rfl ?_
        refine aw_iald (npc := 29) (x := 5) (j := 0) dX7_stand_28 rfl f2 ⟨by decide, by decide⟩ rfl ?_
        refine aw_istore_n (npc := 30) (L' := [some (.ref 0), some (.int 0), some (.int v), some (.int 5)]) dX7_stand_29 rfl (by decide) rfl rfl ?_
        refine aw_aload_n (npc := 31) rfl dX7_stand_30 rfl ?_
        refine aw_get (npc := 34) dX7_stand_31 rfl kf_X7_10 f0 rfl ?_
        refine aw_get (npc := 37) dX7_stand_34 rfl kf_X7_127 f1 rfl ?_
        refine aw_iload_n (npc := 38) rfl dX7_stand_37 rfl ?_
        refine aw_iload_n (npc := 39) rfl dX7_stand_38 rfl ?_
        refine aw_iast (npc := 40) (j := 0) dX7_stand_39 rfl f2 ⟨by decide, by decide⟩ (Nat.le_of_ble_eq_true rfl) (show _ = am_up _ 2 (.inl (0, [v, 5, 5, 5])) from rfl) ?_
        refine aw_iload_n (npc := 41) rfl dX7_stand_40 rfl ?_
        refine aw_iret rfl dX7_stand_41 ?_
        exact fin_c hq (am_frU (by decide) am_fr0) (show sp_stand 0 v = 5 from (by unfold sp_stand; first | rfl | (simp only [wif_t hw1, wif_t hw2, wif_same, ite_self]; done) | (simp only [wif_t hw1, wif_t hw2, wif_same, ite_self]; rfl) | (simp [wif_t hw1, wif_t hw2, wif_same]; done)))
      · refine aw_re (S' := [.int 0]) rfl ?_
        refine aw_if_ne (npc := 17) (tgt := 20) dX7_stand_14 rfl (by decide) (fun hc => absurd (by decide) hc) (fun _ => ?_)
        refine aw_ldc (npc := 19) kc_X7_78 dX7_stand_17 rfl ?_
        refine aw_iret rfl dX7_stand_19 ?_
        exact fin_c hq am_fr0 (show sp_stand 0 v = (-1000000001) from (by unfold sp_stand; first | rfl | (simp only [wif_t hw1, wif_f hw2, wif_same, ite_self]; done) | (simp only [wif_t hw1, wif_f hw2, wif_same, ite_self]; rfl) | (simp [wif_t hw1, wif_f hw2, wif_same]; done)))
    · refine aw_re (S' := [.int 1]) rfl ?_
      refine aw_if_eq (npc := 7) (tgt := 17) dX7_stand_4 rfl (by decide) (fun hc => absurd hc (by decide)) (fun _ => ?_)
      refine aw_iload_n (npc := 8) rfl dX7_stand_7 rfl ?_
      refine aw_iconst (npc := 9) (v := 0) (by decide) dX7_stand_8 rfl ?_
      refine aw_bipush (npc := 11) (v := 9) (by decide) dX7_stand_9 rfl ?_
      refine aw_callS (npc := 14) (N := mX7_within) (mc := 0) (ms := 0) (A := [.int v, .int 0, .int 9]) (S := []) (L0 := [some (.int v), some (.int 0), some (.int 9)]) dX7_stand_11 rfl km_X7_within kk_X7_74 rfl ⟨rfl, by decide⟩ rfl (Nat.le_of_ble_eq_true rfl) (Nat.zero_add _) (Nat.zero_add _) rfl ?_
      refine c_X7_within (fun hw3 => ?_) (fun hw3 => ?_)
      · refine aw_re (S' := [.int 1]) rfl ?_
        refine aw_if_ne (npc := 17) (tgt := 20) dX7_stand_14 rfl (by decide) (fun _ => ?_) (fun hc => absurd hc (by decide))
        refine aw_aload_n (npc := 21) rfl dX7_stand_20 rfl ?_
        refine aw_get (npc := 24) dX7_stand_21 rfl kf_X7_10 f0 rfl ?_
        refine aw_get (npc := 27) dX7_stand_24 rfl kf_X7_127 f1 rfl ?_
        refine aw_iload_n (npc := 28) rfl dX7_stand_27 rfl ?_
        refine aw_iald (npc := 29) (x := 5) (j := 1) dX7_stand_28 rfl f2 ⟨by decide, by decide⟩ rfl ?_
        refine aw_istore_n (npc := 30) (L' := [some (.ref 0), some (.int 1), some (.int v), some (.int 5)]) dX7_stand_29 rfl (by decide) rfl rfl ?_
        refine aw_aload_n (npc := 31) rfl dX7_stand_30 rfl ?_
        refine aw_get (npc := 34) dX7_stand_31 rfl kf_X7_10 f0 rfl ?_
        refine aw_get (npc := 37) dX7_stand_34 rfl kf_X7_127 f1 rfl ?_
        refine aw_iload_n (npc := 38) rfl dX7_stand_37 rfl ?_
        refine aw_iload_n (npc := 39) rfl dX7_stand_38 rfl ?_
        refine aw_iast (npc := 40) (j := 1) dX7_stand_39 rfl f2 ⟨by decide, by decide⟩ (Nat.le_of_ble_eq_true rfl) (show _ = am_up _ 2 (.inl (0, [5, v, 5, 5])) from rfl) ?_
        refine aw_iload_n (npc := 41) rfl dX7_stand_40 rfl ?_
        refine aw_iret rfl dX7_stand_41 ?_
        exact fin_c hq (am_frU (by decide) am_fr0) (show sp_stand 1 v = 5 from (by unfold sp_stand; first | rfl | (simp only [wif_t hw1, wif_t hw3, wif_same, ite_self]; done) | (simp only [wif_t hw1, wif_t hw3, wif_same, ite_self]; rfl) | (simp [wif_t hw1, wif_t hw3, wif_same]; done)))
      · refine aw_re (S' := [.int 0]) rfl ?_
        refine aw_if_ne (npc := 17) (tgt := 20) dX7_stand_14 rfl (by decide) (fun hc => absurd (by decide) hc) (fun _ => ?_)
        refine aw_ldc (npc := 19) kc_X7_78 dX7_stand_17 rfl ?_
        refine aw_iret rfl dX7_stand_19 ?_
        exact fin_c hq am_fr0 (show sp_stand 1 v = (-1000000001) from (by unfold sp_stand; first | rfl | (simp only [wif_t hw1, wif_f hw3, wif_same, ite_self]; done) | (simp only [wif_t hw1, wif_f hw3, wif_same, ite_self]; rfl) | (simp [wif_t hw1, wif_f hw3, wif_same]; done)))
    · refine aw_re (S' := [.int 1]) rfl ?_
      refine aw_if_eq (npc := 7) (tgt := 17) dX7_stand_4 rfl (by decide) (fun hc => absurd hc (by decide)) (fun _ => ?_)
      refine aw_iload_n (npc := 8) rfl dX7_stand_7 rfl ?_
      refine aw_iconst (npc := 9) (v := 0) (by decide) dX7_stand_8 rfl ?_
      refine aw_bipush (npc := 11) (v := 9) (by decide) dX7_stand_9 rfl ?_
      refine aw_callS (npc := 14) (N := mX7_within) (mc := 0) (ms := 0) (A := [.int v, .int 0, .int 9]) (S := []) (L0 := [some (.int v), some (.int 0), some (.int 9)]) dX7_stand_11 rfl km_X7_within kk_X7_74 rfl ⟨rfl, by decide⟩ rfl (Nat.le_of_ble_eq_true rfl) (Nat.zero_add _) (Nat.zero_add _) rfl ?_
      refine c_X7_within (fun hw4 => ?_) (fun hw4 => ?_)
      · refine aw_re (S' := [.int 1]) rfl ?_
        refine aw_if_ne (npc := 17) (tgt := 20) dX7_stand_14 rfl (by decide) (fun _ => ?_) (fun hc => absurd hc (by decide))
        refine aw_aload_n (npc := 21) rfl dX7_stand_20 rfl ?_
        refine aw_get (npc := 24) dX7_stand_21 rfl kf_X7_10 f0 rfl ?_
        refine aw_get (npc := 27) dX7_stand_24 rfl kf_X7_127 f1 rfl ?_
        refine aw_iload_n (npc := 28) rfl dX7_stand_27 rfl ?_
        refine aw_iald (npc := 29) (x := 5) (j := 2) dX7_stand_28 rfl f2 ⟨by decide, by decide⟩ rfl ?_
        refine aw_istore_n (npc := 30) (L' := [some (.ref 0), some (.int 2), some (.int v), some (.int 5)]) dX7_stand_29 rfl (by decide) rfl rfl ?_
        refine aw_aload_n (npc := 31) rfl dX7_stand_30 rfl ?_
        refine aw_get (npc := 34) dX7_stand_31 rfl kf_X7_10 f0 rfl ?_
        refine aw_get (npc := 37) dX7_stand_34 rfl kf_X7_127 f1 rfl ?_
        refine aw_iload_n (npc := 38) rfl dX7_stand_37 rfl ?_
        refine aw_iload_n (npc := 39) rfl dX7_stand_38 rfl ?_
        refine aw_iast (npc := 40) (j := 2) dX7_stand_39 rfl f2 ⟨by decide, by decide⟩ (Nat.le_of_ble_eq_true rfl) (show _ = am_up _ 2 (.inl (0, [5, 5, v, 5])) from rfl) ?_
        refine aw_iload_n (npc := 41) rfl dX7_stand_40 rfl ?_
        refine aw_iret rfl dX7_stand_41 ?_
        exact fin_c hq (am_frU (by decide) am_fr0) (show sp_stand 2 v = 5 from (by unfold sp_stand; first | rfl | (simp only [wif_t hw1, wif_t hw4, wif_same, ite_self]; done) | (simp only [wif_t hw1, wif_t hw4, wif_same, ite_self]; rfl) | (simp [wif_t hw1, wif_t hw4, wif_same]; done)))
      · refine aw_re (S' := [.int 0]) rfl ?_
        refine aw_if_ne (npc := 17) (tgt := 20) dX7_stand_14 rfl (by decide) (fun hc => absurd (by decide) hc) (fun _ => ?_)
        refine aw_ldc (npc := 19) kc_X7_78 dX7_stand_17 rfl ?_
        refine aw_iret rfl dX7_stand_19 ?_
        exact fin_c hq am_fr0 (show sp_stand 2 v = (-1000000001) from (by unfold sp_stand; first | rfl | (simp only [wif_t hw1, wif_f hw4, wif_same, ite_self]; done) | (simp only [wif_t hw1, wif_f hw4, wif_same, ite_self]; rfl) | (simp [wif_t hw1, wif_f hw4, wif_same]; done)))
    · refine aw_re (S' := [.int 1]) rfl ?_
      refine aw_if_eq (npc := 7) (tgt := 17) dX7_stand_4 rfl (by decide) (fun hc => absurd hc (by decide)) (fun _ => ?_)
      refine aw_iload_n (npc := 8) rfl dX7_stand_7 rfl ?_
      refine aw_iconst (npc := 9) (v := 0) (by decide) dX7_stand_8 rfl ?_
      refine aw_bipush (npc := 11) (v := 9) (by decide) dX7_stand_9 rfl ?_
      refine aw_callS (npc := 14) (N := mX7_within) (mc := 0) (ms := 0) (A := [.int v, .int 0, .int 9]) (S := []) (L0 := [some (.int v), some (.int 0), some (.int 9)]) dX7_stand_11 rfl km_X7_within kk_X7_74 rfl ⟨rfl, by decide⟩ rfl (Nat.le_of_ble_eq_true rfl) (Nat.zero_add _) (Nat.zero_add _) rfl ?_
      refine c_X7_within (fun hw5 => ?_) (fun hw5 => ?_)
      · refine aw_re (S' := [.int 1]) rfl ?_
        refine aw_if_ne (npc := 17) (tgt := 20) dX7_stand_14 rfl (by decide) (fun _ => ?_) (fun hc => absurd hc (by decide))
        refine aw_aload_n (npc := 21) rfl dX7_stand_20 rfl ?_
        refine aw_get (npc := 24) dX7_stand_21 rfl kf_X7_10 f0 rfl ?_
        refine aw_get (npc := 27) dX7_stand_24 rfl kf_X7_127 f1 rfl ?_
        refine aw_iload_n (npc := 28) rfl dX7_stand_27 rfl ?_
        refine aw_iald (npc := 29) (x := 5) (j := 3) dX7_stand_28 rfl f2 ⟨by decide, by decide⟩ rfl ?_
        refine aw_istore_n (npc := 30) (L' := [some (.ref 0), some (.int 3), some (.int v), some (.int 5)]) dX7_stand_29 rfl (by decide) rfl rfl ?_
        refine aw_aload_n (npc := 31) rfl dX7_stand_30 rfl ?_
        refine aw_get (npc := 34) dX7_stand_31 rfl kf_X7_10 f0 rfl ?_
        refine aw_get (npc := 37) dX7_stand_34 rfl kf_X7_127 f1 rfl ?_
        refine aw_iload_n (npc := 38) rfl dX7_stand_37 rfl ?_
        refine aw_iload_n (npc := 39) rfl dX7_stand_38 rfl ?_
        refine aw_iast (npc := 40) (j := 3) dX7_stand_39 rfl f2 ⟨by decide, by decide⟩ (Nat.le_of_ble_eq_true rfl) (show _ = am_up _ 2 (.inl (0, [5, 5, 5, v])) from rfl) ?_
        refine aw_iload_n (npc := 41) rfl dX7_stand_40 rfl ?_
        refine aw_iret rfl dX7_stand_41 ?_
        exact fin_c hq (am_frU (by decide) am_fr0) (show sp_stand 3 v = 5 from (by unfold sp_stand; first | rfl | (simp only [wif_t hw1, wif_t hw5, wif_same, ite_self]; done) | (simp only [wif_t hw1, wif_t hw5, wif_same, ite_self]; rfl) | (simp [wif_t hw1, wif_t hw5, wif_same]; done)))
      · refine aw_re (S' := [.int 0]) rfl ?_
        refine aw_if_ne (npc := 17) (tgt := 20) dX7_stand_14 rfl (by decide) (fun hc => absurd (by decide) hc) (fun _ => ?_)
        refine aw_ldc (npc := 19) kc_X7_78 dX7_stand_17 rfl ?_
        refine aw_iret rfl dX7_stand_19 ?_
        exact fin_c hq am_fr0 (show sp_stand 3 v = (-1000000001) from (by unfold sp_stand; first | rfl | (simp only [wif_t hw1, wif_f hw5, wif_same, ite_self]; done) | (simp only [wif_t hw1, wif_f hw5, wif_same, ite_self]; rfl) | (simp [wif_t hw1, wif_f hw5, wif_same]; done)))
  · refine aw_re (S' := [.int 0]) rfl ?_
    refine aw_if_eq (npc := 7) (tgt := 17) dX7_stand_4 rfl (by decide) (fun _ => ?_) (fun hc => absurd (by decide) hc)
    refine aw_ldc (npc := 19) kc_X7_78 dX7_stand_17 rfl ?_
    refine aw_iret rfl dX7_stand_19 ?_
    exact fin_c hq am_fr0 (show sp_stand t v = (-1000000001) from (by unfold sp_stand; first | rfl | (simp only [wif_f hw1, wif_same, ite_self]; done) | (simp only [wif_f hw1, wif_same, ite_self]; rfl) | (simp [wif_f hw1, wif_same]; done)))
set_option maxHeartbeats 40000000 in
set_option maxRecDepth 100000 in
theorem p_X8_stand {X : List Int32} {d rc rs : Nat} {h : am_H} {Q : am_Q} {t : Int32} {v : Int32} (F : f0_X8 h) (hq : ∀ n9 h9, Q (some (.int (sp_stand t v))) n9 h9) : AW X mX8_stand (d + 12) rc rs 0 [some (.ref 69), some (.int t), some (.int v)] [] 92 h Q := by
  obtain ⟨g69, g70, -, -, -, -, -, -, -, -, -, -, -, -, -, -, -, -, -, -, -, -, -⟩ := F
  refine aw_iload_n (npc := 1) rfl dX8_stand_0 rfl ?_
  refine aw_iconst (npc := 2) (v := 0) (by decide) dX8_stand_1 rfl ?_
  refine aw_iconst (npc := 3) (v := 3) (by decide) dX8_stand_2 rfl ?_
  refine aw_callS (npc := 6) (N := mX8_in) (mc := 0) (ms := 0) (A := [.int t, .int 0, .int 3]) (S := []) (L0 := [some (.int t), some (.int 0), some (.int 3)]) dX8_stand_3 rfl km_X8_in kk_X8_83 rfl ⟨rfl, by decide⟩ rfl (Nat.le_of_ble_eq_true rfl) (Nat.zero_add _) (Nat.zero_add _) rfl ?_
  refine c_X8_in (fun hw1 => ?_) (fun hw1 => ?_)
  · rcases wi_c0_3 hw1 with rfl | rfl | rfl | rfl
    · refine aw_re (S' := [.int 1]) rfl ?_
      refine aw_if_eq (npc := 9) (tgt := 31) dX8_stand_6 rfl (by decide) (fun hc => absurd hc (by decide)) (fun _ => ?_)
      refine aw_iload_n (npc := 10) rfl dX8_stand_9 rfl ?_
      refine aw_iconst (npc := 11) (v := 0) (by decide) dX8_stand_10 rfl ?_
      refine aw_bipush (npc := 13) (v := 9) (by decide) dX8_stand_11 rfl ?_
      refine aw_callS (npc := 16) (N := mX8_in) (mc := 0) (ms := 0) (A := [.int v, .int 0, .int 9]) (S := []) (L0 := [some (.int v), some (.int 0), some (.int 9)]) dX8_stand_13 rfl km_X8_in kk_X8_83 rfl ⟨rfl, by decide⟩ rfl (Nat.le_of_ble_eq_true rfl) (Nat.zero_add _) (Nat.zero_add _) rfl ?_
      refine c_X8_in (fun hw2 => ?_) (fun hw2 => ?_)
      · refine aw_re (S' := [.int 1]) rfl ?_
        refine aw_if_eq (npc := 19) (tgt := 31) dX8_stand_16 rfl (by decide) (fun hc => absurd hc (by decide)) (fun _ => ?_)
        refine aw_aload_n (npc := 20) rfl dX8_stand_19 rfl ?_
        refine aw_bipush (npc := 22) (v := 8) (by decide) dX8_stand_20 rfl ?_
        refine aw_iload_n (npc := 23) rfl dX8_stand_22 rfl ?_
        refine aw_iaddV (npc := 24) (v := 8) dX8_stand_23 rfl (by decide) ?_
        refine aw_iload_n (npc := 25) rfl dX8_stand_24 rfl ?_
        refine aw_callV (npc := 28) (N := mX8_becomes) (b := 69) (mc := 0) (ms := 0) (A := [.int 8, .int v]) (S := []) (L0 := [some (.ref 69), some (.int 8), some (.int v), none]) dX8_stand_25 rfl km_X8_becomes kk_X8_135 g69 ⟨by decide, rfl⟩ rfl ⟨rfl, by decide⟩ rfl (Nat.le_of_ble_eq_true rfl) (Nat.zero_add _) (Nat.zero_add _) rfl ?_
        refine aw_aload_n (npc := 1) rfl dX8_becomes_0 rfl ?_
        refine aw_get (npc := 4) dX8_becomes_1 rfl kf_X8_9 g69 rfl ?_
        refine aw_iload_n (npc := 5) rfl dX8_becomes_4 rfl ?_
        refine aw_iald (npc := 6) (x := 5) (j := 8) dX8_becomes_5 rfl g70 ⟨by decide, by decide⟩ rfl ?_
        refine aw_istore_n (npc := 7) (L' := [some (.ref 69), some (.int 8), some (.int v), some (.int 5)]) dX8_becomes_6 rfl (by decide) rfl rfl ?_
        refine aw_aload_n (npc := 8) rfl dX8_becomes_7 rfl ?_
        refine aw_get (npc := 11) dX8_becomes_8 rfl kf_X8_9 g69 rfl ?_
        refine aw_iload_n (npc := 12) rfl dX8_becomes_11 rfl ?_
        refine aw_iload_n (npc := 13) rfl dX8_becomes_12 rfl ?_
        refine aw_iast (npc := 14) (j := 8) dX8_becomes_13 rfl g70 ⟨by decide, by decide⟩ (Nat.le_of_ble_eq_true rfl) rfl ?_
        refine aw_iload_n (npc := 15) rfl dX8_becomes_14 rfl ?_
        refine aw_iret rfl dX8_becomes_15 ?_
        refine aw_re (S' := [.int 5]) rfl ?_
        refine aw_goto (npc := 33) dX8_stand_28 (by decide) ?_
        refine aw_iret rfl dX8_stand_33 ?_
        exact fin_m hq (show sp_stand 0 v = 5 from (by unfold sp_stand; first | rfl | (simp only [wif_t hw1, wif_t hw2, wif_same, ite_self]; done) | (simp only [wif_t hw1, wif_t hw2, wif_same, ite_self]; rfl) | (simp [wif_t hw1, wif_t hw2, wif_same]; done)))
      · refine aw_re (S' := [.int 0]) rfl ?_
        refine aw_if_eq (npc := 19) (tgt := 31) dX8_stand_16 rfl (by decide) (fun _ => ?_) (fun hc => absurd (by decide) hc)
        refine aw_ldc (npc := 33) kc_X8_91 dX8_stand_31 rfl ?_
        refine aw_iret rfl dX8_stand_33 ?_
        exact fin_m hq (show sp_stand 0 v = (-1000000001) from (by unfold sp_stand; first | rfl | (simp only [wif_t hw1, wif_f hw2, wif_same, ite_self]; done) | (simp only [wif_t hw1, wif_f hw2, wif_same, ite_self]; rfl) | (simp [wif_t hw1, wif_f hw2, wif_same]; done)))
    · refine aw_re (S' := [.int 1]) rfl ?_
      refine aw_if_eq (npc := 9) (tgt := 31) dX8_stand_6 rfl (by decide) (fun hc => absurd hc (by decide)) (fun _ => ?_)
      refine aw_iload_n (npc := 10) rfl dX8_stand_9 rfl ?_
      refine aw_iconst (npc := 11) (v := 0) (by decide) dX8_stand_10 rfl ?_
      refine aw_bipush (npc := 13) (v := 9) (by decide) dX8_stand_11 rfl ?_
      refine aw_callS (npc := 16) (N := mX8_in) (mc := 0) (ms := 0) (A := [.int v, .int 0, .int 9]) (S := []) (L0 := [some (.int v), some (.int 0), some (.int 9)]) dX8_stand_13 rfl km_X8_in kk_X8_83 rfl ⟨rfl, by decide⟩ rfl (Nat.le_of_ble_eq_true rfl) (Nat.zero_add _) (Nat.zero_add _) rfl ?_
      refine c_X8_in (fun hw3 => ?_) (fun hw3 => ?_)
      · refine aw_re (S' := [.int 1]) rfl ?_
        refine aw_if_eq (npc := 19) (tgt := 31) dX8_stand_16 rfl (by decide) (fun hc => absurd hc (by decide)) (fun _ => ?_)
        refine aw_aload_n (npc := 20) rfl dX8_stand_19 rfl ?_
        refine aw_bipush (npc := 22) (v := 8) (by decide) dX8_stand_20 rfl ?_
        refine aw_iload_n (npc := 23) rfl dX8_stand_22 rfl ?_
        refine aw_iaddV (npc := 24) (v := 9) dX8_stand_23 rfl (by decide) ?_
        refine aw_iload_n (npc := 25) rfl dX8_stand_24 rfl ?_
        refine aw_callV (npc := 28) (N := mX8_becomes) (b := 69) (mc := 0) (ms := 0) (A := [.int 9, .int v]) (S := []) (L0 := [some (.ref 69), some (.int 9), some (.int v), none]) dX8_stand_25 rfl km_X8_becomes kk_X8_135 g69 ⟨by decide, rfl⟩ rfl ⟨rfl, by decide⟩ rfl (Nat.le_of_ble_eq_true rfl) (Nat.zero_add _) (Nat.zero_add _) rfl ?_
        refine aw_aload_n (npc := 1) rfl dX8_becomes_0 rfl ?_
        refine aw_get (npc := 4) dX8_becomes_1 rfl kf_X8_9 g69 rfl ?_
        refine aw_iload_n (npc := 5) rfl dX8_becomes_4 rfl ?_
        refine aw_iald (npc := 6) (x := 5) (j := 9) dX8_becomes_5 rfl g70 ⟨by decide, by decide⟩ rfl ?_
        refine aw_istore_n (npc := 7) (L' := [some (.ref 69), some (.int 9), some (.int v), some (.int 5)]) dX8_becomes_6 rfl (by decide) rfl rfl ?_
        refine aw_aload_n (npc := 8) rfl dX8_becomes_7 rfl ?_
        refine aw_get (npc := 11) dX8_becomes_8 rfl kf_X8_9 g69 rfl ?_
        refine aw_iload_n (npc := 12) rfl dX8_becomes_11 rfl ?_
        refine aw_iload_n (npc := 13) rfl dX8_becomes_12 rfl ?_
        refine aw_iast (npc := 14) (j := 9) dX8_becomes_13 rfl g70 ⟨by decide, by decide⟩ (Nat.le_of_ble_eq_true rfl) rfl ?_
        refine aw_iload_n (npc := 15) rfl dX8_becomes_14 rfl ?_
        refine aw_iret rfl dX8_becomes_15 ?_
        refine aw_re (S' := [.int 5]) rfl ?_
        refine aw_goto (npc := 33) dX8_stand_28 (by decide) ?_
        refine aw_iret rfl dX8_stand_33 ?_
        exact fin_m hq (show sp_stand 1 v = 5 from (by unfold sp_stand; first | rfl | (simp only [wif_t hw1, wif_t hw3, wif_same, ite_self]; done) | (simp only [wif_t hw1, wif_t hw3, wif_same, ite_self]; rfl) | (simp [wif_t hw1, wif_t hw3, wif_same]; done)))
      · refine aw_re (S' := [.int 0]) rfl ?_
        refine aw_if_eq (npc := 19) (tgt := 31) dX8_stand_16 rfl (by decide) (fun _ => ?_) (fun hc => absurd (by decide) hc)
        refine aw_ldc (npc := 33) kc_X8_91 dX8_stand_31 rfl ?_
        refine aw_iret rfl dX8_stand_33 ?_
        exact fin_m hq (show sp_stand 1 v = (-1000000001) from (by unfold sp_stand; first | rfl | (simp only [wif_t hw1, wif_f hw3, wif_same, ite_self]; done) | (simp only [wif_t hw1, wif_f hw3, wif_same, ite_self]; rfl) | (simp [wif_t hw1, wif_f hw3, wif_same]; done)))
    · refine aw_re (S' := [.int 1]) rfl ?_
      refine aw_if_eq (npc := 9) (tgt := 31) dX8_stand_6 rfl (by decide) (fun hc => absurd hc (by decide)) (fun _ => ?_)
      refine aw_iload_n (npc := 10) rfl dX8_stand_9 rfl ?_
      refine aw_iconst (npc := 11) (v := 0) (by decide) dX8_stand_10 rfl ?_
      refine aw_bipush (npc := 13) (v := 9) (by decide) dX8_stand_11 rfl ?_
      refine aw_callS (npc := 16) (N := mX8_in) (mc := 0) (ms := 0) (A := [.int v, .int 0, .int 9]) (S := []) (L0 := [some (.int v), some (.int 0), some (.int 9)]) dX8_stand_13 rfl km_X8_in kk_X8_83 rfl ⟨rfl, by decide⟩ rfl (Nat.le_of_ble_eq_true rfl) (Nat.zero_add _) (Nat.zero_add _) rfl ?_
      refine c_X8_in (fun hw4 => ?_) (fun hw4 => ?_)
      · refine aw_re (S' := [.int 1]) rfl ?_
        refine aw_if_eq (npc := 19) (tgt := 31) dX8_stand_16 rfl (by decide) (fun hc => absurd hc (by decide)) (fun _ => ?_)
        refine aw_aload_n (npc := 20) rfl dX8_stand_19 rfl ?_
        refine aw_bipush (npc := 22) (v := 8) (by decide) dX8_stand_20 rfl ?_
        refine aw_iload_n (npc := 23) rfl dX8_stand_22 rfl ?_
        refine aw_iaddV (npc := 24) (v := 10) dX8_stand_23 rfl (by decide) ?_
        refine aw_iload_n (npc := 25) rfl dX8_stand_24 rfl ?_
        refine aw_callV (npc := 28) (N := mX8_becomes) (b := 69) (mc := 0) (ms := 0) (A := [.int 10, .int v]) (S := []) (L0 := [some (.ref 69), some (.int 10), some (.int v), none]) dX8_stand_25 rfl km_X8_becomes kk_X8_135 g69 ⟨by decide, rfl⟩ rfl ⟨rfl, by decide⟩ rfl (Nat.le_of_ble_eq_true rfl) (Nat.zero_add _) (Nat.zero_add _) rfl ?_
        refine aw_aload_n (npc := 1) rfl dX8_becomes_0 rfl ?_
        refine aw_get (npc := 4) dX8_becomes_1 rfl kf_X8_9 g69 rfl ?_
        refine aw_iload_n (npc := 5) rfl dX8_becomes_4 rfl ?_
        refine aw_iald (npc := 6) (x := 5) (j := 10) dX8_becomes_5 rfl g70 ⟨by decide, by decide⟩ rfl ?_
        refine aw_istore_n (npc := 7) (L' := [some (.ref 69), some (.int 10), some (.int v), some (.int 5)]) dX8_becomes_6 rfl (by decide) rfl rfl ?_
        refine aw_aload_n (npc := 8) rfl dX8_becomes_7 rfl ?_
        refine aw_get (npc := 11) dX8_becomes_8 rfl kf_X8_9 g69 rfl ?_
        refine aw_iload_n (npc := 12) rfl dX8_becomes_11 rfl ?_
        refine aw_iload_n (npc := 13) rfl dX8_becomes_12 rfl ?_
        refine aw_iast (npc := 14) (j := 10) dX8_becomes_13 rfl g70 ⟨by decide, by decide⟩ (Nat.le_of_ble_eq_true rfl) rfl ?_
        refine aw_iload_n (npc := 15) rfl dX8_becomes_14 rfl ?_
        refine aw_iret rfl dX8_becomes_15 ?_
        refine aw_re (S' := [.int 5]) rfl ?_
        refine aw_goto (npc := 33) dX8_stand_28 (by decide) ?_
        refine aw_iret rfl dX8_stand_33 ?_
        exact fin_m hq (show sp_stand 2 v = 5 from (by unfold sp_stand; first | rfl | (simp only [wif_t hw1, wif_t hw4, wif_same, ite_self]; done) | (simp only [wif_t hw1, wif_t hw4, wif_same, ite_self]; rfl) | (simp [wif_t hw1, wif_t hw4, wif_same]; done)))
      · refine aw_re (S' := [.int 0]) rfl ?_
        refine aw_if_eq (npc := 19) (tgt := 31) dX8_stand_16 rfl (by decide) (fun _ => ?_) (fun hc => absurd (by decide) hc)
        refine aw_ldc (npc := 33) kc_X8_91 dX8_stand_31 rfl ?_
        refine aw_iret rfl dX8_stand_33 ?_
        exact fin_m hq (show sp_stand 2 v = (-1000000001) from (by unfold sp_stand; first | rfl | (simp only [wif_t hw1, wif_f hw4, wif_same, ite_self]; done) | (simp only [wif_t hw1, wif_f hw4, wif_same, ite_self]; rfl) | (simp [wif_t hw1, wif_f hw4, wif_same]; done)))
    · refine aw_re (S' := [.int 1]) rfl ?_
      refine aw_if_eq (npc := 9) (tgt := 31) dX8_stand_6 rfl (by decide) (fun hc => absurd hc (by decide)) (fun _ => ?_)
      refine aw_iload_n (npc := 10) rfl dX8_stand_9 rfl ?_
      refine aw_iconst (npc := 11) (v := 0) (by decide) dX8_stand_10 rfl ?_
      refine aw_bipush (npc := 13) (v := 9) (by decide) dX8_stand_11 rfl ?_
      refine aw_callS (npc := 16) (N := mX8_in) (mc := 0) (ms := 0) (A := [.int v, .int 0, .int 9]) (S := []) (L0 := [some (.int v), some (.int 0), some (.int 9)]) dX8_stand_13 rfl km_X8_in kk_X8_83 rfl ⟨rfl, by decide⟩ rfl (Nat.le_of_ble_eq_true rfl) (Nat.zero_add _) (Nat.zero_add _) rfl ?_
      refine c_X8_in (fun hw5 => ?_) (fun hw5 => ?_)
      · refine aw_re (S' := [.int 1]) rfl ?_
        refine aw_if_eq (npc := 19) (tgt := 31) dX8_stand_16 rfl (by decide) (fun hc => absurd hc (by decide)) (fun _ => ?_)
        refine aw_aload_n (npc := 20) rfl dX8_stand_19 rfl ?_
        refine aw_bipush (npc := 22) (v := 8) (by decide) dX8_stand_20 rfl ?_
        refine aw_iload_n (npc := 23) rfl dX8_stand_22 rfl ?_
        refine aw_iaddV (npc := 24) (v := 11) dX8_stand_23 rfl (by decide) ?_
        refine aw_iload_n (npc := 25) rfl dX8_stand_24 rfl ?_
        refine aw_callV (npc := 28) (N := mX8_becomes) (b := 69) (mc := 0) (ms := 0) (A := [.int 11, .int v]) (S := []) (L0 := [some (.ref 69), some (.int 11), some (.int v), none]) dX8_stand_25 rfl km_X8_becomes kk_X8_135 g69 ⟨by decide, rfl⟩ rfl ⟨rfl, by decide⟩ rfl (Nat.le_of_ble_eq_true rfl) (Nat.zero_add _) (Nat.zero_add _) rfl ?_
        refine aw_aload_n (npc := 1) rfl dX8_becomes_0 rfl ?_
        refine aw_get (npc := 4) dX8_becomes_1 rfl kf_X8_9 g69 rfl ?_
        refine aw_iload_n (npc := 5) rfl dX8_becomes_4 rfl ?_
        refine aw_iald (npc := 6) (x := 5) (j := 11) dX8_becomes_5 rfl g70 ⟨by decide, by decide⟩ rfl ?_
        refine aw_istore_n (npc := 7) (L' := [some (.ref 69), some (.int 11), some (.int v), some (.int 5)]) dX8_becomes_6 rfl (by decide) rfl rfl ?_
        refine aw_aload_n (npc := 8) rfl dX8_becomes_7 rfl ?_
        refine aw_get (npc := 11) dX8_becomes_8 rfl kf_X8_9 g69 rfl ?_
        refine aw_iload_n (npc := 12) rfl dX8_becomes_11 rfl ?_
        refine aw_iload_n (npc := 13) rfl dX8_becomes_12 rfl ?_
        refine aw_iast (npc := 14) (j := 11) dX8_becomes_13 rfl g70 ⟨by decide, by decide⟩ (Nat.le_of_ble_eq_true rfl) rfl ?_
        refine aw_iload_n (npc := 15) rfl dX8_becomes_14 rfl ?_
        refine aw_iret rfl dX8_becomes_15 ?_
        refine aw_re (S' := [.int 5]) rfl ?_
        refine aw_goto (npc := 33) dX8_stand_28 (by decide) ?_
        refine aw_iret rfl dX8_stand_33 ?_
        exact fin_m hq (show sp_stand 3 v = 5 from (by unfold sp_stand; first | rfl | (simp only [wif_t hw1, wif_t hw5, wif_same, ite_self]; done) | (simp only [wif_t hw1, wif_t hw5, wif_same, ite_self]; rfl) | (simp [wif_t hw1, wif_t hw5, wif_same]; done)))
      · refine aw_re (S' := [.int 0]) rfl ?_
        refine aw_if_eq (npc := 19) (tgt := 31) dX8_stand_16 rfl (by decide) (fun _ => ?_) (fun hc => absurd (by decide) hc)
        refine aw_ldc (npc := 33) kc_X8_91 dX8_stand_31 rfl ?_
        refine aw_iret rfl dX8_stand_33 ?_
        exact fin_m hq (show sp_stand 3 v = (-1000000001) from (by unfold sp_stand; first | rfl | (simp only [wif_t hw1, wif_f hw5, wif_same, ite_self]; done) | (simp only [wif_t hw1, wif_f hw5, wif_same, ite_self]; rfl) | (simp [wif_t hw1, wif_f hw5, wif_same]; done)))
  · refine aw_re (S' := [.int 0]) rfl ?_
    refine aw_if_eq (npc := 9) (tgt := 31) dX8_stand_6 rfl (by decide) (fun _ => ?_) (fun hc => absurd (by decide) hc)
    refine aw_ldc (npc := 33) kc_X8_91 dX8_stand_31 rfl ?_
    refine aw_iret rfl dX8_stand_33 ?_
    exact fin_m hq (show sp_stand t v = (-1000000001) from (by unfold sp_stand; first | rfl | (simp only [wif_f hw1, wif_same, ite_self]; done) | (simp only [wif_f hw1, wif_same, ite_self]; rfl) | (simp [wif_f hw1, wif_same]; done)))
noncomputable def sp_care (s : Int32) (t : Int32) (v : Int32) : Int32 := wif s 0 1 (wif t 0 3 (wif v 0 9 (1) (-1000000001)) (-1000000001)) (-1000000001)
set_option maxHeartbeats 40000000 in
set_option maxRecDepth 100000 in
theorem p_X7_care {X : List Int32} {d rc rs : Nat} {h : am_H} {Q : am_Q} {s : Int32} {t : Int32} {v : Int32} (F : f0_X7 h) (hq : ∀ h9, am_fr 69 h9 h → Q (some (.int (sp_care s t v))) 92 h9) : AW X mX7_care (d + 12) rc rs 0 [some (.ref 0), some (.int s), some (.int t), some (.int v), none] [] 92 h Q := by
  obtain ⟨f0, f1, -, f3, -, -, -, -, -, -, -, -, -, -, -, -, -, -, -, -, -, -, -, -, -, -, -, -, -, -, -, -, -, -, -, -, -, -, -, -, -, -, -, -, -, -, -, -, -, -, -, -, -, -, -, -, -, -, -, -, -, -, -, -, -, -, -, -, -⟩ := F
  refine aw_iload_n (npc := 1) rfl dX7_care_0 rfl ?_
  refine aw_callS (npc := 4) (N := mX7_isSide) (mc := 0) (ms := 0) (A := [.int s]) (S := []) (L0 := [some (.int s)]) dX7_care_1 rfl km_X7_isSide kk_X7_71 rfl ⟨rfl, by decide⟩ rfl (Nat.le_of_ble_eq_true rfl) (Nat.zero_add _) (Nat.zero_add _) rfl ?_
  refine c_X7_isSide (fun hw1 => ?_) (fun hw1 => ?_)
  · rcases wi_c0_1 hw1 with rfl | rfl
    · refine aw_re (S' := [.int 1]) rfl ?_
      refine aw_if_eq (npc := 7) (tgt := 24) dX7_care_4 rfl (by decide) (fun hc => absurd hc (by decide)) (fun _ => ?_)
      refine aw_iload_n (npc := 8) rfl dX7_care_7 rfl ?_
      refine aw_callS (npc := 11) (N := mX7_isTerm) (mc := 0) (ms := 0) (A := [.int t]) (S := []) (L0 := [some (.int t)]) dX7_care_8 rfl km_X7_isTerm kk_X7_124 rfl ⟨rfl, by decide⟩ rfl (Nat.le_of_ble_eq_true rfl) (Nat.zero_add _) (Nat.zero_add _) rfl ?_
      refine c_X7_isTerm (fun hw2 => ?_) (fun hw2 => ?_)
      · rcases wi_c0_3 hw2 with rfl | rfl | rfl | rfl
        · refine aw_re (S' := [.int 1]) rfl ?_
          refine aw_if_eq (npc := 14) (tgt := 24) dX7_care_11 rfl (by decide) (fun hc => absurd hc (by decide)) (fun _ => ?_)
          refine aw_iload_n (npc := 15) rfl dX7_care_14 rfl ?_
          refine aw_iconst (npc := 16) (v := 0) (by decide) dX7_care_15 rfl ?_
          refine aw_bipush (npc := 18) (v := 9) (by decide) dX7_care_16 rfl ?_
          refine aw_callS (npc := 21) (N := mX7_within) (mc := 0) (ms := 0) (A := [.int v, .int 0, .int 9]) (S := []) (L0 := [some (.int v), some (.int 0), some (.int 9)]) dX7_care_18 rfl km_X7_within kk_X7_74 rfl ⟨rfl, by decide⟩ rfl (Nat.le_of_ble_eq_true rfl) (Nat.zero_add _) (Nat.zero_add _) rfl ?_
          refine c_X7_within (fun hw3 => ?_) (fun hw3 => ?_)
          · refine aw_re (S' := [.int 1]) rfl ?_
            refine aw_if_ne (npc := 24) (tgt := 27) dX7_care_21 rfl (by decide) (fun _ => ?_) (fun hc => absurd hc (by decide))
            refine aw_aload_n (npc := 28) rfl dX7_care_27 rfl ?_
            refine aw_get (npc := 31) dX7_care_28 rfl kf_X7_10 f0 rfl ?_
            refine aw_get (npc := 34) dX7_care_31 rfl kf_X7_130 f1 rfl ?_
            refine aw_iload_n (npc := 35) rfl dX7_care_34 rfl ?_
            refine aw_iload_n (npc := 36) rfl dX7_care_35 rfl ?_
            refine aw_callS (npc := 39) (N := mX7_carePlace) (mc := 0) (ms := 0) (A := [.int 0, .int 0]) (S := [.ref 3]) (L0 := [some (.int 0), some (.int 0)]) dX7_care_36 rfl km_X7_carePlace kk_X7_133 rfl ⟨rfl, by decide⟩ rfl (Nat.le_of_ble_eq_true rfl) (Nat.zero_add _) (Nat.zero_add _) rfl ?_
            refine aw_iload_n (npc := 1) rfl dX7_carePlace_0 rfl ?_
            refine aw_iconst (npc := 2) (v := 4) (by decide) dX7_carePlace_1 rfl ?_
            refine aw_imulV (npc := 3) (v := 0) dX7_carePlace_2 rfl (by decide) ?_
            refine aw_iload_n (npc := 4) rfl dX7_carePlace_3 rfl ?_
            refine aw_iaddV (npc := 5) (v := 0) dX7_carePlace_4 rfl (by decide) ?_
            refine aw_iret rfl dX7_carePlace_5 ?_
            refine aw_re (S' := [.int 0, .ref 3]) rfl ?_
            refine aw_iald (npc := 40) (x := 1) (j := 0) dX7_care_39 rfl f3 ⟨by decide, by decide⟩ rfl ?_
            refine aw_istore (npc := 42) (L' := [some (.ref 0), some (.int 0), some (.int 0), some (.int v), some (.int 1)]) dX7_care_40 rfl (by decide) rfl rfl ?_
            refine aw_aload_n (npc := 43) rfl dX7_care_42 rfl ?_
            refine aw_get (npc := 46) dX7_care_43 rfl kf_X7_10 f0 rfl ?_
            refine aw_get (npc := 49) dX7_care_46 rfl kf_X7_130 f1 rfl ?_
            refine aw_iload_n (npc := 50) rfl dX7_care_49 rfl ?_
            refine aw_iload_n (npc := 51) rfl dX7_care_50 rfl ?_
            refine aw_callS (npc := 54) (N := mX7_carePlace) (mc := 0) (ms := 0) (A := [.int 0, .int 0]) (S := [.ref 3]) (L0 := [some (.int 0), some (.int 0)]) dX7_care_51 rfl km_X7_carePlace kk_X7_133 rfl ⟨rfl, by decide⟩ rfl (Nat.le_of_ble_eq_true rfl) (Nat.zero_add _) (Nat.zero_add _) rfl ?_
            refine aw_iload_n (npc := 1) rfl dX7_carePlace_0 rfl ?_
            refine aw_iconst (npc := 2) (v := 4) (by decide) dX7_carePlace_1 rfl ?_
            refine aw_imulV (npc := 3) (v := 0) dX7_carePlace_2 rfl (by decide) ?_
            refine aw_iload_n (npc := 4) rfl dX7_carePlace_3 rfl ?_
            refine aw_iaddV (npc := 5) (v := 0) dX7_carePlace_4 rfl (by decide) ?_
            refine aw_iret rfl dX7_carePlace_5 ?_
            refine aw_re (S' := [.int 0, .ref 3]) rfl ?_
            refine aw_iload_n (npc := 55) rfl dX7_care_54 rfl ?_
            refine aw_iast (npc := 56) (j := 0) dX7_care_55 rfl f3 ⟨by decide, by decide⟩ (Nat.le_of_ble_eq_true rfl) (show _ = am_up _ 3 (.inl (0, [v, 1, 1, 1, 1, 1, 1, 1])) from rfl) ?_
            refine aw_iload (npc := 58) rfl dX7_care_56 rfl ?_
            refine aw_iret rfl dX7_care_58 ?_
            exact fin_c hq (am_frU (by decide) am_fr0) (show sp_care 0 0 v = 1 from (by unfold sp_care; first | rfl | (simp only [wif_t hw1, wif_t hw2, wif_t hw3, wif_same, ite_self]; done) | (simp only [wif_t hw1, wif_t hw2, wif_t hw3, wif_same, ite_self]; rfl) | (simp [wif_t hw1, wif_t hw2, wif_t hw3, wif_same]; done)))
          · refine aw_re (S' := [.int 0]) rfl ?_
            refine aw_if_ne (npc := 24) (tgt := 27) dX7_care_21 rfl (by decide) (fun hc => absurd (by decide) hc) (fun _ => ?_)
            refine aw_ldc (npc := 26) kc_X7_78 dX7_care_24 rfl ?_
            refine aw_iret rfl dX7_care_26 ?_
            exact fin_c hq am_fr0 (show sp_care 0 0 v = (-1000000001) from (by unfold sp_care; first | rfl | (simp only [wif_t hw1, wif_t hw2, wif_f hw3, wif_same, ite_self]; done) | (simp only [wif_t hw1, wif_t hw2, wif_f hw3, wif_same, ite_self]; rfl) | (simp [wif_t hw1, wif_t hw2, wif_f hw3, wif_same]; done)))
        · refine aw_re (S' := [.int 1]) rfl ?_
          refine aw_if_eq (npc := 14) (tgt := 24) dX7_care_11 rfl (by decide) (fun hc => absurd hc (by decide)) (fun _ => ?_)
          refine aw_iload_n (npc := 15) rfl dX7_care_14 rfl ?_
          refine aw_iconst (npc := 16) (v := 0) (by decide) dX7_care_15 rfl ?_
          refine aw_bipush (npc := 18) (v := 9) (by decide) dX7_care_16 rfl ?_
          refine aw_callS (npc := 21) (N := mX7_within) (mc := 0) (ms := 0) (A := [.int v, .int 0, .int 9]) (S := []) (L0 := [some (.int v), some (.int 0), some (.int 9)]) dX7_care_18 rfl km_X7_within kk_X7_74 rfl ⟨rfl, by decide⟩ rfl (Nat.le_of_ble_eq_true rfl) (Nat.zero_add _) (Nat.zero_add _) rfl ?_
          refine c_X7_within (fun hw4 => ?_) (fun hw4 => ?_)
          · refine aw_re (S' := [.int 1]) rfl ?_
            refine aw_if_ne (npc := 24) (tgt := 27) dX7_care_21 rfl (by decide) (fun _ => ?_) (fun hc => absurd hc (by decide))
            refine aw_aload_n (npc := 28) rfl dX7_care_27 rfl ?_
            refine aw_get (npc := 31) dX7_care_28 rfl kf_X7_10 f0 rfl ?_
            refine aw_get (npc := 34) dX7_care_31 rfl kf_X7_130 f1 rfl ?_
            refine aw_iload_n (npc := 35) rfl dX7_care_34 rfl ?_
            refine aw_iload_n (npc := 36) rfl dX7_care_35 rfl ?_
            refine aw_callS (npc := 39) (N := mX7_carePlace) (mc := 0) (ms := 0) (A := [.int 0, .int 1]) (S := [.ref 3]) (L0 := [some (.int 0), some (.int 1)]) dX7_care_36 rfl km_X7_carePlace kk_X7_133 rfl ⟨rfl, by decide⟩ rfl (Nat.le_of_ble_eq_true rfl) (Nat.zero_add _) (Nat.zero_add _) rfl ?_
            refine aw_iload_n (npc := 1) rfl dX7_carePlace_0 rfl ?_
            refine aw_iconst (npc := 2) (v := 4) (by decide) dX7_carePlace_1 rfl ?_
            refine aw_imulV (npc := 3) (v := 0) dX7_carePlace_2 rfl (by decide) ?_
            refine aw_iload_n (npc := 4) rfl dX7_carePlace_3 rfl ?_
            refine aw_iaddV (npc := 5) (v := 1) dX7_carePlace_4 rfl (by decide) ?_
            refine aw_iret rfl dX7_carePlace_5 ?_
            refine aw_re (S' := [.int 1, .ref 3]) rfl ?_
            refine aw_iald (npc := 40) (x := 1) (j := 1) dX7_care_39 rfl f3 ⟨by decide, by decide⟩ rfl ?_
            refine aw_istore (npc := 42) (L' := [some (.ref 0), some (.int 0), some (.int 1), some (.int v), some (.int 1)]) dX7_care_40 rfl (by decide) rfl rfl ?_
            refine aw_aload_n (npc := 43) rfl dX7_care_42 rfl ?_
            refine aw_get (npc := 46) dX7_care_43 rfl kf_X7_10 f0 rfl ?_
            refine aw_get (npc := 49) dX7_care_46 rfl kf_X7_130 f1 rfl ?_
            refine aw_iload_n (npc := 50) rfl dX7_care_49 rfl ?_
            refine aw_iload_n (npc := 51) rfl dX7_care_50 rfl ?_
            refine aw_callS (npc := 54) (N := mX7_carePlace) (mc := 0) (ms := 0) (A := [.int 0, .int 1]) (S := [.ref 3]) (L0 := [some (.int 0), some (.int 1)]) dX7_care_51 rfl km_X7_carePlace kk_X7_133 rfl ⟨rfl, by decide⟩ rfl (Nat.le_of_ble_eq_true rfl) (Nat.zero_add _) (Nat.zero_add _) rfl ?_
            refine aw_iload_n (npc := 1) rfl dX7_carePlace_0 rfl ?_
            refine aw_iconst (npc := 2) (v := 4) (by decide) dX7_carePlace_1 rfl ?_
            refine aw_imulV (npc := 3) (v := 0) dX7_carePlace_2 rfl (by decide) ?_
            refine aw_iload_n (npc := 4) rfl dX7_carePlace_3 rfl ?_
            refine aw_iaddV (npc := 5) (v := 1) dX7_carePlace_4 rfl (by decide) ?_
            refine aw_iret rfl dX7_carePlace_5 ?_
            refine aw_re (S' := [.int 1, .ref 3]) rfl ?_
            refine aw_iload_n (npc := 55) rfl dX7_care_54 rfl ?_
            refine aw_iast (npc := 56) (j := 1) dX7_care_55 rfl f3 ⟨by decide, by decide⟩ (Nat.le_of_ble_eq_true rfl) (show _ = am_up _ 3 (.inl (0, [1, v, 1, 1, 1, 1, 1, 1])) from rfl) ?_
            refine aw_iload (npc := 58) rfl dX7_care_56 rfl ?_
            refine aw_iret rfl dX7_care_58 ?_
            exact fin_c hq (am_frU (by decide) am_fr0) (show sp_care 0 1 v = 1 from (by unfold sp_care; first | rfl | (simp only [wif_t hw1, wif_t hw2, wif_t hw4, wif_same, ite_self]; done) | (simp only [wif_t hw1, wif_t hw2, wif_t hw4, wif_same, ite_self]; rfl) | (simp [wif_t hw1, wif_t hw2, wif_t hw4, wif_same]; done)))
          · refine aw_re (S' := [.int 0]) rfl ?_
            refine aw_if_ne (npc := 24) (tgt := 27) dX7_care_21 rfl (by decide) (fun hc => absurd (by decide) hc) (fun _ => ?_)
            refine aw_ldc (npc := 26) kc_X7_78 dX7_care_24 rfl ?_
            refine aw_iret rfl dX7_care_26 ?_
            exact fin_c hq am_fr0 (show sp_care 0 1 v = (-1000000001) from (by unfold sp_care; first | rfl | (simp only [wif_t hw1, wif_t hw2, wif_f hw4, wif_same, ite_self]; done) | (simp only [wif_t hw1, wif_t hw2, wif_f hw4, wif_same, ite_self]; rfl) | (simp [wif_t hw1, wif_t hw2, wif_f hw4, wif_same]; done)))
        · refine aw_re (S' := [.int 1]) rfl ?_
          refine aw_if_eq (npc := 14) (tgt := 24) dX7_care_11 rfl (by decide) (fun hc => absurd hc (by decide)) (fun _ => ?_)
          refine aw_iload_n (npc := 15) rfl dX7_care_14 rfl ?_
          refine aw_iconst (npc := 16) (v := 0) (by decide) dX7_care_15 rfl ?_
          refine aw_bipush (npc := 18) (v := 9) (by decide) dX7_care_16 rfl ?_
          refine aw_callS (npc := 21) (N := mX7_within) (mc := 0) (ms := 0) (A := [.int v, .int 0, .int 9]) (S := []) (L0 := [some (.int v), some (.int 0), some (.int 9)]) dX7_care_18 rfl km_X7_within kk_X7_74 rfl ⟨rfl, by decide⟩ rfl (Nat.le_of_ble_eq_true rfl) (Nat.zero_add _) (Nat.zero_add _) rfl ?_
          refine c_X7_within (fun hw5 => ?_) (fun hw5 => ?_)
          · refine aw_re (S' := [.int 1]) rfl ?_
            refine aw_if_ne (npc := 24) (tgt := 27) dX7_care_21 rfl (by decide) (fun _ => ?_) (fun hc => absurd hc (by decide))
            refine aw_aload_n (npc := 28) rfl dX7_care_27 rfl ?_
            refine aw_get (npc := 31) dX7_care_28 rfl kf_X7_10 f0 rfl ?_
            refine aw_get (npc := 34) dX7_care_31 rfl kf_X7_130 f1 rfl ?_
            refine aw_iload_n (npc := 35) rfl dX7_care_34 rfl ?_
            refine aw_iload_n (npc := 36) rfl dX7_care_35 rfl ?_
            refine aw_callS (npc := 39) (N := mX7_carePlace) (mc := 0) (ms := 0) (A := [.int 0, .int 2]) (S := [.ref 3]) (L0 := [some (.int 0), some (.int 2)]) dX7_care_36 rfl km_X7_carePlace kk_X7_133 rfl ⟨rfl, by decide⟩ rfl (Nat.le_of_ble_eq_true rfl) (Nat.zero_add _) (Nat.zero_add _) rfl ?_
            refine aw_iload_n (npc := 1) rfl dX7_carePlace_0 rfl ?_
            refine aw_iconst (npc := 2) (v := 4) (by decide) dX7_carePlace_1 rfl ?_
            refine aw_imulV (npc := 3) (v := 0) dX7_carePlace_2 rfl (by decide) ?_
            refine aw_iload_n (npc := 4) rfl dX7_carePlace_3 rfl ?_
            refine aw_iaddV (npc := 5) (v := 2) dX7_carePlace_4 rfl (by decide) ?_
            refine aw_iret rfl dX7_carePlace_5 ?_
            refine aw_re (S' := [.int 2, .ref 3]) rfl ?_
            refine aw_iald (npc := 40) (x := 1) (j := 2) dX7_care_39 rfl f3 ⟨by decide, by decide⟩ rfl ?_
            refine aw_istore (npc := 42) (L' := [some (.ref 0), some (.int 0), some (.int 2), some (.int v), some (.int 1)]) dX7_care_40 rfl (by decide) rfl rfl ?_
            refine aw_aload_n (npc := 43) rfl dX7_care_42 rfl ?_
            refine aw_get (npc := 46) dX7_care_43 rfl kf_X7_10 f0 rfl ?_
            refine aw_get (npc := 49) dX7_care_46 rfl kf_X7_130 f1 rfl ?_
            refine aw_iload_n (npc := 50) rfl dX7_care_49 rfl ?_
            refine aw_iload_n (npc := 51) rfl dX7_care_50 rfl ?_
            refine aw_callS (npc := 54) (N := mX7_carePlace) (mc := 0) (ms := 0) (A := [.int 0, .int 2]) (S := [.ref 3]) (L0 := [some (.int 0), some (.int 2)]) dX7_care_51 rfl km_X7_carePlace kk_X7_133 rfl ⟨rfl, by decide⟩ rfl (Nat.le_of_ble_eq_true rfl) (Nat.zero_add _) (Nat.zero_add _) rfl ?_
            refine aw_iload_n (npc := 1) rfl dX7_carePlace_0 rfl ?_
            refine aw_iconst (npc := 2) (v := 4) (by decide) dX7_carePlace_1 rfl ?_
            refine aw_imulV (npc := 3) (v := 0) dX7_carePlace_2 rfl (by decide) ?_
            refine aw_iload_n (npc := 4) rfl dX7_carePlace_3 rfl ?_
            refine aw_iaddV (npc := 5) (v := 2) dX7_carePlace_4 rfl (by decide) ?_
            refine aw_iret rfl dX7_carePlace_5 ?_
            refine aw_re (S' := [.int 2, .ref 3]) rfl ?_
            refine aw_iload_n (npc := 55) rfl dX7_care_54 rfl ?_
            refine aw_iast (npc := 56) (j := 2) dX7_care_55 rfl f3 ⟨by decide, by decide⟩ (Nat.le_of_ble_eq_true rfl) (show _ = am_up _ 3 (.inl (0, [1, 1, v, 1, 1, 1, 1, 1])) from rfl) ?_
            refine aw_iload (npc := 58) rfl dX7_care_56 rfl ?_
            refine aw_iret rfl dX7_care_58 ?_
            exact fin_c hq (am_frU (by decide) am_fr0) (show sp_care 0 2 v = 1 from (by unfold sp_care; first | rfl | (simp only [wif_t hw1, wif_t hw2, wif_t hw5, wif_same, ite_self]; done) | (simp only [wif_t hw1, wif_t hw2, wif_t hw5, wif_same, ite_self]; rfl) | (simp [wif_t hw1, wif_t hw2, wif_t hw5, wif_same]; done)))
          · refine aw_re (S' := [.int 0]) rfl ?_
            refine aw_if_ne (npc := 24) (tgt := 27) dX7_care_21 rfl (by decide) (fun hc => absurd (by decide) hc) (fun _ => ?_)
            refine aw_ldc (npc := 26) kc_X7_78 dX7_care_24 rfl ?_
            refine aw_iret rfl dX7_care_26 ?_
            exact fin_c hq am_fr0 (show sp_care 0 2 v = (-1000000001) from (by unfold sp_care; first | rfl | (simp only [wif_t hw1, wif_t hw2, wif_f hw5, wif_same, ite_self]; done) | (simp only [wif_t hw1, wif_t hw2, wif_f hw5, wif_same, ite_self]; rfl) | (simp [wif_t hw1, wif_t hw2, wif_f hw5, wif_same]; done)))
        · refine aw_re (S' := [.int 1]) rfl ?_
          refine aw_if_eq (npc := 14) (tgt := 24) dX7_care_11 rfl (by decide) (fun hc => absurd hc (by decide)) (fun _ => ?_)
          refine aw_iload_n (npc := 15) rfl dX7_care_14 rfl ?_
          refine aw_iconst (npc := 16) (v := 0) (by decide) dX7_care_15 rfl ?_
          refine aw_bipush (npc := 18) (v := 9) (by decide) dX7_care_16 rfl ?_
          refine aw_callS (npc := 21) (N := mX7_within) (mc := 0) (ms := 0) (A := [.int v, .int 0, .int 9]) (S := []) (L0 := [some (.int v), some (.int 0), some (.int 9)]) dX7_care_18 rfl km_X7_within kk_X7_74 rfl ⟨rfl, by decide⟩ rfl (Nat.le_of_ble_eq_true rfl) (Nat.zero_add _) (Nat.zero_add _) rfl ?_
          refine c_X7_within (fun hw6 => ?_) (fun hw6 => ?_)
          · refine aw_re (S' := [.int 1]) rfl ?_
            refine aw_if_ne (npc := 24) (tgt := 27) dX7_care_21 rfl (by decide) (fun _ => ?_) (fun hc => absurd hc (by decide))
            refine aw_aload_n (npc := 28) rfl dX7_care_27 rfl ?_
            refine aw_get (npc := 31) dX7_care_28 rfl kf_X7_10 f0 rfl ?_
            refine aw_get (npc := 34) dX7_care_31 rfl kf_X7_130 f1 rfl ?_
            refine aw_iload_n (npc := 35) rfl dX7_care_34 rfl ?_
            refine aw_iload_n (npc := 36) rfl dX7_care_35 rfl ?_
            refine aw_callS (npc := 39) (N := mX7_carePlace) (mc := 0) (ms := 0) (A := [.int 0, .int 3]) (S := [.ref 3]) (L0 := [some (.int 0), some (.int 3)]) dX7_care_36 rfl km_X7_carePlace kk_X7_133 rfl ⟨rfl, by decide⟩ rfl (Nat.le_of_ble_eq_true rfl) (Nat.zero_add _) (Nat.zero_add _) rfl ?_
            refine aw_iload_n (npc := 1) rfl dX7_carePlace_0 rfl ?_
            refine aw_iconst (npc := 2) (v := 4) (by decide) dX7_carePlace_1 rfl ?_
            refine aw_imulV (npc := 3) (v := 0) dX7_carePlace_2 rfl (by decide) ?_
            refine aw_iload_n (npc := 4) rfl dX7_carePlace_3 rfl ?_
            refine aw_iaddV (npc := 5) (v := 3) dX7_carePlace_4 rfl (by decide) ?_
            refine aw_iret rfl dX7_carePlace_5 ?_
            refine aw_re (S' := [.int 3, .ref 3]) rfl ?_
            refine aw_iald (npc := 40) (x := 1) (j := 3) dX7_care_39 rfl f3 ⟨by decide, by decide⟩ rfl ?_
            refine aw_istore (npc := 42) (L' := [some (.ref 0), some (.int 0), some (.int 3), some (.int v), some (.int 1)]) dX7_care_40 rfl (by decide) rfl rfl ?_
            refine aw_aload_n (npc := 43) rfl dX7_care_42 rfl ?_
            refine aw_get (npc := 46) dX7_care_43 rfl kf_X7_10 f0 rfl ?_
            refine aw_get (npc := 49) dX7_care_46 rfl kf_X7_130 f1 rfl ?_
            refine aw_iload_n (npc := 50) rfl dX7_care_49 rfl ?_
            refine aw_iload_n (npc := 51) rfl dX7_care_50 rfl ?_
            refine aw_callS (npc := 54) (N := mX7_carePlace) (mc := 0) (ms := 0) (A := [.int 0, .int 3]) (S := [.ref 3]) (L0 := [some (.int 0), some (.int 3)]) dX7_care_51 rfl km_X7_carePlace kk_X7_133 rfl ⟨rfl, by decide⟩ rfl (Nat.le_of_ble_eq_true rfl) (Nat.zero_add _) (Nat.zero_add _) rfl ?_
            refine aw_iload_n (npc := 1) rfl dX7_carePlace_0 rfl ?_
            refine aw_iconst (npc := 2) (v := 4) (by decide) dX7_carePlace_1 rfl ?_
            refine aw_imulV (npc := 3) (v := 0) dX7_carePlace_2 rfl (by decide) ?_
            refine aw_iload_n (npc := 4) rfl dX7_carePlace_3 rfl ?_
            refine aw_iaddV (npc := 5) (v := 3) dX7_carePlace_4 rfl (by decide) ?_
            refine aw_iret rfl dX7_carePlace_5 ?_
            refine aw_re (S' := [.int 3, .ref 3]) rfl ?_
            refine aw_iload_n (npc := 55) rfl dX7_care_54 rfl ?_
            refine aw_iast (npc := 56) (j := 3) dX7_care_55 rfl f3 ⟨by decide, by decide⟩ (Nat.le_of_ble_eq_true rfl) (show _ = am_up _ 3 (.inl (0, [1, 1, 1, v, 1, 1, 1, 1])) from rfl) ?_
            refine aw_iload (npc := 58) rfl dX7_care_56 rfl ?_
            refine aw_iret rfl dX7_care_58 ?_
            exact fin_c hq (am_frU (by decide) am_fr0) (show sp_care 0 3 v = 1 from (by unfold sp_care; first | rfl | (simp only [wif_t hw1, wif_t hw2, wif_t hw6, wif_same, ite_self]; done) | (simp only [wif_t hw1, wif_t hw2, wif_t hw6, wif_same, ite_self]; rfl) | (simp [wif_t hw1, wif_t hw2, wif_t hw6, wif_same]; done)))
          · refine aw_re (S' := [.int 0]) rfl ?_
            refine aw_if_ne (npc := 24) (tgt := 27) dX7_care_21 rfl (by decide) (fun hc => absurd (by decide) hc) (fun _ => ?_)
            refine aw_ldc (npc := 26) kc_X7_78 dX7_care_24 rfl ?_
            refine aw_iret rfl dX7_care_26 ?_
            exact fin_c hq am_fr0 (show sp_care 0 3 v = (-1000000001) from (by unfold sp_care; first | rfl | (simp only [wif_t hw1, wif_t hw2, wif_f hw6, wif_same, ite_self]; done) | (simp only [wif_t hw1, wif_t hw2, wif_f hw6, wif_same, ite_self]; rfl) | (simp [wif_t hw1, wif_t hw2, wif_f hw6, wif_same]; done)))
      · refine aw_re (S' := [.int 0]) rfl ?_
        refine aw_if_eq (npc := 14) (tgt := 24) dX7_care_11 rfl (by decide) (fun _ => ?_) (fun hc => absurd (by decide) hc)
        refine aw_ldc (npc := 26) kc_X7_78 dX7_care_24 rfl ?_
        refine aw_iret rfl dX7_care_26 ?_
        exact fin_c hq am_fr0 (show sp_care 0 t v = (-1000000001) from (by unfold sp_care; first | rfl | (simp only [wif_t hw1, wif_f hw2, wif_same, ite_self]; done) | (simp only [wif_t hw1, wif_f hw2, wif_same, ite_self]; rfl) | (simp [wif_t hw1, wif_f hw2, wif_same]; done)))
    · refine aw_re (S' := [.int 1]) rfl ?_
      refine aw_if_eq (npc := 7) (tgt := 24) dX7_care_4 rfl (by decide) (fun hc => absurd hc (by decide)) (fun _ => ?_)
      refine aw_iload_n (npc := 8) rfl dX7_care_7 rfl ?_
      refine aw_callS (npc := 11) (N := mX7_isTerm) (mc := 0) (ms := 0) (A := [.int t]) (S := []) (L0 := [some (.int t)]) dX7_care_8 rfl km_X7_isTerm kk_X7_124 rfl ⟨rfl, by decide⟩ rfl (Nat.le_of_ble_eq_true rfl) (Nat.zero_add _) (Nat.zero_add _) rfl ?_
      refine c_X7_isTerm (fun hw7 => ?_) (fun hw7 => ?_)
      · rcases wi_c0_3 hw7 with rfl | rfl | rfl | rfl
        · refine aw_re (S' := [.int 1]) rfl ?_
          refine aw_if_eq (npc := 14) (tgt := 24) dX7_care_11 rfl (by decide) (fun hc => absurd hc (by decide)) (fun _ => ?_)
          refine aw_iload_n (npc := 15) rfl dX7_care_14 rfl ?_
          refine aw_iconst (npc := 16) (v := 0) (by decide) dX7_care_15 rfl ?_
          refine aw_bipush (npc := 18) (v := 9) (by decide) dX7_care_16 rfl ?_
          refine aw_callS (npc := 21) (N := mX7_within) (mc := 0) (ms := 0) (A := [.int v, .int 0, .int 9]) (S := []) (L0 := [some (.int v), some (.int 0), some (.int 9)]) dX7_care_18 rfl km_X7_within kk_X7_74 rfl ⟨rfl, by decide⟩ rfl (Nat.le_of_ble_eq_true rfl) (Nat.zero_add _) (Nat.zero_add _) rfl ?_
          refine c_X7_within (fun hw8 => ?_) (fun hw8 => ?_)
          · refine aw_re (S' := [.int 1]) rfl ?_
            refine aw_if_ne (npc := 24) (tgt := 27) dX7_care_21 rfl (by decide) (fun _ => ?_) (fun hc => absurd hc (by decide))
            refine aw_aload_n (npc := 28) rfl dX7_care_27 rfl ?_
            refine aw_get (npc := 31) dX7_care_28 rfl kf_X7_10 f0 rfl ?_
            refine aw_get (npc := 34) dX7_care_31 rfl kf_X7_130 f1 rfl ?_
            refine aw_iload_n (npc := 35) rfl dX7_care_34 rfl ?_
            refine aw_iload_n (npc := 36) rfl dX7_care_35 rfl ?_
            refine aw_callS (npc := 39) (N := mX7_carePlace) (mc := 0) (ms := 0) (A := [.int 1, .int 0]) (S := [.ref 3]) (L0 := [some (.int 1), some (.int 0)]) dX7_care_36 rfl km_X7_carePlace kk_X7_133 rfl ⟨rfl, by decide⟩ rfl (Nat.le_of_ble_eq_true rfl) (Nat.zero_add _) (Nat.zero_add _) rfl ?_
            refine aw_iload_n (npc := 1) rfl dX7_carePlace_0 rfl ?_
            refine aw_iconst (npc := 2) (v := 4) (by decide) dX7_carePlace_1 rfl ?_
            refine aw_imulV (npc := 3) (v := 4) dX7_carePlace_2 rfl (by decide) ?_
            refine aw_iload_n (npc := 4) rfl dX7_carePlace_3 rfl ?_
            refine aw_iaddV (npc := 5) (v := 4) dX7_carePlace_4 rfl (by decide) ?_
            refine aw_iret rfl dX7_carePlace_5 ?_
            refine aw_re (S' := [.int 4, .ref 3]) rfl ?_
            refine aw_iald (npc := 40) (x := 1) (j := 4) dX7_care_39 rfl f3 ⟨by decide, by decide⟩ rfl ?_
            refine aw_istore (npc := 42) (L' := [some (.ref 0), some (.int 1), some (.int 0), some (.int v), some (.int 1)]) dX7_care_40 rfl (by decide) rfl rfl ?_
            refine aw_aload_n (npc := 43) rfl dX7_care_42 rfl ?_
            refine aw_get (npc := 46) dX7_care_43 rfl kf_X7_10 f0 rfl ?_
            refine aw_get (npc := 49) dX7_care_46 rfl kf_X7_130 f1 rfl ?_
            refine aw_iload_n (npc := 50) rfl dX7_care_49 rfl ?_
            refine aw_iload_n (npc := 51) rfl dX7_care_50 rfl ?_
            refine aw_callS (npc := 54) (N := mX7_carePlace) (mc := 0) (ms := 0) (A := [.int 1, .int 0]) (S := [.ref 3]) (L0 := [some (.int 1), some (.int 0)]) dX7_care_51 rfl km_X7_carePlace kk_X7_133 rfl ⟨rfl, by decide⟩ rfl (Nat.le_of_ble_eq_true rfl) (Nat.zero_add _) (Nat.zero_add _) rfl ?_
            refine aw_iload_n (npc := 1) rfl dX7_carePlace_0 rfl ?_
            refine aw_iconst (npc := 2) (v := 4) (by decide) dX7_carePlace_1 rfl ?_
            refine aw_imulV (npc := 3) (v := 4) dX7_carePlace_2 rfl (by decide) ?_
            refine aw_iload_n (npc := 4) rfl dX7_carePlace_3 rfl ?_
            refine aw_iaddV (npc := 5) (v := 4) dX7_carePlace_4 rfl (by decide) ?_
            refine aw_iret rfl dX7_carePlace_5 ?_
            refine aw_re (S' := [.int 4, .ref 3]) rfl ?_
            refine aw_iload_n (npc := 55) rfl dX7_care_54 rfl ?_
            refine aw_iast (npc := 56) (j := 4) dX7_care_55 rfl f3 ⟨by decide, by decide⟩ (Nat.le_of_ble_eq_true rfl) (show _ = am_up _ 3 (.inl (0, [1, 1, 1, 1, v, 1, 1, 1])) from rfl) ?_
            refine aw_iload (npc := 58) rfl dX7_care_56 rfl ?_
            refine aw_iret rfl dX7_care_58 ?_
            exact fin_c hq (am_frU (by decide) am_fr0) (show sp_care 1 0 v = 1 from (by unfold sp_care; first | rfl | (simp only [wif_t hw1, wif_t hw7, wif_t hw8, wif_same, ite_self]; done) | (simp only [wif_t hw1, wif_t hw7, wif_t hw8, wif_same, ite_self]; rfl) | (simp [wif_t hw1, wif_t hw7, wif_t hw8, wif_same]; done)))
          · refine aw_re (S' := [.int 0]) rfl ?_
            refine aw_if_ne (npc := 24) (tgt := 27) dX7_care_21 rfl (by decide) (fun hc => absurd (by decide) hc) (fun _ => ?_)
            refine aw_ldc (npc := 26) kc_X7_78 dX7_care_24 rfl ?_
            refine aw_iret rfl dX7_care_26 ?_
            exact fin_c hq am_fr0 (show sp_care 1 0 v = (-1000000001) from (by unfold sp_care; first | rfl | (simp only [wif_t hw1, wif_t hw7, wif_f hw8, wif_same, ite_self]; done) | (simp only [wif_t hw1, wif_t hw7, wif_f hw8, wif_same, ite_self]; rfl) | (simp [wif_t hw1, wif_t hw7, wif_f hw8, wif_same]; done)))
        · refine aw_re (S' := [.int 1]) rfl ?_
          refine aw_if_eq (npc := 14) (tgt := 24) dX7_care_11 rfl (by decide) (fun hc => absurd hc (by decide)) (fun _ => ?_)
          refine aw_iload_n (npc := 15) rfl dX7_care_14 rfl ?_
          refine aw_iconst (npc := 16) (v := 0) (by decide) dX7_care_15 rfl ?_
          refine aw_bipush (npc := 18) (v := 9) (by decide) dX7_care_16 rfl ?_
          refine aw_callS (npc := 21) (N := mX7_within) (mc := 0) (ms := 0) (A := [.int v, .int 0, .int 9]) (S := []) (L0 := [some (.int v), some (.int 0), some (.int 9)]) dX7_care_18 rfl km_X7_within kk_X7_74 rfl ⟨rfl, by decide⟩ rfl (Nat.le_of_ble_eq_true rfl) (Nat.zero_add _) (Nat.zero_add _) rfl ?_
          refine c_X7_within (fun hw9 => ?_) (fun hw9 => ?_)
          · refine aw_re (S' := [.int 1]) rfl ?_
            refine aw_if_ne (npc := 24) (tgt := 27) dX7_care_21 rfl (by decide) (fun _ => ?_) (fun hc => absurd hc (by decide))
            refine aw_aload_n (npc := 28) rfl dX7_care_27 rfl ?_
            refine aw_get (npc := 31) dX7_care_28 rfl kf_X7_10 f0 rfl ?_
            refine aw_get (npc := 34) dX7_care_31 rfl kf_X7_130 f1 rfl ?_
            refine aw_iload_n (npc := 35) rfl dX7_care_34 rfl ?_
            refine aw_iload_n (npc := 36) rfl dX7_care_35 rfl ?_
            refine aw_callS (npc := 39) (N := mX7_carePlace) (mc := 0) (ms := 0) (A := [.int 1, .int 1]) (S := [.ref 3]) (L0 := [some (.int 1), some (.int 1)]) dX7_care_36 rfl km_X7_carePlace kk_X7_133 rfl ⟨rfl, by decide⟩ rfl (Nat.le_of_ble_eq_true rfl) (Nat.zero_add _) (Nat.zero_add _) rfl ?_
            refine aw_iload_n (npc := 1) rfl dX7_carePlace_0 rfl ?_
            refine aw_iconst (npc := 2) (v := 4) (by decide) dX7_carePlace_1 rfl ?_
            refine aw_imulV (npc := 3) (v := 4) dX7_carePlace_2 rfl (by decide) ?_
            refine aw_iload_n (npc := 4) rfl dX7_carePlace_3 rfl ?_
            refine aw_iaddV (npc := 5) (v := 5) dX7_carePlace_4 rfl (by decide) ?_
            refine aw_iret rfl dX7_carePlace_5 ?_
            refine aw_re (S' := [.int 5, .ref 3]) rfl ?_
            refine aw_iald (npc := 40) (x := 1) (j := 5) dX7_care_39 rfl f3 ⟨by decide, by decide⟩ rfl ?_
            refine aw_istore (npc := 42) (L' := [some (.ref 0), some (.int 1), some (.int 1), some (.int v), some (.int 1)]) dX7_care_40 rfl (by decide) rfl rfl ?_
            refine aw_aload_n (npc := 43) rfl dX7_care_42 rfl ?_
            refine aw_get (npc := 46) dX7_care_43 rfl kf_X7_10 f0 rfl ?_
            refine aw_get (npc := 49) dX7_care_46 rfl kf_X7_130 f1 rfl ?_
            refine aw_iload_n (npc := 50) rfl dX7_care_49 rfl ?_
            refine aw_iload_n (npc := 51) rfl dX7_care_50 rfl ?_
            refine aw_callS (npc := 54) (N := mX7_carePlace) (mc := 0) (ms := 0) (A := [.int 1, .int 1]) (S := [.ref 3]) (L0 := [some (.int 1), some (.int 1)]) dX7_care_51 rfl km_X7_carePlace kk_X7_133 rfl ⟨rfl, by decide⟩ rfl (Nat.le_of_ble_eq_true rfl) (Nat.zero_add _) (Nat.zero_add _) rfl ?_
            refine aw_iload_n (npc := 1) rfl dX7_carePlace_0 rfl ?_
            refine aw_iconst (npc := 2) (v := 4) (by decide) dX7_carePlace_1 rfl ?_
            refine aw_imulV (npc := 3) (v := 4) dX7_carePlace_2 rfl (by decide) ?_
            refine aw_iload_n (npc := 4) rfl dX7_carePlace_3 rfl ?_
            refine aw_iaddV (npc := 5) (v := 5) dX7_carePlace_4 rfl (by decide) ?_
            refine aw_iret rfl dX7_carePlace_5 ?_
            refine aw_re (S' := [.int 5, .ref 3]) rfl ?_
            refine aw_iload_n (npc := 55) rfl dX7_care_54 rfl ?_
            refine aw_iast (npc := 56) (j := 5) dX7_care_55 rfl f3 ⟨by decide, by decide⟩ (Nat.le_of_ble_eq_true rfl) (show _ = am_up _ 3 (.inl (0, [1, 1, 1, 1, 1, v, 1, 1])) from rfl) ?_
            refine aw_iload (npc := 58) rfl dX7_care_56 rfl ?_
            refine aw_iret rfl dX7_care_58 ?_
            exact fin_c hq (am_frU (by decide) am_fr0) (show sp_care 1 1 v = 1 from (by unfold sp_care; first | rfl | (simp only [wif_t hw1, wif_t hw7, wif_t hw9, wif_same, ite_self]; done) | (simp only [wif_t hw1, wif_t hw7, wif_t hw9, wif_same, ite_self]; rfl) | (simp [wif_t hw1, wif_t hw7, wif_t hw9, wif_same]; done)))
          · refine aw_re (S' := [.int 0]) rfl ?_
            refine aw_if_ne (npc := 24) (tgt := 27) dX7_care_21 rfl (by decide) (fun hc => absurd (by decide) hc) (fun _ => ?_)
            refine aw_ldc (npc := 26) kc_X7_78 dX7_care_24 rfl ?_
            refine aw_iret rfl dX7_care_26 ?_
            exact fin_c hq am_fr0 (show sp_care 1 1 v = (-1000000001) from (by unfold sp_care; first | rfl | (simp only [wif_t hw1, wif_t hw7, wif_f hw9, wif_same, ite_self]; done) | (simp only [wif_t hw1, wif_t hw7, wif_f hw9, wif_same, ite_self]; rfl) | (simp [wif_t hw1, wif_t hw7, wif_f hw9, wif_same]; done)))
        · refine aw_re (S' := [.int 1]) rfl ?_
          refine aw_if_eq (npc := 14) (tgt := 24) dX7_care_11 rfl (by decide) (fun hc => absurd hc (by decide)) (fun _ => ?_)
          refine aw_iload_n (npc := 15) rfl dX7_care_14 rfl ?_
          refine aw_iconst (npc := 16) (v := 0) (by decide) dX7_care_15 rfl ?_
          refine aw_bipush (npc := 18) (v := 9) (by decide) dX7_care_16 rfl ?_
          refine aw_callS (npc := 21) (N := mX7_within) (mc := 0) (ms := 0) (A := [.int v, .int 0, .int 9]) (S := []) (L0 := [some (.int v), some (.int 0), some (.int 9)]) dX7_care_18 rfl km_X7_within kk_X7_74 rfl ⟨rfl, by decide⟩ rfl (Nat.le_of_ble_eq_true rfl) (Nat.zero_add _) (Nat.zero_add _) rfl ?_
          refine c_X7_within (fun hw10 => ?_) (fun hw10 => ?_)
          · refine aw_re (S' := [.int 1]) rfl ?_
            refine aw_if_ne (npc := 24) (tgt := 27) dX7_care_21 rfl (by decide) (fun _ => ?_) (fun hc => absurd hc (by decide))
            refine aw_aload_n (npc := 28) rfl dX7_care_27 rfl ?_
            refine aw_get (npc := 31) dX7_care_28 rfl kf_X7_10 f0 rfl ?_
            refine aw_get (npc := 34) dX7_care_31 rfl kf_X7_130 f1 rfl ?_
            refine aw_iload_n (npc := 35) rfl dX7_care_34 rfl ?_
            refine aw_iload_n (npc := 36) rfl dX7_care_35 rfl ?_
            refine aw_callS (npc := 39) (N := mX7_carePlace) (mc := 0) (ms := 0) (A := [.int 1, .int 2]) (S := [.ref 3]) (L0 := [some (.int 1), some (.int 2)]) dX7_care_36 rfl km_X7_carePlace kk_X7_133 rfl ⟨rfl, by decide⟩ rfl (Nat.le_of_ble_eq_true rfl) (Nat.zero_add _) (Nat.zero_add _) rfl ?_
            refine aw_iload_n (npc := 1) rfl dX7_carePlace_0 rfl ?_
            refine aw_iconst (npc := 2) (v := 4) (by decide) dX7_carePlace_1 rfl ?_
            refine aw_imulV (npc := 3) (v := 4) dX7_carePlace_2 rfl (by decide) ?_
            refine aw_iload_n (npc := 4) rfl dX7_carePlace_3 rfl ?_
            refine aw_iaddV (npc := 5) (v := 6) dX7_carePlace_4 rfl (by decide) ?_
            refine aw_iret rfl dX7_carePlace_5 ?_
            refine aw_re (S' := [.int 6, .ref 3]) rfl ?_
            refine aw_iald (npc := 40) (x := 1) (j := 6) dX7_care_39 rfl f3 ⟨by decide, by decide⟩ rfl ?_
            refine aw_istore (npc := 42) (L' := [some (.ref 0), some (.int 1), some (.int 2), some (.int v), some (.int 1)]) dX7_care_40 rfl (by decide) rfl rfl ?_
            refine aw_aload_n (npc := 43) rfl dX7_care_42 rfl ?_
            refine aw_get (npc := 46) dX7_care_43 rfl kf_X7_10 f0 rfl ?_
            refine aw_get (npc := 49) dX7_care_46 rfl kf_X7_130 f1 rfl ?_
            refine aw_iload_n (npc := 50) rfl dX7_care_49 rfl ?_
            refine aw_iload_n (npc := 51) rfl dX7_care_50 rfl ?_
            refine aw_callS (npc := 54) (N := mX7_carePlace) (mc := 0) (ms := 0) (A := [.int 1, .int 2]) (S := [.ref 3]) (L0 := [some (.int 1), some (.int 2)]) dX7_care_51 rfl km_X7_carePlace kk_X7_133 rfl ⟨rfl, by decide⟩ rfl (Nat.le_of_ble_eq_true rfl) (Nat.zero_add _) (Nat.zero_add _) rfl ?_
            refine aw_iload_n (npc := 1) rfl dX7_carePlace_0 rfl ?_
            refine aw_iconst (npc := 2) (v := 4) (by decide) dX7_carePlace_1 rfl ?_
            refine aw_imulV (npc := 3) (v := 4) dX7_carePlace_2 rfl (by decide) ?_
            refine aw_iload_n (npc := 4) rfl dX7_carePlace_3 rfl ?_
            refine aw_iaddV (npc := 5) (v := 6) dX7_carePlace_4 rfl (by decide) ?_
            refine aw_iret rfl dX7_carePlace_5 ?_
            refine aw_re (S' := [.int 6, .ref 3]) rfl ?_
            refine aw_iload_n (npc := 55) rfl dX7_care_54 rfl ?_
            refine aw_iast (npc := 56) (j := 6) dX7_care_55 rfl f3 ⟨by decide, by decide⟩ (Nat.le_of_ble_eq_true rfl) (show _ = am_up _ 3 (.inl (0, [1, 1, 1, 1, 1, 1, v, 1])) from rfl) ?_
            refine aw_iload (npc := 58) rfl dX7_care_56 rfl ?_
            refine aw_iret rfl dX7_care_58 ?_
            exact fin_c hq (am_frU (by decide) am_fr0) (show sp_care 1 2 v = 1 from (by unfold sp_care; first | rfl | (simp only [wif_t hw1, wif_t hw7, wif_t hw10, wif_same, ite_self]; done) | (simp only [wif_t hw1, wif_t hw7, wif_t hw10, wif_same, ite_self]; rfl) | (simp [wif_t hw1, wif_t hw7, wif_t hw10, wif_same]; done)))
          · refine aw_re (S' := [.int 0]) rfl ?_
            refine aw_if_ne (npc := 24) (tgt := 27) dX7_care_21 rfl (by decide) (fun hc => absurd (by decide) hc) (fun _ => ?_)
            refine aw_ldc (npc := 26) kc_X7_78 dX7_care_24 rfl ?_
            refine aw_iret rfl dX7_care_26 ?_
            exact fin_c hq am_fr0 (show sp_care 1 2 v = (-1000000001) from (by unfold sp_care; first | rfl | (simp only [wif_t hw1, wif_t hw7, wif_f hw10, wif_same, ite_self]; done) | (simp only [wif_t hw1, wif_t hw7, wif_f hw10, wif_same, ite_self]; rfl) | (simp [wif_t hw1, wif_t hw7, wif_f hw10, wif_same]; done)))
        · refine aw_re (S' := [.int 1]) rfl ?_
          refine aw_if_eq (npc := 14) (tgt := 24) dX7_care_11 rfl (by decide) (fun hc => absurd hc (by decide)) (fun _ => ?_)
          refine aw_iload_n (npc := 15) rfl dX7_care_14 rfl ?_
          refine aw_iconst (npc := 16) (v := 0) (by decide) dX7_care_15 rfl ?_
          refine aw_bipush (npc := 18) (v := 9) (by decide) dX7_care_16 rfl ?_
          refine aw_callS (npc := 21) (N := mX7_within) (mc := 0) (ms := 0) (A := [.int v, .int 0, .int 9]) (S := []) (L0 := [some (.int v), some (.int 0), some (.int 9)]) dX7_care_18 rfl km_X7_within kk_X7_74 rfl ⟨rfl, by decide⟩ rfl (Nat.le_of_ble_eq_true rfl) (Nat.zero_add _) (Nat.zero_add _) rfl ?_
          refine c_X7_within (fun hw11 => ?_) (fun hw11 => ?_)
          · refine aw_re (S' := [.int 1]) rfl ?_
            refine aw_if_ne (npc := 24) (tgt := 27) dX7_care_21 rfl (by decide) (fun _ => ?_) (fun hc => absurd hc (by decide))
            refine aw_aload_n (npc := 28) rfl dX7_care_27 rfl ?_
            refine aw_get (npc := 31) dX7_care_28 rfl kf_X7_10 f0 rfl ?_
            refine aw_get (npc := 34) dX7_care_31 rfl kf_X7_130 f1 rfl ?_
            refine aw_iload_n (npc := 35) rfl dX7_care_34 rfl ?_
            refine aw_iload_n (npc := 36) rfl dX7_care_35 rfl ?_
            refine aw_callS (npc := 39) (N := mX7_carePlace) (mc := 0) (ms := 0) (A := [.int 1, .int 3]) (S := [.ref 3]) (L0 := [some (.int 1), some (.int 3)]) dX7_care_36 rfl km_X7_carePlace kk_X7_133 rfl ⟨rfl, by decide⟩ rfl (Nat.le_of_ble_eq_true rfl) (Nat.zero_add _) (Nat.zero_add _) rfl ?_
            refine aw_iload_n (npc := 1) rfl dX7_carePlace_0 rfl ?_
            refine aw_iconst (npc := 2) (v := 4) (by decide) dX7_carePlace_1 rfl ?_
            refine aw_imulV (npc := 3) (v := 4) dX7_carePlace_2 rfl (by decide) ?_
            refine aw_iload_n (npc := 4) rfl dX7_carePlace_3 rfl ?_
            refine aw_iaddV (npc := 5) (v := 7) dX7_carePlace_4 rfl (by decide) ?_
            refine aw_iret rfl dX7_carePlace_5 ?_
            refine aw_re (S' := [.int 7, .ref 3]) rfl ?_
            refine aw_iald (npc := 40) (x := 1) (j := 7) dX7_care_39 rfl f3 ⟨by decide, by decide⟩ rfl ?_
            refine aw_istore (npc := 42) (L' := [some (.ref 0), some (.int 1), some (.int 3), some (.int v), some (.int 1)]) dX7_care_40 rfl (by decide) rfl rfl ?_
            refine aw_aload_n (npc := 43) rfl dX7_care_42 rfl ?_
            refine aw_get (npc := 46) dX7_care_43 rfl kf_X7_10 f0 rfl ?_
            refine aw_get (npc := 49) dX7_care_46 rfl kf_X7_130 f1 rfl ?_
            refine aw_iload_n (npc := 50) rfl dX7_care_49 rfl ?_
            refine aw_iload_n (npc := 51) rfl dX7_care_50 rfl ?_
            refine aw_callS (npc := 54) (N := mX7_carePlace) (mc := 0) (ms := 0) (A := [.int 1, .int 3]) (S := [.ref 3]) (L0 := [some (.int 1), some (.int 3)]) dX7_care_51 rfl km_X7_carePlace kk_X7_133 rfl ⟨rfl, by decide⟩ rfl (Nat.le_of_ble_eq_true rfl) (Nat.zero_add _) (Nat.zero_add _) rfl ?_
            refine aw_iload_n (npc := 1) rfl dX7_carePlace_0 rfl ?_
            refine aw_iconst (npc := 2) (v := 4) (by decide) dX7_carePlace_1 rfl ?_
            refine aw_imulV (npc := 3) (v := 4) dX7_carePlace_2 rfl (by decide) ?_
            refine aw_iload_n (npc := 4) rfl dX7_carePlace_3 rfl ?_
            refine aw_iaddV (npc := 5) (v := 7) dX7_carePlace_4 rfl (by decide) ?_
            refine aw_iret rfl dX7_carePlace_5 ?_
            refine aw_re (S' := [.int 7, .ref 3]) rfl ?_
            refine aw_iload_n (npc := 55) rfl dX7_care_54 rfl ?_
            refine aw_iast (npc := 56) (j := 7) dX7_care_55 rfl f3 ⟨by decide, by decide⟩ (Nat.le_of_ble_eq_true rfl) (show _ = am_up _ 3 (.inl (0, [1, 1, 1, 1, 1, 1, 1, v])) from rfl) ?_
            refine aw_iload (npc := 58) rfl dX7_care_56 rfl ?_
            refine aw_iret rfl dX7_care_58 ?_
            exact fin_c hq (am_frU (by decide) am_fr0) (show sp_care 1 3 v = 1 from (by unfold sp_care; first | rfl | (simp only [wif_t hw1, wif_t hw7, wif_t hw11, wif_same, ite_self]; done) | (simp only [wif_t hw1, wif_t hw7, wif_t hw11, wif_same, ite_self]; rfl) | (simp [wif_t hw1, wif_t hw7, wif_t hw11, wif_same]; done)))
          · refine aw_re (S' := [.int 0]) rfl ?_
            refine aw_if_ne (npc := 24) (tgt := 27) dX7_care_21 rfl (by decide) (fun hc => absurd (by decide) hc) (fun _ => ?_)
            refine aw_ldc (npc := 26) kc_X7_78 dX7_care_24 rfl ?_
            refine aw_iret rfl dX7_care_26 ?_
            exact fin_c hq am_fr0 (show sp_care 1 3 v = (-1000000001) from (by unfold sp_care; first | rfl | (simp only [wif_t hw1, wif_t hw7, wif_f hw11, wif_same, ite_self]; done) | (simp only [wif_t hw1, wif_t hw7, wif_f hw11, wif_same, ite_self]; rfl) | (simp [wif_t hw1, wif_t hw7, wif_f hw11, wif_same]; done)))
      · refine aw_re (S' := [.int 0]) rfl ?_
        refine aw_if_eq (npc := 14) (tgt := 24) dX7_care_11 rfl (by decide) (fun _ => ?_) (fun hc => absurd (by decide) hc)
        refine aw_ldc (npc := 26) kc_X7_78 dX7_care_24 rfl ?_
        refine aw_iret rfl dX7_care_26 ?_
        exact fin_c hq am_fr0 (show sp_care 1 t v = (-1000000001) from (by unfold sp_care; first | rfl | (simp only [wif_t hw1, wif_f hw7, wif_same, ite_self]; done) | (simp only [wif_t hw1, wif_f hw7, wif_same, ite_self]; rfl) | (simp [wif_t hw1, wif_f hw7, wif_same]; done)))
  · refine aw_re (S' := [.int 0]) rfl ?_
    refine aw_if_eq (npc := 7) (tgt := 24) dX7_care_4 rfl (by decide) (fun _ => ?_) (fun hc => absurd (by decide) hc)
    refine aw_ldc (npc := 26) kc_X7_78 dX7_care_24 rfl ?_
    refine aw_iret rfl dX7_care_26 ?_
    exact fin_c hq am_fr0 (show sp_care s t v = (-1000000001) from (by unfold sp_care; first | rfl | (simp only [wif_f hw1, wif_same, ite_self]; done) | (simp only [wif_f hw1, wif_same, ite_self]; rfl) | (simp [wif_f hw1, wif_same]; done)))
set_option maxHeartbeats 40000000 in
set_option maxRecDepth 100000 in
theorem p_X8_care {X : List Int32} {d rc rs : Nat} {h : am_H} {Q : am_Q} {s : Int32} {t : Int32} {v : Int32} (F : f0_X8 h) (hq : ∀ n9 h9, Q (some (.int (sp_care s t v))) n9 h9) : AW X mX8_care (d + 12) rc rs 0 [some (.ref 69), some (.int s), some (.int t), some (.int v)] [] 92 h Q := by
  obtain ⟨g69, g70, -, -, -, -, -, -, -, -, -, -, -, -, -, -, -, -, -, -, -, -, -⟩ := F
  refine aw_iload_n (npc := 1) rfl dX8_care_0 rfl ?_
  refine aw_iconst (npc := 2) (v := 0) (by decide) dX8_care_1 rfl ?_
  refine aw_iconst (npc := 3) (v := 1) (by decide) dX8_care_2 rfl ?_
  refine aw_callS (npc := 6) (N := mX8_in) (mc := 0) (ms := 0) (A := [.int s, .int 0, .int 1]) (S := []) (L0 := [some (.int s), some (.int 0), some (.int 1)]) dX8_care_3 rfl km_X8_in kk_X8_83 rfl ⟨rfl, by decide⟩ rfl (Nat.le_of_ble_eq_true rfl) (Nat.zero_add _) (Nat.zero_add _) rfl ?_
  refine c_X8_in (fun hw1 => ?_) (fun hw1 => ?_)
  · rcases wi_c0_1 hw1 with rfl | rfl
    · refine aw_re (S' := [.int 1]) rfl ?_
      refine aw_if_eq (npc := 9) (tgt := 44) dX8_care_6 rfl (by decide) (fun hc => absurd hc (by decide)) (fun _ => ?_)
      refine aw_iload_n (npc := 10) rfl dX8_care_9 rfl ?_
      refine aw_iconst (npc := 11) (v := 0) (by decide) dX8_care_10 rfl ?_
      refine aw_iconst (npc := 12) (v := 3) (by decide) dX8_care_11 rfl ?_
      refine aw_callS (npc := 15) (N := mX8_in) (mc := 0) (ms := 0) (A := [.int t, .int 0, .int 3]) (S := []) (L0 := [some (.int t), some (.int 0), some (.int 3)]) dX8_care_12 rfl km_X8_in kk_X8_83 rfl ⟨rfl, by decide⟩ rfl (Nat.le_of_ble_eq_true rfl) (Nat.zero_add _) (Nat.zero_add _) rfl ?_
      refine c_X8_in (fun hw2 => ?_) (fun hw2 => ?_)
      · rcases wi_c0_3 hw2 with rfl | rfl | rfl | rfl
        · refine aw_re (S' := [.int 1]) rfl ?_
          refine aw_if_eq (npc := 18) (tgt := 44) dX8_care_15 rfl (by decide) (fun hc => absurd hc (by decide)) (fun _ => ?_)
          refine aw_iload_n (npc := 19) rfl dX8_care_18 rfl ?_
          refine aw_iconst (npc := 20) (v := 0) (by decide) dX8_care_19 rfl ?_
          refine aw_bipush (npc := 22) (v := 9) (by decide) dX8_care_20 rfl ?_
          refine aw_callS (npc := 25) (N := mX8_in) (mc := 0) (ms := 0) (A := [.int v, .int 0, .int 9]) (S := []) (L0 := [some (.int v), some (.int 0), some (.int 9)]) dX8_care_22 rfl km_X8_in kk_X8_83 rfl ⟨rfl, by decide⟩ rfl (Nat.le_of_ble_eq_true rfl) (Nat.zero_add _) (Nat.zero_add _) rfl ?_
          refine c_X8_in (fun hw3 => ?_) (fun hw3 => ?_)
          · refine aw_re (S' := [.int 1]) rfl ?_
            refine aw_if_eq (npc := 28) (tgt := 44) dX8_care_25 rfl (by decide) (fun hc => absurd hc (by decide)) (fun _ => ?_)
            refine aw_aload_n (npc := 29) rfl dX8_care_28 rfl ?_
            refine aw_bipush (npc := 31) (v := 12) (by decide) dX8_care_29 rfl ?_
            refine aw_iconst (npc := 32) (v := 4) (by decide) dX8_care_31 rfl ?_
            refine aw_iload_n (npc := 33) rfl dX8_care_32 rfl ?_
            refine aw_imulV (npc := 34) (v := 0) dX8_care_33 rfl (by decide) ?_
            refine aw_iaddV (npc := 35) (v := 12) dX8_care_34 rfl (by decide) ?_
            refine aw_iload_n (npc := 36) rfl dX8_care_35 rfl ?_
            refine aw_iaddV (npc := 37) (v := 12) dX8_care_36 rfl (by decide) ?_
            refine aw_iload_n (npc := 38) rfl dX8_care_37 rfl ?_
            refine aw_callV (npc := 41) (N := mX8_becomes) (b := 69) (mc := 0) (ms := 0) (A := [.int 12, .int v]) (S := []) (L0 := [some (.ref 69), some (.int 12), some (.int v), none]) dX8_care_38 rfl km_X8_becomes kk_X8_135 g69 ⟨by decide, rfl⟩ rfl ⟨rfl, by decide⟩ rfl (Nat.le_of_ble_eq_true rfl) (Nat.zero_add _) (Nat.zero_add _) rfl ?_
            refine aw_aload_n (npc := 1) rfl dX8_becomes_0 rfl ?_
            refine aw_get (npc := 4) dX8_becomes_1 rfl kf_X8_9 g69 rfl ?_
            refine aw_iload_n (npc := 5) rfl dX8_becomes_4 rfl ?_
            refine aw_iald (npc := 6) (x := 1) (j := 12) dX8_becomes_5 rfl g70 ⟨by decide, by decide⟩ rfl ?_
            refine aw_istore_n (npc := 7) (L' := [some (.ref 69), some (.int 12), some (.int v), some (.int 1)]) dX8_becomes_6 rfl (by decide) rfl rfl ?_
            refine aw_aload_n (npc := 8) rfl dX8_becomes_7 rfl ?_
            refine aw_get (npc := 11) dX8_becomes_8 rfl kf_X8_9 g69 rfl ?_
            refine aw_iload_n (npc := 12) rfl dX8_becomes_11 rfl ?_
            refine aw_iload_n (npc := 13) rfl dX8_becomes_12 rfl ?_
            refine aw_iast (npc := 14) (j := 12) dX8_becomes_13 rfl g70 ⟨by decide, by decide⟩ (Nat.le_of_ble_eq_true rfl) rfl ?_
            refine aw_iload_n (npc := 15) rfl dX8_becomes_14 rfl ?_
            refine aw_iret rfl dX8_becomes_15 ?_
            refine aw_re (S' := [.int 1]) rfl ?_
            refine aw_goto (npc := 46) dX8_care_41 (by decide) ?_
            refine aw_iret rfl dX8_care_46 ?_
            exact fin_m hq (show sp_care 0 0 v = 1 from (by unfold sp_care; first | rfl | (simp only [wif_t hw1, wif_t hw2, wif_t hw3, wif_same, ite_self]; done) | (simp only [wif_t hw1, wif_t hw2, wif_t hw3, wif_same, ite_self]; rfl) | (simp [wif_t hw1, wif_t hw2, wif_t hw3, wif_same]; done)))
          · refine aw_re (S' := [.int 0]) rfl ?_
            refine aw_if_eq (npc := 28) (tgt := 44) dX8_care_25 rfl (by decide) (fun _ => ?_) (fun hc => absurd (by decide) hc)
            refine aw_ldc (npc := 46) kc_X8_91 dX8_care_44 rfl ?_
            refine aw_iret rfl dX8_care_46 ?_
            exact fin_m hq (show sp_care 0 0 v = (-1000000001) from (by unfold sp_care; first | rfl | (simp only [wif_t hw1, wif_t hw2, wif_f hw3, wif_same, ite_self]; done) | (simp only [wif_t hw1, wif_t hw2, wif_f hw3, wif_same, ite_self]; rfl) | (simp [wif_t hw1, wif_t hw2, wif_f hw3, wif_same]; done)))
        · refine aw_re (S' := [.int 1]) rfl ?_
          refine aw_if_eq (npc := 18) (tgt := 44) dX8_care_15 rfl (by decide) (fun hc => absurd hc (by decide)) (fun _ => ?_)
          refine aw_iload_n (npc := 19) rfl dX8_care_18 rfl ?_
          refine aw_iconst (npc := 20) (v := 0) (by decide) dX8_care_19 rfl ?_
          refine aw_bipush (npc := 22) (v := 9) (by decide) dX8_care_20 rfl ?_
          refine aw_callS (npc := 25) (N := mX8_in) (mc := 0) (ms := 0) (A := [.int v, .int 0, .int 9]) (S := []) (L0 := [some (.int v), some (.int 0), some (.int 9)]) dX8_care_22 rfl km_X8_in kk_X8_83 rfl ⟨rfl, by decide⟩ rfl (Nat.le_of_ble_eq_true rfl) (Nat.zero_add _) (Nat.zero_add _) rfl ?_
          refine c_X8_in (fun hw4 => ?_) (fun hw4 => ?_)
          · refine aw_re (S' := [.int 1]) rfl ?_
            refine aw_if_eq (npc := 28) (tgt := 44) dX8_care_25 rfl (by decide) (fun hc => absurd hc (by decide)) (fun _ => ?_)
            refine aw_aload_n (npc := 29) rfl dX8_care_28 rfl ?_
            refine aw_bipush (npc := 31) (v := 12) (by decide) dX8_care_29 rfl ?_
            refine aw_iconst (npc := 32) (v := 4) (by decide) dX8_care_31 rfl ?_
            refine aw_iload_n (npc := 33) rfl dX8_care_32 rfl ?_
            refine aw_imulV (npc := 34) (v := 0) dX8_care_33 rfl (by decide) ?_
            refine aw_iaddV (npc := 35) (v := 12) dX8_care_34 rfl (by decide) ?_
            refine aw_iload_n (npc := 36) rfl dX8_care_35 rfl ?_
            refine aw_iaddV (npc := 37) (v := 13) dX8_care_36 rfl (by decide) ?_
            refine aw_iload_n (npc := 38) rfl dX8_care_37 rfl ?_
            refine aw_callV (npc := 41) (N := mX8_becomes) (b := 69) (mc := 0) (ms := 0) (A := [.int 13, .int v]) (S := []) (L0 := [some (.ref 69), some (.int 13), some (.int v), none]) dX8_care_38 rfl km_X8_becomes kk_X8_135 g69 ⟨by decide, rfl⟩ rfl ⟨rfl, by decide⟩ rfl (Nat.le_of_ble_eq_true rfl) (Nat.zero_add _) (Nat.zero_add _) rfl ?_
            refine aw_aload_n (npc := 1) rfl dX8_becomes_0 rfl ?_
            refine aw_get (npc := 4) dX8_becomes_1 rfl kf_X8_9 g69 rfl ?_
            refine aw_iload_n (npc := 5) rfl dX8_becomes_4 rfl ?_
            refine aw_iald (npc := 6) (x := 1) (j := 13) dX8_becomes_5 rfl g70 ⟨by decide, by decide⟩ rfl ?_
            refine aw_istore_n (npc := 7) (L' := [some (.ref 69), some (.int 13), some (.int v), some (.int 1)]) dX8_becomes_6 rfl (by decide) rfl rfl ?_
            refine aw_aload_n (npc := 8) rfl dX8_becomes_7 rfl ?_
            refine aw_get (npc := 11) dX8_becomes_8 rfl kf_X8_9 g69 rfl ?_
            refine aw_iload_n (npc := 12) rfl dX8_becomes_11 rfl ?_
            refine aw_iload_n (npc := 13) rfl dX8_becomes_12 rfl ?_
            refine aw_iast (npc := 14) (j := 13) dX8_becomes_13 rfl g70 ⟨by decide, by decide⟩ (Nat.le_of_ble_eq_true rfl) rfl ?_
            refine aw_iload_n (npc := 15) rfl dX8_becomes_14 rfl ?_
            refine aw_iret rfl dX8_becomes_15 ?_
            refine aw_re (S' := [.int 1]) rfl ?_
            refine aw_goto (npc := 46) dX8_care_41 (by decide) ?_
            refine aw_iret rfl dX8_care_46 ?_
            exact fin_m hq (show sp_care 0 1 v = 1 from (by unfold sp_care; first | rfl | (simp only [wif_t hw1, wif_t hw2, wif_t hw4, wif_same, ite_self]; done) | (simp only [wif_t hw1, wif_t hw2, wif_t hw4, wif_same, ite_self]; rfl) | (simp [wif_t hw1, wif_t hw2, wif_t hw4, wif_same]; done)))
          · refine aw_re (S' := [.int 0]) rfl ?_
            refine aw_if_eq (npc := 28) (tgt := 44) dX8_care_25 rfl (by decide) (fun _ => ?_) (fun hc => absurd (by decide) hc)
            refine aw_ldc (npc := 46) kc_X8_91 dX8_care_44 rfl ?_
            refine aw_iret rfl dX8_care_46 ?_
            exact fin_m hq (show sp_care 0 1 v = (-1000000001) from (by unfold sp_care; first | rfl | (simp only [wif_t hw1, wif_t hw2, wif_f hw4, wif_same, ite_self]; done) | (simp only [wif_t hw1, wif_t hw2, wif_f hw4, wif_same, ite_self]; rfl) | (simp [wif_t hw1, wif_t hw2, wif_f hw4, wif_same]; done)))
        · refine aw_re (S' := [.int 1]) rfl ?_
          refine aw_if_eq (npc := 18) (tgt := 44) dX8_care_15 rfl (by decide) (fun hc => absurd hc (by decide)) (fun _ => ?_)
          refine aw_iload_n (npc := 19) rfl dX8_care_18 rfl ?_
          refine aw_iconst (npc := 20) (v := 0) (by decide) dX8_care_19 rfl ?_
          refine aw_bipush (npc := 22) (v := 9) (by decide) dX8_care_20 rfl ?_
          refine aw_callS (npc := 25) (N := mX8_in) (mc := 0) (ms := 0) (A := [.int v, .int 0, .int 9]) (S := []) (L0 := [some (.int v), some (.int 0), some (.int 9)]) dX8_care_22 rfl km_X8_in kk_X8_83 rfl ⟨rfl, by decide⟩ rfl (Nat.le_of_ble_eq_true rfl) (Nat.zero_add _) (Nat.zero_add _) rfl ?_
          refine c_X8_in (fun hw5 => ?_) (fun hw5 => ?_)
          · refine aw_re (S' := [.int 1]) rfl ?_
            refine aw_if_eq (npc := 28) (tgt := 44) dX8_care_25 rfl (by decide) (fun hc => absurd hc (by decide)) (fun _ => ?_)
            refine aw_aload_n (npc := 29) rfl dX8_care_28 rfl ?_
            refine aw_bipush (npc := 31) (v := 12) (by decide) dX8_care_29 rfl ?_
            refine aw_iconst (npc := 32) (v := 4) (by decide) dX8_care_31 rfl ?_
            refine aw_iload_n (npc := 33) rfl dX8_care_32 rfl ?_
            refine aw_imulV (npc := 34) (v := 0) dX8_care_33 rfl (by decide) ?_
            refine aw_iaddV (npc := 35) (v := 12) dX8_care_34 rfl (by decide) ?_
            refine aw_iload_n (npc := 36) rfl dX8_care_35 rfl ?_
            refine aw_iaddV (npc := 37) (v := 14) dX8_care_36 rfl (by decide) ?_
            refine aw_iload_n (npc := 38) rfl dX8_care_37 rfl ?_
            refine aw_callV (npc := 41) (N := mX8_becomes) (b := 69) (mc := 0) (ms := 0) (A := [.int 14, .int v]) (S := []) (L0 := [some (.ref 69), some (.int 14), some (.int v), none]) dX8_care_38 rfl km_X8_becomes kk_X8_135 g69 ⟨by decide, rfl⟩ rfl ⟨rfl, by decide⟩ rfl (Nat.le_of_ble_eq_true rfl) (Nat.zero_add _) (Nat.zero_add _) rfl ?_
            refine aw_aload_n (npc := 1) rfl dX8_becomes_0 rfl ?_
            refine aw_get (npc := 4) dX8_becomes_1 rfl kf_X8_9 g69 rfl ?_
            refine aw_iload_n (npc := 5) rfl dX8_becomes_4 rfl ?_
            refine aw_iald (npc := 6) (x := 1) (j := 14) dX8_becomes_5 rfl g70 ⟨by decide, by decide⟩ rfl ?_
            refine aw_istore_n (npc := 7) (L' := [some (.ref 69), some (.int 14), some (.int v), some (.int 1)]) dX8_becomes_6 rfl (by decide) rfl rfl ?_
            refine aw_aload_n (npc := 8) rfl dX8_becomes_7 rfl ?_
            refine aw_get (npc := 11) dX8_becomes_8 rfl kf_X8_9 g69 rfl ?_
            refine aw_iload_n (npc := 12) rfl dX8_becomes_11 rfl ?_
            refine aw_iload_n (npc := 13) rfl dX8_becomes_12 rfl ?_
            refine aw_iast (npc := 14) (j := 14) dX8_becomes_13 rfl g70 ⟨by decide, by decide⟩ (Nat.le_of_ble_eq_true rfl) rfl ?_
            refine aw_iload_n (npc := 15) rfl dX8_becomes_14 rfl ?_
            refine aw_iret rfl dX8_becomes_15 ?_
            refine aw_re (S' := [.int 1]) rfl ?_
            refine aw_goto (npc := 46) dX8_care_41 (by decide) ?_
            refine aw_iret rfl dX8_care_46 ?_
            exact fin_m hq (show sp_care 0 2 v = 1 from (by unfold sp_care; first | rfl | (simp only [wif_t hw1, wif_t hw2, wif_t hw5, wif_same, ite_self]; done) | (simp only [wif_t hw1, wif_t hw2, wif_t hw5, wif_same, ite_self]; rfl) | (simp [wif_t hw1, wif_t hw2, wif_t hw5, wif_same]; done)))
          · refine aw_re (S' := [.int 0]) rfl ?_
            refine aw_if_eq (npc := 28) (tgt := 44) dX8_care_25 rfl (by decide) (fun _ => ?_) (fun hc => absurd (by decide) hc)
            refine aw_ldc (npc := 46) kc_X8_91 dX8_care_44 rfl ?_
            refine aw_iret rfl dX8_care_46 ?_
            exact fin_m hq (show sp_care 0 2 v = (-1000000001) from (by unfold sp_care; first | rfl | (simp only [wif_t hw1, wif_t hw2, wif_f hw5, wif_same, ite_self]; done) | (simp only [wif_t hw1, wif_t hw2, wif_f hw5, wif_same, ite_self]; rfl) | (simp [wif_t hw1, wif_t hw2, wif_f hw5, wif_same]; done)))
        · refine aw_re (S' := [.int 1]) rfl ?_
          refine aw_if_eq (npc := 18) (tgt := 44) dX8_care_15 rfl (by decide) (fun hc => absurd hc (by decide)) (fun _ => ?_)
          refine aw_iload_n (npc := 19) rfl dX8_care_18 rfl ?_
          refine aw_iconst (npc := 20) (v := 0) (by decide) dX8_care_19 rfl ?_
          refine aw_bipush (npc := 22) (v := 9) (by decide) dX8_care_20 rfl ?_
          refine aw_callS (npc := 25) (N := mX8_in) (mc := 0) (ms := 0) (A := [.int v, .int 0, .int 9]) (S := []) (L0 := [some (.int v), some (.int 0), some (.int 9)]) dX8_care_22 rfl km_X8_in kk_X8_83 rfl ⟨rfl, by decide⟩ rfl (Nat.le_of_ble_eq_true rfl) (Nat.zero_add _) (Nat.zero_add _) rfl ?_
          refine c_X8_in (fun hw6 => ?_) (fun hw6 => ?_)
          · refine aw_re (S' := [.int 1]) rfl ?_
            refine aw_if_eq (npc := 28) (tgt := 44) dX8_care_25 rfl (by decide) (fun hc => absurd hc (by decide)) (fun _ => ?_)
            refine aw_aload_n (npc := 29) rfl dX8_care_28 rfl ?_
            refine aw_bipush (npc := 31) (v := 12) (by decide) dX8_care_29 rfl ?_
            refine aw_iconst (npc := 32) (v := 4) (by decide) dX8_care_31 rfl ?_
            refine aw_iload_n (npc := 33) rfl dX8_care_32 rfl ?_
            refine aw_imulV (npc := 34) (v := 0) dX8_care_33 rfl (by decide) ?_
            refine aw_iaddV (npc := 35) (v := 12) dX8_care_34 rfl (by decide) ?_
            refine aw_iload_n (npc := 36) rfl dX8_care_35 rfl ?_
            refine aw_iaddV (npc := 37) (v := 15) dX8_care_36 rfl (by decide) ?_
            refine aw_iload_n (npc := 38) rfl dX8_care_37 rfl ?_
            refine aw_callV (npc := 41) (N := mX8_becomes) (b := 69) (mc := 0) (ms := 0) (A := [.int 15, .int v]) (S := []) (L0 := [some (.ref 69), some (.int 15), some (.int v), none]) dX8_care_38 rfl km_X8_becomes kk_X8_135 g69 ⟨by decide, rfl⟩ rfl ⟨rfl, by decide⟩ rfl (Nat.le_of_ble_eq_true rfl) (Nat.zero_add _) (Nat.zero_add _) rfl ?_
            refine aw_aload_n (npc := 1) rfl dX8_becomes_0 rfl ?_
            refine aw_get (npc := 4) dX8_becomes_1 rfl kf_X8_9 g69 rfl ?_
            refine aw_iload_n (npc := 5) rfl dX8_becomes_4 rfl ?_
            refine aw_iald (npc := 6) (x := 1) (j := 15) dX8_becomes_5 rfl g70 ⟨by decide, by decide⟩ rfl ?_
            refine aw_istore_n (npc := 7) (L' := [some (.ref 69), some (.int 15), some (.int v), some (.int 1)]) dX8_becomes_6 rfl (by decide) rfl rfl ?_
            refine aw_aload_n (npc := 8) rfl dX8_becomes_7 rfl ?_
            refine aw_get (npc := 11) dX8_becomes_8 rfl kf_X8_9 g69 rfl ?_
            refine aw_iload_n (npc := 12) rfl dX8_becomes_11 rfl ?_
            refine aw_iload_n (npc := 13) rfl dX8_becomes_12 rfl ?_
            refine aw_iast (npc := 14) (j := 15) dX8_becomes_13 rfl g70 ⟨by decide, by decide⟩ (Nat.le_of_ble_eq_true rfl) rfl ?_
            refine aw_iload_n (npc := 15) rfl dX8_becomes_14 rfl ?_
            refine aw_iret rfl dX8_becomes_15 ?_
            refine aw_re (S' := [.int 1]) rfl ?_
            refine aw_goto (npc := 46) dX8_care_41 (by decide) ?_
            refine aw_iret rfl dX8_care_46 ?_
            exact fin_m hq (show sp_care 0 3 v = 1 from (by unfold sp_care; first | rfl | (simp only [wif_t hw1, wif_t hw2, wif_t hw6, wif_same, ite_self]; done) | (simp only [wif_t hw1, wif_t hw2, wif_t hw6, wif_same, ite_self]; rfl) | (simp [wif_t hw1, wif_t hw2, wif_t hw6, wif_same]; done)))
          · refine aw_re (S' := [.int 0]) rfl ?_
            refine aw_if_eq (npc := 28) (tgt := 44) dX8_care_25 rfl (by decide) (fun _ => ?_) (fun hc => absurd (by decide) hc)
            refine aw_ldc (npc := 46) kc_X8_91 dX8_care_44 rfl ?_
            refine aw_iret rfl dX8_care_46 ?_
            exact fin_m hq (show sp_care 0 3 v = (-1000000001) from (by unfold sp_care; first | rfl | (simp only [wif_t hw1, wif_t hw2, wif_f hw6, wif_same, ite_self]; done) | (simp only [wif_t hw1, wif_t hw2, wif_f hw6, wif_same, ite_self]; rfl) | (simp [wif_t hw1, wif_t hw2, wif_f hw6, wif_same]; done)))
      · refine aw_re (S' := [.int 0]) rfl ?_
        refine aw_if_eq (npc := 18) (tgt := 44) dX8_care_15 rfl (by decide) (fun _ => ?_) (fun hc => absurd (by decide) hc)
        refine aw_ldc (npc := 46) kc_X8_91 dX8_care_44 rfl ?_
        refine aw_iret rfl dX8_care_46 ?_
        exact fin_m hq (show sp_care 0 t v = (-1000000001) from (by unfold sp_care; first | rfl | (simp only [wif_t hw1, wif_f hw2, wif_same, ite_self]; done) | (simp only [wif_t hw1, wif_f hw2, wif_same, ite_self]; rfl) | (simp [wif_t hw1, wif_f hw2, wif_same]; done)))
    · refine aw_re (S' := [.int 1]) rfl ?_
      refine aw_if_eq (npc := 9) (tgt := 44) dX8_care_6 rfl (by decide) (fun hc => absurd hc (by decide)) (fun _ => ?_)
      refine aw_iload_n (npc := 10) rfl dX8_care_9 rfl ?_
      refine aw_iconst (npc := 11) (v := 0) (by decide) dX8_care_10 rfl ?_
      refine aw_iconst (npc := 12) (v := 3) (by decide) dX8_care_11 rfl ?_
      refine aw_callS (npc := 15) (N := mX8_in) (mc := 0) (ms := 0) (A := [.int t, .int 0, .int 3]) (S := []) (L0 := [some (.int t), some (.int 0), some (.int 3)]) dX8_care_12 rfl km_X8_in kk_X8_83 rfl ⟨rfl, by decide⟩ rfl (Nat.le_of_ble_eq_true rfl) (Nat.zero_add _) (Nat.zero_add _) rfl ?_
      refine c_X8_in (fun hw7 => ?_) (fun hw7 => ?_)
      · rcases wi_c0_3 hw7 with rfl | rfl | rfl | rfl
        · refine aw_re (S' := [.int 1]) rfl ?_
          refine aw_if_eq (npc := 18) (tgt := 44) dX8_care_15 rfl (by decide) (fun hc => absurd hc (by decide)) (fun _ => ?_)
          refine aw_iload_n (npc := 19) rfl dX8_care_18 rfl ?_
          refine aw_iconst (npc := 20) (v := 0) (by decide) dX8_care_19 rfl ?_
          refine aw_bipush (npc := 22) (v := 9) (by decide) dX8_care_20 rfl ?_
          refine aw_callS (npc := 25) (N := mX8_in) (mc := 0) (ms := 0) (A := [.int v, .int 0, .int 9]) (S := []) (L0 := [some (.int v), some (.int 0), some (.int 9)]) dX8_care_22 rfl km_X8_in kk_X8_83 rfl ⟨rfl, by decide⟩ rfl (Nat.le_of_ble_eq_true rfl) (Nat.zero_add _) (Nat.zero_add _) rfl ?_
          refine c_X8_in (fun hw8 => ?_) (fun hw8 => ?_)
          · refine aw_re (S' := [.int 1]) rfl ?_
            refine aw_if_eq (npc := 28) (tgt := 44) dX8_care_25 rfl (by decide) (fun hc => absurd hc (by decide)) (fun _ => ?_)
            refine aw_aload_n (npc := 29) rfl dX8_care_28 rfl ?_
            refine aw_bipush (npc := 31) (v := 12) (by decide) dX8_care_29 rfl ?_
            refine aw_iconst (npc := 32) (v := 4) (by decide) dX8_care_31 rfl ?_
            refine aw_iload_n (npc := 33) rfl dX8_care_32 rfl ?_
            refine aw_imulV (npc := 34) (v := 4) dX8_care_33 rfl (by decide) ?_
            refine aw_iaddV (npc := 35) (v := 16) dX8_care_34 rfl (by decide) ?_
            refine aw_iload_n (npc := 36) rfl dX8_care_35 rfl ?_
            refine aw_iaddV (npc := 37) (v := 16) dX8_care_36 rfl (by decide) ?_
            refine aw_iload_n (npc := 38) rfl dX8_care_37 rfl ?_
            refine aw_callV (npc := 41) (N := mX8_becomes) (b := 69) (mc := 0) (ms := 0) (A := [.int 16, .int v]) (S := []) (L0 := [some (.ref 69), some (.int 16), some (.int v), none]) dX8_care_38 rfl km_X8_becomes kk_X8_135 g69 ⟨by decide, rfl⟩ rfl ⟨rfl, by decide⟩ rfl (Nat.le_of_ble_eq_true rfl) (Nat.zero_add _) (Nat.zero_add _) rfl ?_
            refine aw_aload_n (npc := 1) rfl dX8_becomes_0 rfl ?_
            refine aw_get (npc := 4) dX8_becomes_1 rfl kf_X8_9 g69 rfl ?_
            refine aw_iload_n (npc := 5) rfl dX8_becomes_4 rfl ?_
            refine aw_iald (npc := 6) (x := 1) (j := 16) dX8_becomes_5 rfl g70 ⟨by decide, by decide⟩ rfl ?_
            refine aw_istore_n (npc := 7) (L' := [some (.ref 69), some (.int 16), some (.int v), some (.int 1)]) dX8_becomes_6 rfl (by decide) rfl rfl ?_
            refine aw_aload_n (npc := 8) rfl dX8_becomes_7 rfl ?_
            refine aw_get (npc := 11) dX8_becomes_8 rfl kf_X8_9 g69 rfl ?_
            refine aw_iload_n (npc := 12) rfl dX8_becomes_11 rfl ?_
            refine aw_iload_n (npc := 13) rfl dX8_becomes_12 rfl ?_
            refine aw_iast (npc := 14) (j := 16) dX8_becomes_13 rfl g70 ⟨by decide, by decide⟩ (Nat.le_of_ble_eq_true rfl) rfl ?_
            refine aw_iload_n (npc := 15) rfl dX8_becomes_14 rfl ?_
            refine aw_iret rfl dX8_becomes_15 ?_
            refine aw_re (S' := [.int 1]) rfl ?_
            refine aw_goto (npc := 46) dX8_care_41 (by decide) ?_
            refine aw_iret rfl dX8_care_46 ?_
            exact fin_m hq (show sp_care 1 0 v = 1 from (by unfold sp_care; first | rfl | (simp only [wif_t hw1, wif_t hw7, wif_t hw8, wif_same, ite_self]; done) | (simp only [wif_t hw1, wif_t hw7, wif_t hw8, wif_same, ite_self]; rfl) | (simp [wif_t hw1, wif_t hw7, wif_t hw8, wif_same]; done)))
          · refine aw_re (S' := [.int 0]) rfl ?_
            refine aw_if_eq (npc := 28) (tgt := 44) dX8_care_25 rfl (by decide) (fun _ => ?_) (fun hc => absurd (by decide) hc)
            refine aw_ldc (npc := 46) kc_X8_91 dX8_care_44 rfl ?_
            refine aw_iret rfl dX8_care_46 ?_
            exact fin_m hq (show sp_care 1 0 v = (-1000000001) from (by unfold sp_care; first | rfl | (simp only [wif_t hw1, wif_t hw7, wif_f hw8, wif_same, ite_self]; done) | (simp only [wif_t hw1, wif_t hw7, wif_f hw8, wif_same, ite_self]; rfl) | (simp [wif_t hw1, wif_t hw7, wif_f hw8, wif_same]; done)))
        · refine aw_re (S' := [.int 1]) rfl ?_
          refine aw_if_eq (npc := 18) (tgt := 44) dX8_care_15 rfl (by decide) (fun hc => absurd hc (by decide)) (fun _ => ?_)
          refine aw_iload_n (npc := 19) rfl dX8_care_18 rfl ?_
          refine aw_iconst (npc := 20) (v := 0) (by decide) dX8_care_19 rfl ?_
          refine aw_bipush (npc := 22) (v := 9) (by decide) dX8_care_20 rfl ?_
          refine aw_callS (npc := 25) (N := mX8_in) (mc := 0) (ms := 0) (A := [.int v, .int 0, .int 9]) (S := []) (L0 := [some (.int v), some (.int 0), some (.int 9)]) dX8_care_22 rfl km_X8_in kk_X8_83 rfl ⟨rfl, by decide⟩ rfl (Nat.le_of_ble_eq_true rfl) (Nat.zero_add _) (Nat.zero_add _) rfl ?_
          refine c_X8_in (fun hw9 => ?_) (fun hw9 => ?_)
          · refine aw_re (S' := [.int 1]) rfl ?_
            refine aw_if_eq (npc := 28) (tgt := 44) dX8_care_25 rfl (by decide) (fun hc => absurd hc (by decide)) (fun _ => ?_)
            refine aw_aload_n (npc := 29) rfl dX8_care_28 rfl ?_
            refine aw_bipush (npc := 31) (v := 12) (by decide) dX8_care_29 rfl ?_
            refine aw_iconst (npc := 32) (v := 4) (by decide) dX8_care_31 rfl ?_
            refine aw_iload_n (npc := 33) rfl dX8_care_32 rfl ?_
            refine aw_imulV (npc := 34) (v := 4) dX8_care_33 rfl (by decide) ?_
            refine aw_iaddV (npc := 35) (v := 16) dX8_care_34 rfl (by decide) ?_
            refine aw_iload_n (npc := 36) rfl dX8_care_35 rfl ?_
            refine aw_iaddV (npc := 37) (v := 17) dX8_care_36 rfl (by decide) ?_
            refine aw_iload_n (npc := 38) rfl dX8_care_37 rfl ?_
            refine aw_callV (npc := 41) (N := mX8_becomes) (b := 69) (mc := 0) (ms := 0) (A := [.int 17, .int v]) (S := []) (L0 := [some (.ref 69), some (.int 17), some (.int v), none]) dX8_care_38 rfl km_X8_becomes kk_X8_135 g69 ⟨by decide, rfl⟩ rfl ⟨rfl, by decide⟩ rfl (Nat.le_of_ble_eq_true rfl) (Nat.zero_add _) (Nat.zero_add _) rfl ?_
            refine aw_aload_n (npc := 1) rfl dX8_becomes_0 rfl ?_
            refine aw_get (npc := 4) dX8_becomes_1 rfl kf_X8_9 g69 rfl ?_
            refine aw_iload_n (npc := 5) rfl dX8_becomes_4 rfl ?_
            refine aw_iald (npc := 6) (x := 1) (j := 17) dX8_becomes_5 rfl g70 ⟨by decide, by decide⟩ rfl ?_
            refine aw_istore_n (npc := 7) (L' := [some (.ref 69), some (.int 17), some (.int v), some (.int 1)]) dX8_becomes_6 rfl (by decide) rfl rfl ?_
            refine aw_aload_n (npc := 8) rfl dX8_becomes_7 rfl ?_
            refine aw_get (npc := 11) dX8_becomes_8 rfl kf_X8_9 g69 rfl ?_
            refine aw_iload_n (npc := 12) rfl dX8_becomes_11 rfl ?_
            refine aw_iload_n (npc := 13) rfl dX8_becomes_12 rfl ?_
            refine aw_iast (npc := 14) (j := 17) dX8_becomes_13 rfl g70 ⟨by decide, by decide⟩ (Nat.le_of_ble_eq_true rfl) rfl ?_
            refine aw_iload_n (npc := 15) rfl dX8_becomes_14 rfl ?_
            refine aw_iret rfl dX8_becomes_15 ?_
            refine aw_re (S' := [.int 1]) rfl ?_
            refine aw_goto (npc := 46) dX8_care_41 (by decide) ?_
            refine aw_iret rfl dX8_care_46 ?_
            exact fin_m hq (show sp_care 1 1 v = 1 from (by unfold sp_care; first | rfl | (simp only [wif_t hw1, wif_t hw7, wif_t hw9, wif_same, ite_self]; done) | (simp only [wif_t hw1, wif_t hw7, wif_t hw9, wif_same, ite_self]; rfl) | (simp [wif_t hw1, wif_t hw7, wif_t hw9, wif_same]; done)))
          · refine aw_re (S' := [.int 0]) rfl ?_
            refine aw_if_eq (npc := 28) (tgt := 44) dX8_care_25 rfl (by decide) (fun _ => ?_) (fun hc => absurd (by decide) hc)
            refine aw_ldc (npc := 46) kc_X8_91 dX8_care_44 rfl ?_
            refine aw_iret rfl dX8_care_46 ?_
            exact fin_m hq (show sp_care 1 1 v = (-1000000001) from (by unfold sp_care; first | rfl | (simp only [wif_t hw1, wif_t hw7, wif_f hw9, wif_same, ite_self]; done) | (simp only [wif_t hw1, wif_t hw7, wif_f hw9, wif_same, ite_self]; rfl) | (simp [wif_t hw1, wif_t hw7, wif_f hw9, wif_same]; done)))
        · refine aw_re (S' := [.int 1]) rfl ?_
          refine aw_if_eq (npc := 18) (tgt := 44) dX8_care_15 rfl (by decide) (fun hc => absurd hc (by decide)) (fun _ => ?_)
          refine aw_iload_n (npc := 19) rfl dX8_care_18 rfl ?_
          refine aw_iconst (npc := 20) (v := 0) (by decide) dX8_care_19 rfl ?_
          refine aw_bipush (npc := 22) (v := 9) (by decide) dX8_care_20 rfl ?_
          refine aw_callS (npc := 25) (N := mX8_in) (mc := 0) (ms := 0) (A := [.int v, .int 0, .int 9]) (S := []) (L0 := [some (.int v), some (.int 0), some (.int 9)]) dX8_care_22 rfl km_X8_in kk_X8_83 rfl ⟨rfl, by decide⟩ rfl (Nat.le_of_ble_eq_true rfl) (Nat.zero_add _) (Nat.zero_add _) rfl ?_
          refine c_X8_in (fun hw10 => ?_) (fun hw10 => ?_)
          · refine aw_re (S' := [.int 1]) rfl ?_
            refine aw_if_eq (npc := 28) (tgt := 44) dX8_care_25 rfl (by decide) (fun hc => absurd hc (by decide)) (fun _ => ?_)
            refine aw_aload_n (npc := 29) rfl dX8_care_28 rfl ?_
            refine aw_bipush (npc := 31) (v := 12) (by decide) dX8_care_29 rfl ?_
            refine aw_iconst (npc := 32) (v := 4) (by decide) dX8_care_31 rfl ?_
            refine aw_iload_n (npc := 33) rfl dX8_care_32 rfl ?_
            refine aw_imulV (npc := 34) (v := 4) dX8_care_33 rfl (by decide) ?_
            refine aw_iaddV (npc := 35) (v := 16) dX8_care_34 rfl (by decide) ?_
            refine aw_iload_n (npc := 36) rfl dX8_care_35 rfl ?_
            refine aw_iaddV (npc := 37) (v := 18) dX8_care_36 rfl (by decide) ?_
            refine aw_iload_n (npc := 38) rfl dX8_care_37 rfl ?_
            refine aw_callV (npc := 41) (N := mX8_becomes) (b := 69) (mc := 0) (ms := 0) (A := [.int 18, .int v]) (S := []) (L0 := [some (.ref 69), some (.int 18), some (.int v), none]) dX8_care_38 rfl km_X8_becomes kk_X8_135 g69 ⟨by decide, rfl⟩ rfl ⟨rfl, by decide⟩ rfl (Nat.le_of_ble_eq_true rfl) (Nat.zero_add _) (Nat.zero_add _) rfl ?_
            refine aw_aload_n (npc := 1) rfl dX8_becomes_0 rfl ?_
            refine aw_get (npc := 4) dX8_becomes_1 rfl kf_X8_9 g69 rfl ?_
            refine aw_iload_n (npc := 5) rfl dX8_becomes_4 rfl ?_
            refine aw_iald (npc := 6) (x := 1) (j := 18) dX8_becomes_5 rfl g70 ⟨by decide, by decide⟩ rfl ?_
            refine aw_istore_n (npc := 7) (L' := [some (.ref 69), some (.int 18), some (.int v), some (.int 1)]) dX8_becomes_6 rfl (by decide) rfl rfl ?_
            refine aw_aload_n (npc := 8) rfl dX8_becomes_7 rfl ?_
            refine aw_get (npc := 11) dX8_becomes_8 rfl kf_X8_9 g69 rfl ?_
            refine aw_iload_n (npc := 12) rfl dX8_becomes_11 rfl ?_
            refine aw_iload_n (npc := 13) rfl dX8_becomes_12 rfl ?_
            refine aw_iast (npc := 14) (j := 18) dX8_becomes_13 rfl g70 ⟨by decide, by decide⟩ (Nat.le_of_ble_eq_true rfl) rfl ?_
            refine aw_iload_n (npc := 15) rfl dX8_becomes_14 rfl ?_
            refine aw_iret rfl dX8_becomes_15 ?_
            refine aw_re (S' := [.int 1]) rfl ?_
            refine aw_goto (npc := 46) dX8_care_41 (by decide) ?_
            refine aw_iret rfl dX8_care_46 ?_
            exact fin_m hq (show sp_care 1 2 v = 1 from (by unfold sp_care; first | rfl | (simp only [wif_t hw1, wif_t hw7, wif_t hw10, wif_same, ite_self]; done) | (simp only [wif_t hw1, wif_t hw7, wif_t hw10, wif_same, ite_self]; rfl) | (simp [wif_t hw1, wif_t hw7, wif_t hw10, wif_same]; done)))
          · refine aw_re (S' := [.int 0]) rfl ?_
            refine aw_if_eq (npc := 28) (tgt := 44) dX8_care_25 rfl (by decide) (fun _ => ?_) (fun hc => absurd (by decide) hc)
            refine aw_ldc (npc := 46) kc_X8_91 dX8_care_44 rfl ?_
            refine aw_iret rfl dX8_care_46 ?_
            exact fin_m hq (show sp_care 1 2 v = (-1000000001) from (by unfold sp_care; first | rfl | (simp only [wif_t hw1, wif_t hw7, wif_f hw10, wif_same, ite_self]; done) | (simp only [wif_t hw1, wif_t hw7, wif_f hw10, wif_same, ite_self]; rfl) | (simp [wif_t hw1, wif_t hw7, wif_f hw10, wif_same]; done)))
        · refine aw_re (S' := [.int 1]) rfl ?_
          refine aw_if_eq (npc := 18) (tgt := 44) dX8_care_15 rfl (by decide) (fun hc => absurd hc (by decide)) (fun _ => ?_)
          refine aw_iload_n (npc := 19) rfl dX8_care_18 rfl ?_
          refine aw_iconst (npc := 20) (v := 0) (by decide) dX8_care_19 rfl ?_
          refine aw_bipush (npc := 22) (v := 9) (by decide) dX8_care_20 rfl ?_
          refine aw_callS (npc := 25) (N := mX8_in) (mc := 0) (ms := 0) (A := [.int v, .int 0, .int 9]) (S := []) (L0 := [some (.int v), some (.int 0), some (.int 9)]) dX8_care_22 rfl km_X8_in kk_X8_83 rfl ⟨rfl, by decide⟩ rfl (Nat.le_of_ble_eq_true rfl) (Nat.zero_add _) (Nat.zero_add _) rfl ?_
          refine c_X8_in (fun hw11 => ?_) (fun hw11 => ?_)
          · refine aw_re (S' := [.int 1]) rfl ?_
            refine aw_if_eq (npc := 28) (tgt := 44) dX8_care_25 rfl (by decide) (fun hc => absurd hc (by decide)) (fun _ => ?_)
            refine aw_aload_n (npc := 29) rfl dX8_care_28 rfl ?_
            refine aw_bipush (npc := 31) (v := 12) (by decide) dX8_care_29 rfl ?_
            refine aw_iconst (npc := 32) (v := 4) (by decide) dX8_care_31 rfl ?_
            refine aw_iload_n (npc := 33) rfl dX8_care_32 rfl ?_
            refine aw_imulV (npc := 34) (v := 4) dX8_care_33 rfl (by decide) ?_
            refine aw_iaddV (npc := 35) (v := 16) dX8_care_34 rfl (by decide) ?_
            refine aw_iload_n (npc := 36) rfl dX8_care_35 rfl ?_
            refine aw_iaddV (npc := 37) (v := 19) dX8_care_36 rfl (by decide) ?_
            refine aw_iload_n (npc := 38) rfl dX8_care_37 rfl ?_
            refine aw_callV (npc := 41) (N := mX8_becomes) (b := 69) (mc := 0) (ms := 0) (A := [.int 19, .int v]) (S := []) (L0 := [some (.ref 69), some (.int 19), some (.int v), none]) dX8_care_38 rfl km_X8_becomes kk_X8_135 g69 ⟨by decide, rfl⟩ rfl ⟨rfl, by decide⟩ rfl (Nat.le_of_ble_eq_true rfl) (Nat.zero_add _) (Nat.zero_add _) rfl ?_
            refine aw_aload_n (npc := 1) rfl dX8_becomes_0 rfl ?_
            refine aw_get (npc := 4) dX8_becomes_1 rfl kf_X8_9 g69 rfl ?_
            refine aw_iload_n (npc := 5) rfl dX8_becomes_4 rfl ?_
            refine aw_iald (npc := 6) (x := 1) (j := 19) dX8_becomes_5 rfl g70 ⟨by decide, by decide⟩ rfl ?_
            refine aw_istore_n (npc := 7) (L' := [some (.ref 69), some (.int 19), some (.int v), some (.int 1)]) dX8_becomes_6 rfl (by decide) rfl rfl ?_
            refine aw_aload_n (npc := 8) rfl dX8_becomes_7 rfl ?_
            refine aw_get (npc := 11) dX8_becomes_8 rfl kf_X8_9 g69 rfl ?_
            refine aw_iload_n (npc := 12) rfl dX8_becomes_11 rfl ?_
            refine aw_iload_n (npc := 13) rfl dX8_becomes_12 rfl ?_
            refine aw_iast (npc := 14) (j := 19) dX8_becomes_13 rfl g70 ⟨by decide, by decide⟩ (Nat.le_of_ble_eq_true rfl) rfl ?_
            refine aw_iload_n (npc := 15) rfl dX8_becomes_14 rfl ?_
            refine aw_iret rfl dX8_becomes_15 ?_
            refine aw_re (S' := [.int 1]) rfl ?_
            refine aw_goto (npc := 46) dX8_care_41 (by decide) ?_
            refine aw_iret rfl dX8_care_46 ?_
            exact fin_m hq (show sp_care 1 3 v = 1 from (by unfold sp_care; first | rfl | (simp only [wif_t hw1, wif_t hw7, wif_t hw11, wif_same, ite_self]; done) | (simp only [wif_t hw1, wif_t hw7, wif_t hw11, wif_same, ite_self]; rfl) | (simp [wif_t hw1, wif_t hw7, wif_t hw11, wif_same]; done)))
          · refine aw_re (S' := [.int 0]) rfl ?_
            refine aw_if_eq (npc := 28) (tgt := 44) dX8_care_25 rfl (by decide) (fun _ => ?_) (fun hc => absurd (by decide) hc)
            refine aw_ldc (npc := 46) kc_X8_91 dX8_care_44 rfl ?_
            refine aw_iret rfl dX8_care_46 ?_
            exact fin_m hq (show sp_care 1 3 v = (-1000000001) from (by unfold sp_care; first | rfl | (simp only [wif_t hw1, wif_t hw7, wif_f hw11, wif_same, ite_self]; done) | (simp only [wif_t hw1, wif_t hw7, wif_f hw11, wif_same, ite_self]; rfl) | (simp [wif_t hw1, wif_t hw7, wif_f hw11, wif_same]; done)))
      · refine aw_re (S' := [.int 0]) rfl ?_
        refine aw_if_eq (npc := 18) (tgt := 44) dX8_care_15 rfl (by decide) (fun _ => ?_) (fun hc => absurd (by decide) hc)
        refine aw_ldc (npc := 46) kc_X8_91 dX8_care_44 rfl ?_
        refine aw_iret rfl dX8_care_46 ?_
        exact fin_m hq (show sp_care 1 t v = (-1000000001) from (by unfold sp_care; first | rfl | (simp only [wif_t hw1, wif_f hw7, wif_same, ite_self]; done) | (simp only [wif_t hw1, wif_f hw7, wif_same, ite_self]; rfl) | (simp [wif_t hw1, wif_f hw7, wif_same]; done)))
  · refine aw_re (S' := [.int 0]) rfl ?_
    refine aw_if_eq (npc := 9) (tgt := 44) dX8_care_6 rfl (by decide) (fun _ => ?_) (fun hc => absurd (by decide) hc)
    refine aw_ldc (npc := 46) kc_X8_91 dX8_care_44 rfl ?_
    refine aw_iret rfl dX8_care_46 ?_
    exact fin_m hq (show sp_care s t v = (-1000000001) from (by unfold sp_care; first | rfl | (simp only [wif_f hw1, wif_same, ite_self]; done) | (simp only [wif_f hw1, wif_same, ite_self]; rfl) | (simp [wif_f hw1, wif_same]; done)))
noncomputable def sp_honour (s : Int32) (v : Int32) : Int32 := wif s 0 1 (wif v 0 400 (20) (-1000000001)) (-1000000001)
set_option maxHeartbeats 40000000 in
set_option maxRecDepth 100000 in
theorem p_X7_honour {X : List Int32} {d rc rs : Nat} {h : am_H} {Q : am_Q} {s : Int32} {v : Int32} (F : f0_X7 h) (hq : ∀ h9, am_fr 69 h9 h → Q (some (.int (sp_honour s v))) 92 h9) : AW X mX7_honour (d + 12) rc rs 0 [some (.ref 0), some (.int s), some (.int v), none] [] 92 h Q := by
  obtain ⟨f0, f1, -, -, f4, -, -, -, -, -, -, -, -, -, -, -, -, -, -, -, -, -, -, -, -, -, -, -, -, -, -, -, -, -, -, -, -, -, -, -, -, -, -, -, -, -, -, -, -, -, -, -, -, -, -, -, -, -, -, -, -, -, -, -, -, -, -, -, -⟩ := F
  refine aw_iload_n (npc := 1) rfl dX7_honour_0 rfl ?_
  refine aw_callS (npc := 4) (N := mX7_isSide) (mc := 0) (ms := 0) (A := [.int s]) (S := []) (L0 := [some (.int s)]) dX7_honour_1 rfl km_X7_isSide kk_X7_71 rfl ⟨rfl, by decide⟩ rfl (Nat.le_of_ble_eq_true rfl) (Nat.zero_add _) (Nat.zero_add _) rfl ?_
  refine c_X7_isSide (fun hw1 => ?_) (fun hw1 => ?_)
  · rcases wi_c0_1 hw1 with rfl | rfl
    · refine aw_re (S' := [.int 1]) rfl ?_
      refine aw_if_eq (npc := 7) (tgt := 18) dX7_honour_4 rfl (by decide) (fun hc => absurd hc (by decide)) (fun _ => ?_)
      refine aw_iload_n (npc := 8) rfl dX7_honour_7 rfl ?_
      refine aw_iconst (npc := 9) (v := 0) (by decide) dX7_honour_8 rfl ?_
      refine aw_sipush (npc := 12) (v := 400) (by decide) dX7_honour_9 rfl ?_
      refine aw_callS (npc := 15) (N := mX7_within) (mc := 0) (ms := 0) (A := [.int v, .int 0, .int 400]) (S := []) (L0 := [some (.int v), some (.int 0), some (.int 400)]) dX7_honour_12 rfl km_X7_within kk_X7_74 rfl ⟨rfl, by decide⟩ rfl (Nat.le_of_ble_eq_true rfl) (Nat.zero_add _) (Nat.zero_add _) rfl ?_
      refine c_X7_within (fun hw2 => ?_) (fun hw2 => ?_)
      · refine aw_re (S' := [.int 1]) rfl ?_
        refine aw_if_ne (npc := 18) (tgt := 21) dX7_honour_15 rfl (by decide) (fun _ => ?_) (fun hc => absurd hc (by decide))
        refine aw_aload_n (npc := 22) rfl dX7_honour_21 rfl ?_
        refine aw_get (npc := 25) dX7_honour_22 rfl kf_X7_10 f0 rfl ?_
        refine aw_get (npc := 28) dX7_honour_25 rfl kf_X7_136 f1 rfl ?_
        refine aw_iload_n (npc := 29) rfl dX7_honour_28 rfl ?_
        refine aw_iald (npc := 30) (x := 20) (j := 0) dX7_honour_29 rfl f4 ⟨by decide, by decide⟩ rfl ?_
        refine aw_istore_n (npc := 31) (L' := [some (.ref 0), some (.int 0), some (.int v), some (.int 20)]) dX7_honour_30 rfl (by decide) rfl rfl ?_
        refine aw_aload_n (npc := 32) rfl dX7_honour_31 rfl ?_
        refine aw_get (npc := 35) dX7_honour_32 rfl kf_X7_10 f0 rfl ?_
        refine aw_get (npc := 38) dX7_honour_35 rfl kf_X7_136 f1 rfl ?_
        refine aw_iload_n (npc := 39) rfl dX7_honour_38 rfl ?_
        refine aw_iload_n (npc := 40) rfl dX7_honour_39 rfl ?_
        refine aw_iast (npc := 41) (j := 0) dX7_honour_40 rfl f4 ⟨by decide, by decide⟩ (Nat.le_of_ble_eq_true rfl) (show _ = am_up _ 4 (.inl (0, [v, 20])) from rfl) ?_
        refine aw_iload_n (npc := 42) rfl dX7_honour_41 rfl ?_
        refine aw_iret rfl dX7_honour_42 ?_
        exact fin_c hq (am_frU (by decide) am_fr0) (show sp_honour 0 v = 20 from (by unfold sp_honour; first | rfl | (simp only [wif_t hw1, wif_t hw2, wif_same, ite_self]; done) | (simp only [wif_t hw1, wif_t hw2, wif_same, ite_self]; rfl) | (simp [wif_t hw1, wif_t hw2, wif_same]; done)))
      · refine aw_re (S' := [.int 0]) rfl ?_
        refine aw_if_ne (npc := 18) (tgt := 21) dX7_honour_15 rfl (by decide) (fun hc => absurd (by decide) hc) (fun _ => ?_)
        refine aw_ldc (npc := 20) kc_X7_78 dX7_honour_18 rfl ?_
        refine aw_iret rfl dX7_honour_20 ?_
        exact fin_c hq am_fr0 (show sp_honour 0 v = (-1000000001) from (by unfold sp_honour; first | rfl | (simp only [wif_t hw1, wif_f hw2, wif_same, ite_self]; done) | (simp only [wif_t hw1, wif_f hw2, wif_same, ite_self]; rfl) | (simp [wif_t hw1, wif_f hw2, wif_same]; done)))
    · refine aw_re (S' := [.int 1]) rfl ?_
      refine aw_if_eq (npc := 7) (tgt := 18) dX7_honour_4 rfl (by decide) (fun hc => absurd hc (by decide)) (fun _ => ?_)
      refine aw_iload_n (npc := 8) rfl dX7_honour_7 rfl ?_
      refine aw_iconst (npc := 9) (v := 0) (by decide) dX7_honour_8 rfl ?_
      refine aw_sipush (npc := 12) (v := 400) (by decide) dX7_honour_9 rfl ?_
      refine aw_callS (npc := 15) (N := mX7_within) (mc := 0) (ms := 0) (A := [.int v, .int 0, .int 400]) (S := []) (L0 := [some (.int v), some (.int 0), some (.int 400)]) dX7_honour_12 rfl km_X7_within kk_X7_74 rfl ⟨rfl, by decide⟩ rfl (Nat.le_of_ble_eq_true rfl) (Nat.zero_add _) (Nat.zero_add _) rfl ?_
      refine c_X7_within (fun hw3 => ?_) (fun hw3 => ?_)
      · refine aw_re (S' := [.int 1]) rfl ?_
        refine aw_if_ne (npc := 18) (tgt := 21) dX7_honour_15 rfl (by decide) (fun _ => ?_) (fun hc => absurd hc (by decide))
        refine aw_aload_n (npc := 22) rfl dX7_honour_21 rfl ?_
        refine aw_get (npc := 25) dX7_honour_22 rfl kf_X7_10 f0 rfl ?_
        refine aw_get (npc := 28) dX7_honour_25 rfl kf_X7_136 f1 rfl ?_
        refine aw_iload_n (npc := 29) rfl dX7_honour_28 rfl ?_
        refine aw_iald (npc := 30) (x := 20) (j := 1) dX7_honour_29 rfl f4 ⟨by decide, by decide⟩ rfl ?_
        refine aw_istore_n (npc := 31) (L' := [some (.ref 0), some (.int 1), some (.int v), some (.int 20)]) dX7_honour_30 rfl (by decide) rfl rfl ?_
        refine aw_aload_n (npc := 32) rfl dX7_honour_31 rfl ?_
        refine aw_get (npc := 35) dX7_honour_32 rfl kf_X7_10 f0 rfl ?_
        refine aw_get (npc := 38) dX7_honour_35 rfl kf_X7_136 f1 rfl ?_
        refine aw_iload_n (npc := 39) rfl dX7_honour_38 rfl ?_
        refine aw_iload_n (npc := 40) rfl dX7_honour_39 rfl ?_
        refine aw_iast (npc := 41) (j := 1) dX7_honour_40 rfl f4 ⟨by decide, by decide⟩ (Nat.le_of_ble_eq_true rfl) (show _ = am_up _ 4 (.inl (0, [20, v])) from rfl) ?_
        refine aw_iload_n (npc := 42) rfl dX7_honour_41 rfl ?_
        refine aw_iret rfl dX7_honour_42 ?_
        exact fin_c hq (am_frU (by decide) am_fr0) (show sp_honour 1 v = 20 from (by unfold sp_honour; first | rfl | (simp only [wif_t hw1, wif_t hw3, wif_same, ite_self]; done) | (simp only [wif_t hw1, wif_t hw3, wif_same, ite_self]; rfl) | (simp [wif_t hw1, wif_t hw3, wif_same]; done)))
      · refine aw_re (S' := [.int 0]) rfl ?_
        refine aw_if_ne (npc := 18) (tgt := 21) dX7_honour_15 rfl (by decide) (fun hc => absurd (by decide) hc) (fun _ => ?_)
        refine aw_ldc (npc := 20) kc_X7_78 dX7_honour_18 rfl ?_
        refine aw_iret rfl dX7_honour_20 ?_
        exact fin_c hq am_fr0 (show sp_honour 1 v = (-1000000001) from (by unfold sp_honour; first | rfl | (simp only [wif_t hw1, wif_f hw3, wif_same, ite_self]; done) | (simp only [wif_t hw1, wif_f hw3, wif_same, ite_self]; rfl) | (simp [wif_t hw1, wif_f hw3, wif_same]; done)))
  · refine aw_re (S' := [.int 0]) rfl ?_
    refine aw_if_eq (npc := 7) (tgt := 18) dX7_honour_4 rfl (by decide) (fun _ => ?_) (fun hc => absurd (by decide) hc)
    refine aw_ldc (npc := 20) kc_X7_78 dX7_honour_18 rfl ?_
    refine aw_iret rfl dX7_honour_20 ?_
    exact fin_c hq am_fr0 (show sp_honour s v = (-1000000001) from (by unfold sp_honour; first | rfl | (simp only [wif_f hw1, wif_same, ite_self]; done) | (simp only [wif_f hw1, wif_same, ite_self]; rfl) | (simp [wif_f hw1, wif_same]; done)))
set_option maxHeartbeats 40000000 in
set_option maxRecDepth 100000 in
theorem p_X8_honour {X : List Int32} {d rc rs : Nat} {h : am_H} {Q : am_Q} {s : Int32} {v : Int32} (F : f0_X8 h) (hq : ∀ n9 h9, Q (some (.int (sp_honour s v))) n9 h9) : AW X mX8_honour (d + 12) rc rs 0 [some (.ref 69), some (.int s), some (.int v)] [] 92 h Q := by
  obtain ⟨g69, g70, -, -, -, -, -, -, -, -, -, -, -, -, -, -, -, -, -, -, -, -, -⟩ := F
  refine aw_iload_n (npc := 1) rfl dX8_honour_0 rfl ?_
  refine aw_iconst (npc := 2) (v := 0) (by decide) dX8_honour_1 rfl ?_
  refine aw_iconst (npc := 3) (v := 1) (by decide) dX8_honour_2 rfl ?_
  refine aw_callS (npc := 6) (N := mX8_in) (mc := 0) (ms := 0) (A := [.int s, .int 0, .int 1]) (S := []) (L0 := [some (.int s), some (.int 0), some (.int 1)]) dX8_honour_3 rfl km_X8_in kk_X8_83 rfl ⟨rfl, by decide⟩ rfl (Nat.le_of_ble_eq_true rfl) (Nat.zero_add _) (Nat.zero_add _) rfl ?_
  refine c_X8_in (fun hw1 => ?_) (fun hw1 => ?_)
  · rcases wi_c0_1 hw1 with rfl | rfl
    · refine aw_re (S' := [.int 1]) rfl ?_
      refine aw_if_eq (npc := 9) (tgt := 32) dX8_honour_6 rfl (by decide) (fun hc => absurd hc (by decide)) (fun _ => ?_)
      refine aw_iload_n (npc := 10) rfl dX8_honour_9 rfl ?_
      refine aw_iconst (npc := 11) (v := 0) (by decide) dX8_honour_10 rfl ?_
      refine aw_sipush (npc := 14) (v := 400) (by decide) dX8_honour_11 rfl ?_
      refine aw_callS (npc := 17) (N := mX8_in) (mc := 0) (ms := 0) (A := [.int v, .int 0, .int 400]) (S := []) (L0 := [some (.int v), some (.int 0), some (.int 400)]) dX8_honour_14 rfl km_X8_in kk_X8_83 rfl ⟨rfl, by decide⟩ rfl (Nat.le_of_ble_eq_true rfl) (Nat.zero_add _) (Nat.zero_add _) rfl ?_
      refine c_X8_in (fun hw2 => ?_) (fun hw2 => ?_)
      · refine aw_re (S' := [.int 1]) rfl ?_
        refine aw_if_eq (npc := 20) (tgt := 32) dX8_honour_17 rfl (by decide) (fun hc => absurd hc (by decide)) (fun _ => ?_)
        refine aw_aload_n (npc := 21) rfl dX8_honour_20 rfl ?_
        refine aw_bipush (npc := 23) (v := 20) (by decide) dX8_honour_21 rfl ?_
        refine aw_iload_n (npc := 24) rfl dX8_honour_23 rfl ?_
        refine aw_iaddV (npc := 25) (v := 20) dX8_honour_24 rfl (by decide) ?_
        refine aw_iload_n (npc := 26) rfl dX8_honour_25 rfl ?_
        refine aw_callV (npc := 29) (N := mX8_becomes) (b := 69) (mc := 0) (ms := 0) (A := [.int 20, .int v]) (S := []) (L0 := [some (.ref 69), some (.int 20), some (.int v), none]) dX8_honour_26 rfl km_X8_becomes kk_X8_135 g69 ⟨by decide, rfl⟩ rfl ⟨rfl, by decide⟩ rfl (Nat.le_of_ble_eq_true rfl) (Nat.zero_add _) (Nat.zero_add _) rfl ?_
        refine aw_aload_n (npc := 1) rfl dX8_becomes_0 rfl ?_
        refine aw_get (npc := 4) dX8_becomes_1 rfl kf_X8_9 g69 rfl ?_
        refine aw_iload_n (npc := 5) rfl dX8_becomes_4 rfl ?_
        refine aw_iald (npc := 6) (x := 20) (j := 20) dX8_becomes_5 rfl g70 ⟨by decide, by decide⟩ rfl ?_
        refine aw_istore_n (npc := 7) (L' := [some (.ref 69), some (.int 20), some (.int v), some (.int 20)]) dX8_becomes_6 rfl (by decide) rfl rfl ?_
        refine aw_aload_n (npc := 8) rfl dX8_becomes_7 rfl ?_
        refine aw_get (npc := 11) dX8_becomes_8 rfl kf_X8_9 g69 rfl ?_
        refine aw_iload_n (npc := 12) rfl dX8_becomes_11 rfl ?_
        refine aw_iload_n (npc := 13) rfl dX8_becomes_12 rfl ?_
        refine aw_iast (npc := 14) (j := 20) dX8_becomes_13 rfl g70 ⟨by decide, by decide⟩ (Nat.le_of_ble_eq_true rfl) rfl ?_
        refine aw_iload_n (npc := 15) rfl dX8_becomes_14 rfl ?_
        refine aw_iret rfl dX8_becomes_15 ?_
        refine aw_re (S' := [.int 20]) rfl ?_
        refine aw_goto (npc := 34) dX8_honour_29 (by decide) ?_
        refine aw_iret rfl dX8_honour_34 ?_
        exact fin_m hq (show sp_honour 0 v = 20 from (by unfold sp_honour; first | rfl | (simp only [wif_t hw1, wif_t hw2, wif_same, ite_self]; done) | (simp only [wif_t hw1, wif_t hw2, wif_same, ite_self]; rfl) | (simp [wif_t hw1, wif_t hw2, wif_same]; done)))
      · refine aw_re (S' := [.int 0]) rfl ?_
        refine aw_if_eq (npc := 20) (tgt := 32) dX8_honour_17 rfl (by decide) (fun _ => ?_) (fun hc => absurd (by decide) hc)
        refine aw_ldc (npc := 34) kc_X8_91 dX8_honour_32 rfl ?_
        refine aw_iret rfl dX8_honour_34 ?_
        exact fin_m hq (show sp_honour 0 v = (-1000000001) from (by unfold sp_honour; first | rfl | (simp only [wif_t hw1, wif_f hw2, wif_same, ite_self]; done) | (simp only [wif_t hw1, wif_f hw2, wif_same, ite_self]; rfl) | (simp [wif_t hw1, wif_f hw2, wif_same]; done)))
    · refine aw_re (S' := [.int 1]) rfl ?_
      refine aw_if_eq (npc := 9) (tgt := 32) dX8_honour_6 rfl (by decide) (fun hc => absurd hc (by decide)) (fun _ => ?_)
      refine aw_iload_n (npc := 10) rfl dX8_honour_9 rfl ?_
      refine aw_iconst (npc := 11) (v := 0) (by decide) dX8_honour_10 rfl ?_
      refine aw_sipush (npc := 14) (v := 400) (by decide) dX8_honour_11 rfl ?_
      refine aw_callS (npc := 17) (N := mX8_in) (mc := 0) (ms := 0) (A := [.int v, .int 0, .int 400]) (S := []) (L0 := [some (.int v), some (.int 0), some (.int 400)]) dX8_honour_14 rfl km_X8_in kk_X8_83 rfl ⟨rfl, by decide⟩ rfl (Nat.le_of_ble_eq_true rfl) (Nat.zero_add _) (Nat.zero_add _) rfl ?_
      refine c_X8_in (fun hw3 => ?_) (fun hw3 => ?_)
      · refine aw_re (S' := [.int 1]) rfl ?_
        refine aw_if_eq (npc := 20) (tgt := 32) dX8_honour_17 rfl (by decide) (fun hc => absurd hc (by decide)) (fun _ => ?_)
        refine aw_aload_n (npc := 21) rfl dX8_honour_20 rfl ?_
        refine aw_bipush (npc := 23) (v := 20) (by decide) dX8_honour_21 rfl ?_
        refine aw_iload_n (npc := 24) rfl dX8_honour_23 rfl ?_
        refine aw_iaddV (npc := 25) (v := 21) dX8_honour_24 rfl (by decide) ?_
        refine aw_iload_n (npc := 26) rfl dX8_honour_25 rfl ?_
        refine aw_callV (npc := 29) (N := mX8_becomes) (b := 69) (mc := 0) (ms := 0) (A := [.int 21, .int v]) (S := []) (L0 := [some (.ref 69), some (.int 21), some (.int v), none]) dX8_honour_26 rfl km_X8_becomes kk_X8_135 g69 ⟨by decide, rfl⟩ rfl ⟨rfl, by decide⟩ rfl (Nat.le_of_ble_eq_true rfl) (Nat.zero_add _) (Nat.zero_add _) rfl ?_
        refine aw_aload_n (npc := 1) rfl dX8_becomes_0 rfl ?_
        refine aw_get (npc := 4) dX8_becomes_1 rfl kf_X8_9 g69 rfl ?_
        refine aw_iload_n (npc := 5) rfl dX8_becomes_4 rfl ?_
        refine aw_iald (npc := 6) (x := 20) (j := 21) dX8_becomes_5 rfl g70 ⟨by decide, by decide⟩ rfl ?_
        refine aw_istore_n (npc := 7) (L' := [some (.ref 69), some (.int 21), some (.int v), some (.int 20)]) dX8_becomes_6 rfl (by decide) rfl rfl ?_
        refine aw_aload_n (npc := 8) rfl dX8_becomes_7 rfl ?_
        refine aw_get (npc := 11) dX8_becomes_8 rfl kf_X8_9 g69 rfl ?_
        refine aw_iload_n (npc := 12) rfl dX8_becomes_11 rfl ?_
        refine aw_iload_n (npc := 13) rfl dX8_becomes_12 rfl ?_
        refine aw_iast (npc := 14) (j := 21) dX8_becomes_13 rfl g70 ⟨by decide, by decide⟩ (Nat.le_of_ble_eq_true rfl) rfl ?_
        refine aw_iload_n (npc := 15) rfl dX8_becomes_14 rfl ?_
        refine aw_iret rfl dX8_becomes_15 ?_
        refine aw_re (S' := [.int 20]) rfl ?_
        refine aw_goto (npc := 34) dX8_honour_29 (by decide) ?_
        refine aw_iret rfl dX8_honour_34 ?_
        exact fin_m hq (show sp_honour 1 v = 20 from (by unfold sp_honour; first | rfl | (simp only [wif_t hw1, wif_t hw3, wif_same, ite_self]; done) | (simp only [wif_t hw1, wif_t hw3, wif_same, ite_self]; rfl) | (simp [wif_t hw1, wif_t hw3, wif_same]; done)))
      · refine aw_re (S' := [.int 0]) rfl ?_
        refine aw_if_eq (npc := 20) (tgt := 32) dX8_honour_17 rfl (by decide) (fun _ => ?_) (fun hc => absurd (by decide) hc)
        refine aw_ldc (npc := 34) kc_X8_91 dX8_honour_32 rfl ?_
        refine aw_iret rfl dX8_honour_34 ?_
        exact fin_m hq (show sp_honour 1 v = (-1000000001) from (by unfold sp_honour; first | rfl | (simp only [wif_t hw1, wif_f hw3, wif_same, ite_self]; done) | (simp only [wif_t hw1, wif_f hw3, wif_same, ite_self]; rfl) | (simp [wif_t hw1, wif_f hw3, wif_same]; done)))
  · refine aw_re (S' := [.int 0]) rfl ?_
    refine aw_if_eq (npc := 9) (tgt := 32) dX8_honour_6 rfl (by decide) (fun _ => ?_) (fun hc => absurd (by decide) hc)
    refine aw_ldc (npc := 34) kc_X8_91 dX8_honour_32 rfl ?_
    refine aw_iret rfl dX8_honour_34 ?_
    exact fin_m hq (show sp_honour s v = (-1000000001) from (by unfold sp_honour; first | rfl | (simp only [wif_f hw1, wif_same, ite_self]; done) | (simp only [wif_f hw1, wif_same, ite_self]; rfl) | (simp [wif_f hw1, wif_same]; done)))
noncomputable def sp_seed (v : Int32) : Int32 := 1
set_option maxHeartbeats 40000000 in
set_option maxRecDepth 100000 in
theorem p_X7_seed {X : List Int32} {d rc rs : Nat} {h : am_H} {Q : am_Q} {v : Int32} (F : f0_X7 h) (hq : ∀ h9, am_fr 69 h9 h → Q (some (.int (sp_seed v))) 92 h9) : AW X mX7_seed (d + 12) rc rs 0 [some (.ref 0), some (.int v), none] [] 92 h Q := by
  obtain ⟨f0, f1, -, -, -, -, -, -, -, -, -, -, -, -, -, -, -, -, -, -, -, -, -, -, -, -, -, -, -, -, -, -, -, -, -, -, -, -, -, -, -, -, -, -, -, -, -, -, -, -, -, -, -, -, -, -, -, -, -, -, -, -, -, -, -, -, -, -, -⟩ := F
  refine aw_aload_n (npc := 1) rfl dX7_seed_0 rfl ?_
  refine aw_get (npc := 4) dX7_seed_1 rfl kf_X7_10 f0 rfl ?_
  refine aw_get (npc := 7) dX7_seed_4 rfl kf_X7_157 f1 rfl ?_
  refine aw_istore_n (npc := 8) (L' := [some (.ref 0), some (.int v), some (.int 1)]) dX7_seed_7 rfl (by decide) rfl rfl ?_
  refine aw_aload_n (npc := 9) rfl dX7_seed_8 rfl ?_
  refine aw_get (npc := 12) dX7_seed_9 rfl kf_X7_10 f0 rfl ?_
  refine aw_iload_n (npc := 13) rfl dX7_seed_12 rfl ?_
  refine aw_put (npc := 16) dX7_seed_13 rfl kf_X7_157 f1 (Nat.le_of_ble_eq_true rfl) (am_ok_int _) rfl ?_
  refine aw_iload_n (npc := 17) rfl dX7_seed_16 rfl ?_
  refine aw_iret rfl dX7_seed_17 ?_
  exact fin_c hq (am_frU (by decide) am_fr0) (show sp_seed v = 1 from (by unfold sp_seed; first | rfl | (simp only [wif_same, ite_self]; done) | (simp only [wif_same, ite_self]; rfl) | (simp [wif_same]; done)))
set_option maxHeartbeats 40000000 in
set_option maxRecDepth 100000 in
theorem p_X8_seed {X : List Int32} {d rc rs : Nat} {h : am_H} {Q : am_Q} {v : Int32} (F : f0_X8 h) (hq : ∀ n9 h9, Q (some (.int (sp_seed v))) n9 h9) : AW X mX8_seed (d + 12) rc rs 0 [some (.ref 69), some (.int v)] [] 92 h Q := by
  obtain ⟨g69, g70, -, -, -, -, -, -, -, -, -, -, -, -, -, -, -, -, -, -, -, -, -⟩ := F
  refine aw_aload_n (npc := 1) rfl dX8_seed_0 rfl ?_
  refine aw_iconst (npc := 2) (v := 0) (by decide) dX8_seed_1 rfl ?_
  refine aw_iload_n (npc := 3) rfl dX8_seed_2 rfl ?_
  refine aw_callV (npc := 6) (N := mX8_becomes) (b := 69) (mc := 0) (ms := 0) (A := [.int 0, .int v]) (S := []) (L0 := [some (.ref 69), some (.int 0), some (.int v), none]) dX8_seed_3 rfl km_X8_becomes kk_X8_135 g69 ⟨by decide, rfl⟩ rfl ⟨rfl, by decide⟩ rfl (Nat.le_of_ble_eq_true rfl) (Nat.zero_add _) (Nat.zero_add _) rfl ?_
  refine aw_aload_n (npc := 1) rfl dX8_becomes_0 rfl ?_
  refine aw_get (npc := 4) dX8_becomes_1 rfl kf_X8_9 g69 rfl ?_
  refine aw_iload_n (npc := 5) rfl dX8_becomes_4 rfl ?_
  refine aw_iald (npc := 6) (x := 1) (j := 0) dX8_becomes_5 rfl g70 ⟨by decide, by decide⟩ rfl ?_
  refine aw_istore_n (npc := 7) (L' := [some (.ref 69), some (.int 0), some (.int v), some (.int 1)]) dX8_becomes_6 rfl (by decide) rfl rfl ?_
  refine aw_aload_n (npc := 8) rfl dX8_becomes_7 rfl ?_
  refine aw_get (npc := 11) dX8_becomes_8 rfl kf_X8_9 g69 rfl ?_
  refine aw_iload_n (npc := 12) rfl dX8_becomes_11 rfl ?_
  refine aw_iload_n (npc := 13) rfl dX8_becomes_12 rfl ?_
  refine aw_iast (npc := 14) (j := 0) dX8_becomes_13 rfl g70 ⟨by decide, by decide⟩ (Nat.le_of_ble_eq_true rfl) rfl ?_
  refine aw_iload_n (npc := 15) rfl dX8_becomes_14 rfl ?_
  refine aw_iret rfl dX8_becomes_15 ?_
  refine aw_re (S' := [.int 1]) rfl ?_
  refine aw_iret rfl dX8_seed_6 ?_
  exact fin_m hq (show sp_seed v = 1 from (by unfold sp_seed; first | rfl | (simp only [wif_same, ite_self]; done) | (simp only [wif_same, ite_self]; rfl) | (simp [wif_same]; done)))
noncomputable def sp_table (w : Int32) : Int32 := if w = 0 then 20 else if w = 1 then 16 else if w = 2 then 0 else if w = 3 then 5555 else if w = 4 then 0 else if w = 5 then 0 else if w = 6 then 0 else (-1000000001)
set_option maxHeartbeats 40000000 in
set_option maxRecDepth 100000 in
theorem p_X7_table {X : List Int32} {d rc rs : Nat} {h : am_H} {Q : am_Q} {w : Int32} (F : f0_X7 h) (hq : ∀ h9, am_fr 69 h9 h → Q (some (.int (sp_table w))) 92 h9) : AW X mX7_table (d + 12) rc rs 0 [some (.ref 0), some (.int w)] [] 92 h Q := by
  obtain ⟨f0, f1, f2, f3, f4, -, -, -, -, -, -, -, -, -, -, -, -, -, -, -, -, -, -, -, -, -, -, -, -, -, -, -, -, -, -, -, -, -, -, -, -, -, -, -, -, -, -, -, -, -, -, -, -, -, -, -, -, -, -, -, -, -, -, -, -, -, -, -, -⟩ := F
  refine aw_iload_n (npc := 1) rfl dX7_table_0 rfl ?_
  rcases sw_6 w with rfl | rfl | rfl | rfl | rfl | rfl | rfl | hs1
  · refine aw_tableIn (npc := 44) dX7_table_1 (by decide) (by decide) rfl (by decide) ?_
    refine aw_aload_n (npc := 45) rfl dX7_table_44 rfl ?_
    refine aw_get (npc := 48) dX7_table_45 rfl kf_X7_10 f0 rfl ?_
    refine aw_iconst (npc := 49) (v := 0) (by decide) dX7_table_48 rfl ?_
    refine aw_callV (npc := 52) (N := mX0_hasOf) (b := 1) (mc := 0) (ms := 0) (A := [.int 0]) (S := []) (L0 := [some (.ref 1), some (.int 0), none, none, none]) dX7_table_49 rfl km_X0_hasOf kk_X7_166 f1 ⟨by decide, rfl⟩ rfl ⟨rfl, by decide⟩ rfl (Nat.le_of_ble_eq_true rfl) (Nat.zero_add _) (Nat.zero_add _) rfl ?_
    refine aw_iconst (npc := 1) (v := 0) (by decide) dX0_hasOf_0 rfl ?_
    refine aw_istore_n (npc := 2) (L' := [some (.ref 1), some (.int 0), some (.int 0), none, none]) dX0_hasOf_1 rfl (by decide) rfl rfl ?_
    refine aw_iconst (npc := 3) (v := 0) (by decide) dX0_hasOf_2 rfl ?_
    refine aw_istore_n (npc := 4) (L' := [some (.ref 1), some (.int 0), some (.int 0), some (.int 0), none]) dX0_hasOf_3 rfl (by decide) rfl rfl ?_
    refine aw_iload_n (npc := 5) rfl dX0_hasOf_4 rfl ?_
    refine aw_iconst (npc := 6) (v := 4) (by decide) dX0_hasOf_5 rfl ?_
    refine aw_icmp_ge (npc := 9) (tgt := 55) dX0_hasOf_6 rfl (by decide) (fun hc => absurd hc (by decide)) (fun _ => ?_)
    refine aw_iload_n (npc := 10) rfl dX0_hasOf_9 rfl ?_
    refine aw_if_ne (npc := 13) (tgt := 22) dX0_hasOf_10 rfl (by decide) (fun hc => absurd (by decide) hc) (fun _ => ?_)
    refine aw_aload_n (npc := 14) rfl dX0_hasOf_13 rfl ?_
    refine aw_get (npc := 17) dX0_hasOf_14 rfl kf_X0_9 f1 rfl ?_
    refine aw_iload_n (npc := 18) rfl dX0_hasOf_17 rfl ?_
    refine aw_iald (npc := 19) (x := 5) (j := 0) dX0_hasOf_18 rfl f2 ⟨by decide, by decide⟩ rfl ?_
    refine aw_goto (npc := 31) dX0_hasOf_19 (by decide) ?_
    refine aw_istore (npc := 33) (L' := [some (.ref 1), some (.int 0), some (.int 0), some (.int 0), some (.int 5)]) dX0_hasOf_31 rfl (by decide) rfl rfl ?_
    refine aw_iload_n (npc := 34) rfl dX0_hasOf_33 rfl ?_
    refine aw_aload_n (npc := 35) rfl dX0_hasOf_34 rfl ?_
    refine aw_get (npc := 38) dX0_hasOf_35 rfl kf_X0_15 f1 rfl ?_
    refine aw_iload_n (npc := 39) rfl dX0_hasOf_38 rfl ?_
    refine aw_iload_n (npc := 40) rfl dX0_hasOf_39 rfl ?_
    refine aw_callSN (npc := 43) (N := mX7_carePlace) (mc := 0) (ms := 0) (A := [.int 0, .int 0]) (S := [.ref 3, .int 0]) (L0 := [some (.int 0), some (.int 0)]) dX0_hasOf_40 rfl km_X7_carePlace kk_X0_87 rfl ⟨rfl, by decide⟩ rfl (Nat.le_of_ble_eq_true rfl) (Nat.zero_add _) (Nat.zero_add _) rfl ?_
    refine aw_iload_n (npc := 1) rfl dX7_carePlace_0 rfl ?_
    refine aw_iconst (npc := 2) (v := 4) (by decide) dX7_carePlace_1 rfl ?_
    refine aw_imulV (npc := 3) (v := 0) dX7_carePlace_2 rfl (by decide) ?_
    refine aw_iload_n (npc := 4) rfl dX7_carePlace_3 rfl ?_
    refine aw_iaddV (npc := 5) (v := 0) dX7_carePlace_4 rfl (by decide) ?_
    refine aw_iret rfl dX7_carePlace_5 ?_
    refine aw_re (S' := [.int 0, .ref 3, .int 0]) rfl ?_
    refine aw_iald (npc := 44) (x := 1) (j := 0) dX0_hasOf_43 rfl f3 ⟨by decide, by decide⟩ rfl ?_
    refine aw_iload (npc := 46) rfl dX0_hasOf_44 rfl ?_
    refine aw_imulV (npc := 47) (v := 5) dX0_hasOf_46 rfl (by decide) ?_
    refine aw_iaddV (npc := 48) (v := 5) dX0_hasOf_47 rfl (by decide) ?_
    refine aw_istore_n (npc := 49) (L' := [some (.ref 1), some (.int 0), some (.int 5), some (.int 0), some (.int 5)]) dX0_hasOf_48 rfl (by decide) rfl rfl ?_
    refine aw_iinc (npc := 52) (v := 1) (L' := [some (.ref 1), some (.int 0), some (.int 5), some (.int 1), some (.int 5)]) dX0_hasOf_49 rfl rfl (by decide) (by decide) rfl rfl ?_
    refine aw_goto (npc := 4) dX0_hasOf_52 (by decide) ?_
    refine aw_iload_n (npc := 5) rfl dX0_hasOf_4 rfl ?_
    refine aw_iconst (npc := 6) (v := 4) (by decide) dX0_hasOf_5 rfl ?_
    refine aw_icmp_ge (npc := 9) (tgt := 55) dX0_hasOf_6 rfl (by decide) (fun hc => absurd hc (by decide)) (fun _ => ?_)
    refine aw_iload_n (npc := 10) rfl dX0_hasOf_9 rfl ?_
    refine aw_if_ne (npc := 13) (tgt := 22) dX0_hasOf_10 rfl (by decide) (fun hc => absurd (by decide) hc) (fun _ => ?_)
    refine aw_aload_n (npc := 14) rfl dX0_hasOf_13 rfl ?_
    refine aw_get (npc := 17) dX0_hasOf_14 rfl kf_X0_9 f1 rfl ?_
    refine aw_iload_n (npc := 18) rfl dX0_hasOf_17 rfl ?_
    refine aw_iald (npc := 19) (x := 5) (j := 1) dX0_hasOf_18 rfl f2 ⟨by decide, by decide⟩ rfl ?_
    refine aw_goto (npc := 31) dX0_hasOf_19 (by decide) ?_
    refine aw_istore (npc := 33) (L' := [some (.ref 1), some (.int 0), some (.int 5), some (.int 1), some (.int 5)]) dX0_hasOf_31 rfl (by decide) rfl rfl ?_
    refine aw_iload_n (npc := 34) rfl dX0_hasOf_33 rfl ?_
    refine aw_aload_n (npc := 35) rfl dX0_hasOf_34 rfl ?_
    refine aw_get (npc := 38) dX0_hasOf_35 rfl kf_X0_15 f1 rfl ?_
    refine aw_iload_n (npc := 39) rfl dX0_hasOf_38 rfl ?_
    refine aw_iload_n (npc := 40) rfl dX0_hasOf_39 rfl ?_
    refine aw_callSN (npc := 43) (N := mX7_carePlace) (mc := 0) (ms := 0) (A := [.int 0, .int 1]) (S := [.ref 3, .int 5]) (L0 := [some (.int 0), some (.int 1)]) dX0_hasOf_40 rfl km_X7_carePlace kk_X0_87 rfl ⟨rfl, by decide⟩ rfl (Nat.le_of_ble_eq_true rfl) (Nat.zero_add _) (Nat.zero_add _) rfl ?_
    refine aw_iload_n (npc := 1) rfl dX7_carePlace_0 rfl ?_
    refine aw_iconst (npc := 2) (v := 4) (by decide) dX7_carePlace_1 rfl ?_
    refine aw_imulV (npc := 3) (v := 0) dX7_carePlace_2 rfl (by decide) ?_
    refine aw_iload_n (npc := 4) rfl dX7_carePlace_3 rfl ?_
    refine aw_iaddV (npc := 5) (v := 1) dX7_carePlace_4 rfl (by decide) ?_
    refine aw_iret rfl dX7_carePlace_5 ?_
    refine aw_re (S' := [.int 1, .ref 3, .int 5]) rfl ?_
    refine aw_iald (npc := 44) (x := 1) (j := 1) dX0_hasOf_43 rfl f3 ⟨by decide, by decide⟩ rfl ?_
    refine aw_iload (npc := 46) rfl dX0_hasOf_44 rfl ?_
    refine aw_imulV (npc := 47) (v := 5) dX0_hasOf_46 rfl (by decide) ?_
    refine aw_iaddV (npc := 48) (v := 10) dX0_hasOf_47 rfl (by decide) ?_
    refine aw_istore_n (npc := 49) (L' := [some (.ref 1), some (.int 0), some (.int 10), some (.int 1), some (.int 5)]) dX0_hasOf_48 rfl (by decide) rfl rfl ?_
    refine aw_iinc (npc := 52) (v := 2) (L' := [some (.ref 1), some (.int 0), some (.int 10), some (.int 2), some (.int 5)]) dX0_hasOf_49 rfl rfl (by decide) (by decide) rfl rfl ?_
    refine aw_goto (npc := 4) dX0_hasOf_52 (by decide) ?_
    refine aw_iload_n (npc := 5) rfl dX0_hasOf_4 rfl ?_
    refine aw_iconst (npc := 6) (v := 4) (by decide) dX0_hasOf_5 rfl ?_
    refine aw_icmp_ge (npc := 9) (tgt := 55) dX0_hasOf_6 rfl (by decide) (fun hc => absurd hc (by decide)) (fun _ => ?_)
    refine aw_iload_n (npc := 10) rfl dX0_hasOf_9 rfl ?_
    refine aw_if_ne (npc := 13) (tgt := 22) dX0_hasOf_10 rfl (by decide) (fun hc => absurd (by decide) hc) (fun _ => ?_)
    refine aw_aload_n (npc := 14) rfl dX0_hasOf_13 rfl ?_
    refine aw_get (npc := 17) dX0_hasOf_14 rfl kf_X0_9 f1 rfl ?_
    refine aw_iload_n (npc := 18) rfl dX0_hasOf_17 rfl ?_
    refine aw_iald (npc := 19) (x := 5) (j := 2) dX0_hasOf_18 rfl f2 ⟨by decide, by decide⟩ rfl ?_
    refine aw_goto (npc := 31) dX0_hasOf_19 (by decide) ?_
    refine aw_istore (npc := 33) (L' := [some (.ref 1), some (.int 0), some (.int 10), some (.int 2), some (.int 5)]) dX0_hasOf_31 rfl (by decide) rfl rfl ?_
    refine aw_iload_n (npc := 34) rfl dX0_hasOf_33 rfl ?_
    refine aw_aload_n (npc := 35) rfl dX0_hasOf_34 rfl ?_
    refine aw_get (npc := 38) dX0_hasOf_35 rfl kf_X0_15 f1 rfl ?_
    refine aw_iload_n (npc := 39) rfl dX0_hasOf_38 rfl ?_
    refine aw_iload_n (npc := 40) rfl dX0_hasOf_39 rfl ?_
    refine aw_callSN (npc := 43) (N := mX7_carePlace) (mc := 0) (ms := 0) (A := [.int 0, .int 2]) (S := [.ref 3, .int 10]) (L0 := [some (.int 0), some (.int 2)]) dX0_hasOf_40 rfl km_X7_carePlace kk_X0_87 rfl ⟨rfl, by decide⟩ rfl (Nat.le_of_ble_eq_true rfl) (Nat.zero_add _) (Nat.zero_add _) rfl ?_
    refine aw_iload_n (npc := 1) rfl dX7_carePlace_0 rfl ?_
    refine aw_iconst (npc := 2) (v := 4) (by decide) dX7_carePlace_1 rfl ?_
    refine aw_imulV (npc := 3) (v := 0) dX7_carePlace_2 rfl (by decide) ?_
    refine aw_iload_n (npc := 4) rfl dX7_carePlace_3 rfl ?_
    refine aw_iaddV (npc := 5) (v := 2) dX7_carePlace_4 rfl (by decide) ?_
    refine aw_iret rfl dX7_carePlace_5 ?_
    refine aw_re (S' := [.int 2, .ref 3, .int 10]) rfl ?_
    refine aw_iald (npc := 44) (x := 1) (j := 2) dX0_hasOf_43 rfl f3 ⟨by decide, by decide⟩ rfl ?_
    refine aw_iload (npc := 46) rfl dX0_hasOf_44 rfl ?_
    refine aw_imulV (npc := 47) (v := 5) dX0_hasOf_46 rfl (by decide) ?_
    refine aw_iaddV (npc := 48) (v := 15) dX0_hasOf_47 rfl (by decide) ?_
    refine aw_istore_n (npc := 49) (L' := [some (.ref 1), some (.int 0), some (.int 15), some (.int 2), some (.int 5)]) dX0_hasOf_48 rfl (by decide) rfl rfl ?_
    refine aw_iinc (npc := 52) (v := 3) (L' := [some (.ref 1), some (.int 0), some (.int 15), some (.int 3), some (.int 5)]) dX0_hasOf_49 rfl rfl (by decide) (by decide) rfl rfl ?_
    refine aw_goto (npc := 4) dX0_hasOf_52 (by decide) ?_
    refine aw_iload_n (npc := 5) rfl dX0_hasOf_4 rfl ?_
    refine aw_iconst (npc := 6) (v := 4) (by decide) dX0_hasOf_5 rfl ?_
    refine aw_icmp_ge (npc := 9) (tgt := 55) dX0_hasOf_6 rfl (by decide) (fun hc => absurd hc (by decide)) (fun _ => ?_)
    refine aw_iload_n (npc := 10) rfl dX0_hasOf_9 rfl ?_
    refine aw_if_ne (npc := 13) (tgt := 22) dX0_hasOf_10 rfl (by decide) (fun hc => absurd (by decide) hc) (fun _ => ?_)
    refine aw_aload_n (npc := 14) rfl dX0_hasOf_13 rfl ?_
    refine aw_get (npc := 17) dX0_hasOf_14 rfl kf_X0_9 f1 rfl ?_
    refine aw_iload_n (npc := 18) rfl dX0_hasOf_17 rfl ?_
    refine aw_iald (npc := 19) (x := 5) (j := 3) dX0_hasOf_18 rfl f2 ⟨by decide, by decide⟩ rfl ?_
    refine aw_goto (npc := 31) dX0_hasOf_19 (by decide) ?_
    refine aw_istore (npc := 33) (L' := [some (.ref 1), some (.int 0), some (.int 15), some (.int 3), some (.int 5)]) dX0_hasOf_31 rfl (by decide) rfl rfl ?_
    refine aw_iload_n (npc := 34) rfl dX0_hasOf_33 rfl ?_
    refine aw_aload_n (npc := 35) rfl dX0_hasOf_34 rfl ?_
    refine aw_get (npc := 38) dX0_hasOf_35 rfl kf_X0_15 f1 rfl ?_
    refine aw_iload_n (npc := 39) rfl dX0_hasOf_38 rfl ?_
    refine aw_iload_n (npc := 40) rfl dX0_hasOf_39 rfl ?_
    refine aw_callSN (npc := 43) (N := mX7_carePlace) (mc := 0) (ms := 0) (A := [.int 0, .int 3]) (S := [.ref 3, .int 15]) (L0 := [some (.int 0), some (.int 3)]) dX0_hasOf_40 rfl km_X7_carePlace kk_X0_87 rfl ⟨rfl, by decide⟩ rfl (Nat.le_of_ble_eq_true rfl) (Nat.zero_add _) (Nat.zero_add _) rfl ?_
    refine aw_iload_n (npc := 1) rfl dX7_carePlace_0 rfl ?_
    refine aw_iconst (npc := 2) (v := 4) (by decide) dX7_carePlace_1 rfl ?_
    refine aw_imulV (npc := 3) (v := 0) dX7_carePlace_2 rfl (by decide) ?_
    refine aw_iload_n (npc := 4) rfl dX7_carePlace_3 rfl ?_
    refine aw_iaddV (npc := 5) (v := 3) dX7_carePlace_4 rfl (by decide) ?_
    refine aw_iret rfl dX7_carePlace_5 ?_
    refine aw_re (S' := [.int 3, .ref 3, .int 15]) rfl ?_
    refine aw_iald (npc := 44) (x := 1) (j := 3) dX0_hasOf_43 rfl f3 ⟨by decide, by decide⟩ rfl ?_
    refine aw_iload (npc := 46) rfl dX0_hasOf_44 rfl ?_
    refine aw_imulV (npc := 47) (v := 5) dX0_hasOf_46 rfl (by decide) ?_
    refine aw_iaddV (npc := 48) (v := 20) dX0_hasOf_47 rfl (by decide) ?_
    refine aw_istore_n (npc := 49) (L' := [some (.ref 1), some (.int 0), some (.int 20), some (.int 3), some (.int 5)]) dX0_hasOf_48 rfl (by decide) rfl rfl ?_
    refine aw_iinc (npc := 52) (v := 4) (L' := [some (.ref 1), some (.int 0), some (.int 20), some (.int 4), some (.int 5)]) dX0_hasOf_49 rfl rfl (by decide) (by decide) rfl rfl ?_
    refine aw_goto (npc := 4) dX0_hasOf_52 (by decide) ?_
    refine aw_iload_n (npc := 5) rfl dX0_hasOf_4 rfl ?_
    refine aw_iconst (npc := 6) (v := 4) (by decide) dX0_hasOf_5 rfl ?_
    refine aw_icmp_ge (npc := 9) (tgt := 55) dX0_hasOf_6 rfl (by decide) (fun _ => ?_) (fun hc => absurd (by decide) hc)
    refine aw_iload_n (npc := 56) rfl dX0_hasOf_55 rfl ?_
    refine aw_iret rfl dX0_hasOf_56 ?_
    refine aw_re (S' := [.int 20]) rfl ?_
    refine aw_iret rfl dX7_table_52 ?_
    exact fin_c hq am_fr0 (show sp_table 0 = 20 from (by unfold sp_table; first | rfl | (simp only [wif_same, ite_self]; done) | (simp only [wif_same, ite_self]; rfl) | (simp [wif_same]; done)))
  · refine aw_tableIn (npc := 53) dX7_table_1 (by decide) (by decide) rfl (by decide) ?_
    refine aw_aload_n (npc := 54) rfl dX7_table_53 rfl ?_
    refine aw_get (npc := 57) dX7_table_54 rfl kf_X7_10 f0 rfl ?_
    refine aw_iconst (npc := 58) (v := 1) (by decide) dX7_table_57 rfl ?_
    refine aw_callV (npc := 61) (N := mX0_hasOf) (b := 1) (mc := 0) (ms := 0) (A := [.int 1]) (S := []) (L0 := [some (.ref 1), some (.int 1), none, none, none]) dX7_table_58 rfl km_X0_hasOf kk_X7_166 f1 ⟨by decide, rfl⟩ rfl ⟨rfl, by decide⟩ rfl (Nat.le_of_ble_eq_true rfl) (Nat.zero_add _) (Nat.zero_add _) rfl ?_
    refine aw_iconst (npc := 1) (v := 0) (by decide) dX0_hasOf_0 rfl ?_
    refine aw_istore_n (npc := 2) (L' := [some (.ref 1), some (.int 1), some (.int 0), none, none]) dX0_hasOf_1 rfl (by decide) rfl rfl ?_
    refine aw_iconst (npc := 3) (v := 0) (by decide) dX0_hasOf_2 rfl ?_
    refine aw_istore_n (npc := 4) (L' := [some (.ref 1), some (.int 1), some (.int 0), some (.int 0), none]) dX0_hasOf_3 rfl (by decide) rfl rfl ?_
    refine aw_iload_n (npc := 5) rfl dX0_hasOf_4 rfl ?_
    refine aw_iconst (npc := 6) (v := 4) (by decide) dX0_hasOf_5 rfl ?_
    refine aw_icmp_ge (npc := 9) (tgt := 55) dX0_hasOf_6 rfl (by decide) (fun hc => absurd hc (by decide)) (fun _ => ?_)
    refine aw_iload_n (npc := 10) rfl dX0_hasOf_9 rfl ?_
    refine aw_if_ne (npc := 13) (tgt := 22) dX0_hasOf_10 rfl (by decide) (fun _ => ?_) (fun hc => absurd hc (by decide))
    refine aw_bipush (npc := 24) (v := 9) (by decide) dX0_hasOf_22 rfl ?_
    refine aw_aload_n (npc := 25) rfl dX0_hasOf_24 rfl ?_
    refine aw_get (npc := 28) dX0_hasOf_25 rfl kf_X0_9 f1 rfl ?_
    refine aw_iload_n (npc := 29) rfl dX0_hasOf_28 rfl ?_
    refine aw_iald (npc := 30) (x := 5) (j := 0) dX0_hasOf_29 rfl f2 ⟨by decide, by decide⟩ rfl ?_
    refine aw_isubV (npc := 31) (v := 4) dX0_hasOf_30 rfl (by decide) ?_
    refine aw_istore (npc := 33) (L' := [some (.ref 1), some (.int 1), some (.int 0), some (.int 0), some (.int 4)]) dX0_hasOf_31 rfl (by decide) rfl rfl ?_
    refine aw_iload_n (npc := 34) rfl dX0_hasOf_33 rfl ?_
    refine aw_aload_n (npc := 35) rfl dX0_hasOf_34 rfl ?_
    refine aw_get (npc := 38) dX0_hasOf_35 rfl kf_X0_15 f1 rfl ?_
    refine aw_iload_n (npc := 39) rfl dX0_hasOf_38 rfl ?_
    refine aw_iload_n (npc := 40) rfl dX0_hasOf_39 rfl ?_
    refine aw_callSN (npc := 43) (N := mX7_carePlace) (mc := 0) (ms := 0) (A := [.int 1, .int 0]) (S := [.ref 3, .int 0]) (L0 := [some (.int 1), some (.int 0)]) dX0_hasOf_40 rfl km_X7_carePlace kk_X0_87 rfl ⟨rfl, by decide⟩ rfl (Nat.le_of_ble_eq_true rfl) (Nat.zero_add _) (Nat.zero_add _) rfl ?_
    refine aw_iload_n (npc := 1) rfl dX7_carePlace_0 rfl ?_
    refine aw_iconst (npc := 2) (v := 4) (by decide) dX7_carePlace_1 rfl ?_
    refine aw_imulV (npc := 3) (v := 4) dX7_carePlace_2 rfl (by decide) ?_
    refine aw_iload_n (npc := 4) rfl dX7_carePlace_3 rfl ?_
    refine aw_iaddV (npc := 5) (v := 4) dX7_carePlace_4 rfl (by decide) ?_
    refine aw_iret rfl dX7_carePlace_5 ?_
    refine aw_re (S' := [.int 4, .ref 3, .int 0]) rfl ?_
    refine aw_iald (npc := 44) (x := 1) (j := 4) dX0_hasOf_43 rfl f3 ⟨by decide, by decide⟩ rfl ?_
    refine aw_iload (npc := 46) rfl dX0_hasOf_44 rfl ?_
    refine aw_imulV (npc := 47) (v := 4) dX0_hasOf_46 rfl (by decide) ?_
    refine aw_iaddV (npc := 48) (v := 4) dX0_hasOf_47 rfl (by decide) ?_
    refine aw_istore_n (npc := 49) (L' := [some (.ref 1), some (.int 1), some (.int 4), some (.int 0), some (.int 4)]) dX0_hasOf_48 rfl (by decide) rfl rfl ?_
    refine aw_iinc (npc := 52) (v := 1) (L' := [some (.ref 1), some (.int 1), some (.int 4), some (.int 1), some (.int 4)]) dX0_hasOf_49 rfl rfl (by decide) (by decide) rfl rfl ?_
    refine aw_goto (npc := 4) dX0_hasOf_52 (by decide) ?_
    refine aw_iload_n (npc := 5) rfl dX0_hasOf_4 rfl ?_
    refine aw_iconst (npc := 6) (v := 4) (by decide) dX0_hasOf_5 rfl ?_
    refine aw_icmp_ge (npc := 9) (tgt := 55) dX0_hasOf_6 rfl (by decide) (fun hc => absurd hc (by decide)) (fun _ => ?_)
    refine aw_iload_n (npc := 10) rfl dX0_hasOf_9 rfl ?_
    refine aw_if_ne (npc := 13) (tgt := 22) dX0_hasOf_10 rfl (by decide) (fun _ => ?_) (fun hc => absurd hc (by decide))
    refine aw_bipush (npc := 24) (v := 9) (by decide) dX0_hasOf_22 rfl ?_
    refine aw_aload_n (npc := 25) rfl dX0_hasOf_24 rfl ?_
    refine aw_get (npc := 28) dX0_hasOf_25 rfl kf_X0_9 f1 rfl ?_
    refine aw_iload_n (npc := 29) rfl dX0_hasOf_28 rfl ?_
    refine aw_iald (npc := 30) (x := 5) (j := 1) dX0_hasOf_29 rfl f2 ⟨by decide, by decide⟩ rfl ?_
    refine aw_isubV (npc := 31) (v := 4) dX0_hasOf_30 rfl (by decide) ?_
    refine aw_istore (npc := 33) (L' := [some (.ref 1), some (.int 1), some (.int 4), some (.int 1), some (.int 4)]) dX0_hasOf_31 rfl (by decide) rfl rfl ?_
    refine aw_iload_n (npc := 34) rfl dX0_hasOf_33 rfl ?_
    refine aw_aload_n (npc := 35) rfl dX0_hasOf_34 rfl ?_
    refine aw_get (npc := 38) dX0_hasOf_35 rfl kf_X0_15 f1 rfl ?_
    refine aw_iload_n (npc := 39) rfl dX0_hasOf_38 rfl ?_
    refine aw_iload_n (npc := 40) rfl dX0_hasOf_39 rfl ?_
    refine aw_callSN (npc := 43) (N := mX7_carePlace) (mc := 0) (ms := 0) (A := [.int 1, .int 1]) (S := [.ref 3, .int 4]) (L0 := [some (.int 1), some (.int 1)]) dX0_hasOf_40 rfl km_X7_carePlace kk_X0_87 rfl ⟨rfl, by decide⟩ rfl (Nat.le_of_ble_eq_true rfl) (Nat.zero_add _) (Nat.zero_add _) rfl ?_
    refine aw_iload_n (npc := 1) rfl dX7_carePlace_0 rfl ?_
    refine aw_iconst (npc := 2) (v := 4) (by decide) dX7_carePlace_1 rfl ?_
    refine aw_imulV (npc := 3) (v := 4) dX7_carePlace_2 rfl (by decide) ?_
    refine aw_iload_n (npc := 4) rfl dX7_carePlace_3 rfl ?_
    refine aw_iaddV (npc := 5) (v := 5) dX7_carePlace_4 rfl (by decide) ?_
    refine aw_iret rfl dX7_carePlace_5 ?_
    refine aw_re (S' := [.int 5, .ref 3, .int 4]) rfl ?_
    refine aw_iald (npc := 44) (x := 1) (j := 5) dX0_hasOf_43 rfl f3 ⟨by decide, by decide⟩ rfl ?_
    refine aw_iload (npc := 46) rfl dX0_hasOf_44 rfl ?_
    refine aw_imulV (npc := 47) (v := 4) dX0_hasOf_46 rfl (by decide) ?_
    refine aw_iaddV (npc := 48) (v := 8) dX0_hasOf_47 rfl (by decide) ?_
    refine aw_istore_n (npc := 49) (L' := [some (.ref 1), some (.int 1), some (.int 8), some (.int 1), some (.int 4)]) dX0_hasOf_48 rfl (by decide) rfl rfl ?_
    refine aw_iinc (npc := 52) (v := 2) (L' := [some (.ref 1), some (.int 1), some (.int 8), some (.int 2), some (.int 4)]) dX0_hasOf_49 rfl rfl (by decide) (by decide) rfl rfl ?_
    refine aw_goto (npc := 4) dX0_hasOf_52 (by decide) ?_
    refine aw_iload_n (npc := 5) rfl dX0_hasOf_4 rfl ?_
    refine aw_iconst (npc := 6) (v := 4) (by decide) dX0_hasOf_5 rfl ?_
    refine aw_icmp_ge (npc := 9) (tgt := 55) dX0_hasOf_6 rfl (by decide) (fun hc => absurd hc (by decide)) (fun _ => ?_)
    refine aw_iload_n (npc := 10) rfl dX0_hasOf_9 rfl ?_
    refine aw_if_ne (npc := 13) (tgt := 22) dX0_hasOf_10 rfl (by decide) (fun _ => ?_) (fun hc => absurd hc (by decide))
    refine aw_bipush (npc := 24) (v := 9) (by decide) dX0_hasOf_22 rfl ?_
    refine aw_aload_n (npc := 25) rfl dX0_hasOf_24 rfl ?_
    refine aw_get (npc := 28) dX0_hasOf_25 rfl kf_X0_9 f1 rfl ?_
    refine aw_iload_n (npc := 29) rfl dX0_hasOf_28 rfl ?_
    refine aw_iald (npc := 30) (x := 5) (j := 2) dX0_hasOf_29 rfl f2 ⟨by decide, by decide⟩ rfl ?_
    refine aw_isubV (npc := 31) (v := 4) dX0_hasOf_30 rfl (by decide) ?_
    refine aw_istore (npc := 33) (L' := [some (.ref 1), some (.int 1), some (.int 8), some (.int 2), some (.int 4)]) dX0_hasOf_31 rfl (by decide) rfl rfl ?_
    refine aw_iload_n (npc := 34) rfl dX0_hasOf_33 rfl ?_
    refine aw_aload_n (npc := 35) rfl dX0_hasOf_34 rfl ?_
    refine aw_get (npc := 38) dX0_hasOf_35 rfl kf_X0_15 f1 rfl ?_
    refine aw_iload_n (npc := 39) rfl dX0_hasOf_38 rfl ?_
    refine aw_iload_n (npc := 40) rfl dX0_hasOf_39 rfl ?_
    refine aw_callSN (npc := 43) (N := mX7_carePlace) (mc := 0) (ms := 0) (A := [.int 1, .int 2]) (S := [.ref 3, .int 8]) (L0 := [some (.int 1), some (.int 2)]) dX0_hasOf_40 rfl km_X7_carePlace kk_X0_87 rfl ⟨rfl, by decide⟩ rfl (Nat.le_of_ble_eq_true rfl) (Nat.zero_add _) (Nat.zero_add _) rfl ?_
    refine aw_iload_n (npc := 1) rfl dX7_carePlace_0 rfl ?_
    refine aw_iconst (npc := 2) (v := 4) (by decide) dX7_carePlace_1 rfl ?_
    refine aw_imulV (npc := 3) (v := 4) dX7_carePlace_2 rfl (by decide) ?_
    refine aw_iload_n (npc := 4) rfl dX7_carePlace_3 rfl ?_
    refine aw_iaddV (npc := 5) (v := 6) dX7_carePlace_4 rfl (by decide) ?_
    refine aw_iret rfl dX7_carePlace_5 ?_
    refine aw_re (S' := [.int 6, .ref 3, .int 8]) rfl ?_
    refine aw_iald (npc := 44) (x := 1) (j := 6) dX0_hasOf_43 rfl f3 ⟨by decide, by decide⟩ rfl ?_
    refine aw_iload (npc := 46) rfl dX0_hasOf_44 rfl ?_
    refine aw_imulV (npc := 47) (v := 4) dX0_hasOf_46 rfl (by decide) ?_
    refine aw_iaddV (npc := 48) (v := 12) dX0_hasOf_47 rfl (by decide) ?_
    refine aw_istore_n (npc := 49) (L' := [some (.ref 1), some (.int 1), some (.int 12), some (.int 2), some (.int 4)]) dX0_hasOf_48 rfl (by decide) rfl rfl ?_
    refine aw_iinc (npc := 52) (v := 3) (L' := [some (.ref 1), some (.int 1), some (.int 12), some (.int 3), some (.int 4)]) dX0_hasOf_49 rfl rfl (by decide) (by decide) rfl rfl ?_
    refine aw_goto (npc := 4) dX0_hasOf_52 (by decide) ?_
    refine aw_iload_n (npc := 5) rfl dX0_hasOf_4 rfl ?_
    refine aw_iconst (npc := 6) (v := 4) (by decide) dX0_hasOf_5 rfl ?_
    refine aw_icmp_ge (npc := 9) (tgt := 55) dX0_hasOf_6 rfl (by decide) (fun hc => absurd hc (by decide)) (fun _ => ?_)
    refine aw_iload_n (npc := 10) rfl dX0_hasOf_9 rfl ?_
    refine aw_if_ne (npc := 13) (tgt := 22) dX0_hasOf_10 rfl (by decide) (fun _ => ?_) (fun hc => absurd hc (by decide))
    refine aw_bipush (npc := 24) (v := 9) (by decide) dX0_hasOf_22 rfl ?_
    refine aw_aload_n (npc := 25) rfl dX0_hasOf_24 rfl ?_
    refine aw_get (npc := 28) dX0_hasOf_25 rfl kf_X0_9 f1 rfl ?_
    refine aw_iload_n (npc := 29) rfl dX0_hasOf_28 rfl ?_
    refine aw_iald (npc := 30) (x := 5) (j := 3) dX0_hasOf_29 rfl f2 ⟨by decide, by decide⟩ rfl ?_
    refine aw_isubV (npc := 31) (v := 4) dX0_hasOf_30 rfl (by decide) ?_
    refine aw_istore (npc := 33) (L' := [some (.ref 1), some (.int 1), some (.int 12), some (.int 3), some (.int 4)]) dX0_hasOf_31 rfl (by decide) rfl rfl ?_
    refine aw_iload_n (npc := 34) rfl dX0_hasOf_33 rfl ?_
    refine aw_aload_n (npc := 35) rfl dX0_hasOf_34 rfl ?_
    refine aw_get (npc := 38) dX0_hasOf_35 rfl kf_X0_15 f1 rfl ?_
    refine aw_iload_n (npc := 39) rfl dX0_hasOf_38 rfl ?_
    refine aw_iload_n (npc := 40) rfl dX0_hasOf_39 rfl ?_
    refine aw_callSN (npc := 43) (N := mX7_carePlace) (mc := 0) (ms := 0) (A := [.int 1, .int 3]) (S := [.ref 3, .int 12]) (L0 := [some (.int 1), some (.int 3)]) dX0_hasOf_40 rfl km_X7_carePlace kk_X0_87 rfl ⟨rfl, by decide⟩ rfl (Nat.le_of_ble_eq_true rfl) (Nat.zero_add _) (Nat.zero_add _) rfl ?_
    refine aw_iload_n (npc := 1) rfl dX7_carePlace_0 rfl ?_
    refine aw_iconst (npc := 2) (v := 4) (by decide) dX7_carePlace_1 rfl ?_
    refine aw_imulV (npc := 3) (v := 4) dX7_carePlace_2 rfl (by decide) ?_
    refine aw_iload_n (npc := 4) rfl dX7_carePlace_3 rfl ?_
    refine aw_iaddV (npc := 5) (v := 7) dX7_carePlace_4 rfl (by decide) ?_
    refine aw_iret rfl dX7_carePlace_5 ?_
    refine aw_re (S' := [.int 7, .ref 3, .int 12]) rfl ?_
    refine aw_iald (npc := 44) (x := 1) (j := 7) dX0_hasOf_43 rfl f3 ⟨by decide, by decide⟩ rfl ?_
    refine aw_iload (npc := 46) rfl dX0_hasOf_44 rfl ?_
    refine aw_imulV (npc := 47) (v := 4) dX0_hasOf_46 rfl (by decide) ?_
    refine aw_iaddV (npc := 48) (v := 16) dX0_hasOf_47 rfl (by decide) ?_
    refine aw_istore_n (npc := 49) (L' := [some (.ref 1), some (.int 1), some (.int 16), some (.int 3), some (.int 4)]) dX0_hasOf_48 rfl (by decide) rfl rfl ?_
    refine aw_iinc (npc := 52) (v := 4) (L' := [some (.ref 1), some (.int 1), some (.int 16), some (.int 4), some (.int 4)]) dX0_hasOf_49 rfl rfl (by decide) (by decide) rfl rfl ?_
    refine aw_goto (npc := 4) dX0_hasOf_52 (by decide) ?_
    refine aw_iload_n (npc := 5) rfl dX0_hasOf_4 rfl ?_
    refine aw_iconst (npc := 6) (v := 4) (by decide) dX0_hasOf_5 rfl ?_
    refine aw_icmp_ge (npc := 9) (tgt := 55) dX0_hasOf_6 rfl (by decide) (fun _ => ?_) (fun hc => absurd (by decide) hc)
    refine aw_iload_n (npc := 56) rfl dX0_hasOf_55 rfl ?_
    refine aw_iret rfl dX0_hasOf_56 ?_
    refine aw_re (S' := [.int 16]) rfl ?_
    refine aw_iret rfl dX7_table_61 ?_
    exact fin_c hq am_fr0 (show sp_table 1 = 16 from (by unfold sp_table; first | rfl | (simp only [wif_same, ite_self]; done) | (simp only [wif_same, ite_self]; rfl) | (simp [wif_same]; done)))
  · refine aw_tableIn (npc := 62) dX7_table_1 (by decide) (by decide) rfl (by decide) ?_
    refine aw_aload_n (npc := 63) rfl dX7_table_62 rfl ?_
    refine aw_get (npc := 66) dX7_table_63 rfl kf_X7_10 f0 rfl ?_
    refine aw_callV (npc := 69) (N := mX0_isPeace) (b := 1) (mc := 0) (ms := 0) (A := []) (S := []) (L0 := [some (.ref 1)]) dX7_table_66 rfl km_X0_isPeace kk_X7_169 f1 ⟨by decide, rfl⟩ rfl ⟨rfl, by decide⟩ rfl (Nat.le_of_ble_eq_true rfl) (Nat.zero_add _) (Nat.zero_add _) rfl ?_
    refine aw_aload_n (npc := 1) rfl dX0_isPeace_0 rfl ?_
    refine aw_iconst (npc := 2) (v := 0) (by decide) dX0_isPeace_1 rfl ?_
    refine aw_callV (npc := 5) (N := mX0_hasOf) (b := 1) (mc := 0) (ms := 0) (A := [.int 0]) (S := []) (L0 := [some (.ref 1), some (.int 0), none, none, none]) dX0_isPeace_2 rfl km_X0_hasOf kk_X0_91 f1 ⟨by decide, rfl⟩ rfl ⟨rfl, by decide⟩ rfl (Nat.le_of_ble_eq_true rfl) (Nat.zero_add _) (Nat.zero_add _) rfl ?_
    refine aw_iconst (npc := 1) (v := 0) (by decide) dX0_hasOf_0 rfl ?_
    refine aw_istore_n (npc := 2) (L' := [some (.ref 1), some (.int 0), some (.int 0), none, none]) dX0_hasOf_1 rfl (by decide) rfl rfl ?_
    refine aw_iconst (npc := 3) (v := 0) (by decide) dX0_hasOf_2 rfl ?_
    refine aw_istore_n (npc := 4) (L' := [some (.ref 1), some (.int 0), some (.int 0), some (.int 0), none]) dX0_hasOf_3 rfl (by decide) rfl rfl ?_
    refine aw_iload_n (npc := 5) rfl dX0_hasOf_4 rfl ?_
    refine aw_iconst (npc := 6) (v := 4) (by decide) dX0_hasOf_5 rfl ?_
    refine aw_icmp_ge (npc := 9) (tgt := 55) dX0_hasOf_6 rfl (by decide) (fun hc => absurd hc (by decide)) (fun _ => ?_)
    refine aw_iload_n (npc := 10) rfl dX0_hasOf_9 rfl ?_
    refine aw_if_ne (npc := 13) (tgt := 22) dX0_hasOf_10 rfl (by decide) (fun hc => absurd (by decide) hc) (fun _ => ?_)
    refine aw_aload_n (npc := 14) rfl dX0_hasOf_13 rfl ?_
    refine aw_get (npc := 17) dX0_hasOf_14 rfl kf_X0_9 f1 rfl ?_
    refine aw_iload_n (npc := 18) rfl dX0_hasOf_17 rfl ?_
    refine aw_iald (npc := 19) (x := 5) (j := 0) dX0_hasOf_18 rfl f2 ⟨by decide, by decide⟩ rfl ?_
    refine aw_goto (npc := 31) dX0_hasOf_19 (by decide) ?_
    refine aw_istore (npc := 33) (L' := [some (.ref 1), some (.int 0), some (.int 0), some (.int 0), some (.int 5)]) dX0_hasOf_31 rfl (by decide) rfl rfl ?_
    refine aw_iload_n (npc := 34) rfl dX0_hasOf_33 rfl ?_
    refine aw_aload_n (npc := 35) rfl dX0_hasOf_34 rfl ?_
    refine aw_get (npc := 38) dX0_hasOf_35 rfl kf_X0_15 f1 rfl ?_
    refine aw_iload_n (npc := 39) rfl dX0_hasOf_38 rfl ?_
    refine aw_iload_n (npc := 40) rfl dX0_hasOf_39 rfl ?_
    refine aw_callSN (npc := 43) (N := mX7_carePlace) (mc := 0) (ms := 0) (A := [.int 0, .int 0]) (S := [.ref 3, .int 0]) (L0 := [some (.int 0), some (.int 0)]) dX0_hasOf_40 rfl km_X7_carePlace kk_X0_87 rfl ⟨rfl, by decide⟩ rfl (Nat.le_of_ble_eq_true rfl) (Nat.zero_add _) (Nat.zero_add _) rfl ?_
    refine aw_iload_n (npc := 1) rfl dX7_carePlace_0 rfl ?_
    refine aw_iconst (npc := 2) (v := 4) (by decide) dX7_carePlace_1 rfl ?_
    refine aw_imulV (npc := 3) (v := 0) dX7_carePlace_2 rfl (by decide) ?_
    refine aw_iload_n (npc := 4) rfl dX7_carePlace_3 rfl ?_
    refine aw_iaddV (npc := 5) (v := 0) dX7_carePlace_4 rfl (by decide) ?_
    refine aw_iret rfl dX7_carePlace_5 ?_
    refine aw_re (S' := [.int 0, .ref 3, .int 0]) rfl ?_
    refine aw_iald (npc := 44) (x := 1) (j := 0) dX0_hasOf_43 rfl f3 ⟨by decide, by decide⟩ rfl ?_
    refine aw_iload (npc := 46) rfl dX0_hasOf_44 rfl ?_
    refine aw_imulV (npc := 47) (v := 5) dX0_hasOf_46 rfl (by decide) ?_
    refine aw_iaddV (npc := 48) (v := 5) dX0_hasOf_47 rfl (by decide) ?_
    refine aw_istore_n (npc := 49) (L' := [some (.ref 1), some (.int 0), some (.int 5), some (.int 0), some (.int 5)]) dX0_hasOf_48 rfl (by decide) rfl rfl ?_
    refine aw_iinc (npc := 52) (v := 1) (L' := [some (.ref 1), some (.int 0), some (.int 5), some (.int 1), some (.int 5)]) dX0_hasOf_49 rfl rfl (by decide) (by decide) rfl rfl ?_
    refine aw_goto (npc := 4) dX0_hasOf_52 (by decide) ?_
    refine aw_iload_n (npc := 5) rfl dX0_hasOf_4 rfl ?_
    refine aw_iconst (npc := 6) (v := 4) (by decide) dX0_hasOf_5 rfl ?_
    refine aw_icmp_ge (npc := 9) (tgt := 55) dX0_hasOf_6 rfl (by decide) (fun hc => absurd hc (by decide)) (fun _ => ?_)
    refine aw_iload_n (npc := 10) rfl dX0_hasOf_9 rfl ?_
    refine aw_if_ne (npc := 13) (tgt := 22) dX0_hasOf_10 rfl (by decide) (fun hc => absurd (by decide) hc) (fun _ => ?_)
    refine aw_aload_n (npc := 14) rfl dX0_hasOf_13 rfl ?_
    refine aw_get (npc := 17) dX0_hasOf_14 rfl kf_X0_9 f1 rfl ?_
    refine aw_iload_n (npc := 18) rfl dX0_hasOf_17 rfl ?_
    refine aw_iald (npc := 19) (x := 5) (j := 1) dX0_hasOf_18 rfl f2 ⟨by decide, by decide⟩ rfl ?_
    refine aw_goto (npc := 31) dX0_hasOf_19 (by decide) ?_
    refine aw_istore (npc := 33) (L' := [some (.ref 1), some (.int 0), some (.int 5), some (.int 1), some (.int 5)]) dX0_hasOf_31 rfl (by decide) rfl rfl ?_
    refine aw_iload_n (npc := 34) rfl dX0_hasOf_33 rfl ?_
    refine aw_aload_n (npc := 35) rfl dX0_hasOf_34 rfl ?_
    refine aw_get (npc := 38) dX0_hasOf_35 rfl kf_X0_15 f1 rfl ?_
    refine aw_iload_n (npc := 39) rfl dX0_hasOf_38 rfl ?_
    refine aw_iload_n (npc := 40) rfl dX0_hasOf_39 rfl ?_
    refine aw_callSN (npc := 43) (N := mX7_carePlace) (mc := 0) (ms := 0) (A := [.int 0, .int 1]) (S := [.ref 3, .int 5]) (L0 := [some (.int 0), some (.int 1)]) dX0_hasOf_40 rfl km_X7_carePlace kk_X0_87 rfl ⟨rfl, by decide⟩ rfl (Nat.le_of_ble_eq_true rfl) (Nat.zero_add _) (Nat.zero_add _) rfl ?_
    refine aw_iload_n (npc := 1) rfl dX7_carePlace_0 rfl ?_
    refine aw_iconst (npc := 2) (v := 4) (by decide) dX7_carePlace_1 rfl ?_
    refine aw_imulV (npc := 3) (v := 0) dX7_carePlace_2 rfl (by decide) ?_
    refine aw_iload_n (npc := 4) rfl dX7_carePlace_3 rfl ?_
    refine aw_iaddV (npc := 5) (v := 1) dX7_carePlace_4 rfl (by decide) ?_
    refine aw_iret rfl dX7_carePlace_5 ?_
    refine aw_re (S' := [.int 1, .ref 3, .int 5]) rfl ?_
    refine aw_iald (npc := 44) (x := 1) (j := 1) dX0_hasOf_43 rfl f3 ⟨by decide, by decide⟩ rfl ?_
    refine aw_iload (npc := 46) rfl dX0_hasOf_44 rfl ?_
    refine aw_imulV (npc := 47) (v := 5) dX0_hasOf_46 rfl (by decide) ?_
    refine aw_iaddV (npc := 48) (v := 10) dX0_hasOf_47 rfl (by decide) ?_
    refine aw_istore_n (npc := 49) (L' := [some (.ref 1), some (.int 0), some (.int 10), some (.int 1), some (.int 5)]) dX0_hasOf_48 rfl (by decide) rfl rfl ?_
    refine aw_iinc (npc := 52) (v := 2) (L' := [some (.ref 1), some (.int 0), some (.int 10), some (.int 2), some (.int 5)]) dX0_hasOf_49 rfl rfl (by decide) (by decide) rfl rfl ?_
    refine aw_goto (npc := 4) dX0_hasOf_52 (by decide) ?_
    refine aw_iload_n (npc := 5) rfl dX0_hasOf_4 rfl ?_
    refine aw_iconst (npc := 6) (v := 4) (by decide) dX0_hasOf_5 rfl ?_
    refine aw_icmp_ge (npc := 9) (tgt := 55) dX0_hasOf_6 rfl (by decide) (fun hc => absurd hc (by decide)) (fun _ => ?_)
    refine aw_iload_n (npc := 10) rfl dX0_hasOf_9 rfl ?_
    refine aw_if_ne (npc := 13) (tgt := 22) dX0_hasOf_10 rfl (by decide) (fun hc => absurd (by decide) hc) (fun _ => ?_)
    refine aw_aload_n (npc := 14) rfl dX0_hasOf_13 rfl ?_
    refine aw_get (npc := 17) dX0_hasOf_14 rfl kf_X0_9 f1 rfl ?_
    refine aw_iload_n (npc := 18) rfl dX0_hasOf_17 rfl ?_
    refine aw_iald (npc := 19) (x := 5) (j := 2) dX0_hasOf_18 rfl f2 ⟨by decide, by decide⟩ rfl ?_
    refine aw_goto (npc := 31) dX0_hasOf_19 (by decide) ?_
    refine aw_istore (npc := 33) (L' := [some (.ref 1), some (.int 0), some (.int 10), some (.int 2), some (.int 5)]) dX0_hasOf_31 rfl (by decide) rfl rfl ?_
    refine aw_iload_n (npc := 34) rfl dX0_hasOf_33 rfl ?_
    refine aw_aload_n (npc := 35) rfl dX0_hasOf_34 rfl ?_
    refine aw_get (npc := 38) dX0_hasOf_35 rfl kf_X0_15 f1 rfl ?_
    refine aw_iload_n (npc := 39) rfl dX0_hasOf_38 rfl ?_
    refine aw_iload_n (npc := 40) rfl dX0_hasOf_39 rfl ?_
    refine aw_callSN (npc := 43) (N := mX7_carePlace) (mc := 0) (ms := 0) (A := [.int 0, .int 2]) (S := [.ref 3, .int 10]) (L0 := [some (.int 0), some (.int 2)]) dX0_hasOf_40 rfl km_X7_carePlace kk_X0_87 rfl ⟨rfl, by decide⟩ rfl (Nat.le_of_ble_eq_true rfl) (Nat.zero_add _) (Nat.zero_add _) rfl ?_
    refine aw_iload_n (npc := 1) rfl dX7_carePlace_0 rfl ?_
    refine aw_iconst (npc := 2) (v := 4) (by decide) dX7_carePlace_1 rfl ?_
    refine aw_imulV (npc := 3) (v := 0) dX7_carePlace_2 rfl (by decide) ?_
    refine aw_iload_n (npc := 4) rfl dX7_carePlace_3 rfl ?_
    refine aw_iaddV (npc := 5) (v := 2) dX7_carePlace_4 rfl (by decide) ?_
    refine aw_iret rfl dX7_carePlace_5 ?_
    refine aw_re (S' := [.int 2, .ref 3, .int 10]) rfl ?_
    refine aw_iald (npc := 44) (x := 1) (j := 2) dX0_hasOf_43 rfl f3 ⟨by decide, by decide⟩ rfl ?_
    refine aw_iload (npc := 46) rfl dX0_hasOf_44 rfl ?_
    refine aw_imulV (npc := 47) (v := 5) dX0_hasOf_46 rfl (by decide) ?_
    refine aw_iaddV (npc := 48) (v := 15) dX0_hasOf_47 rfl (by decide) ?_
    refine aw_istore_n (npc := 49) (L' := [some (.ref 1), some (.int 0), some (.int 15), some (.int 2), some (.int 5)]) dX0_hasOf_48 rfl (by decide) rfl rfl ?_
    refine aw_iinc (npc := 52) (v := 3) (L' := [some (.ref 1), some (.int 0), some (.int 15), some (.int 3), some (.int 5)]) dX0_hasOf_49 rfl rfl (by decide) (by decide) rfl rfl ?_
    refine aw_goto (npc := 4) dX0_hasOf_52 (by decide) ?_
    refine aw_iload_n (npc := 5) rfl dX0_hasOf_4 rfl ?_
    refine aw_iconst (npc := 6) (v := 4) (by decide) dX0_hasOf_5 rfl ?_
    refine aw_icmp_ge (npc := 9) (tgt := 55) dX0_hasOf_6 rfl (by decide) (fun hc => absurd hc (by decide)) (fun _ => ?_)
    refine aw_iload_n (npc := 10) rfl dX0_hasOf_9 rfl ?_
    refine aw_if_ne (npc := 13) (tgt := 22) dX0_hasOf_10 rfl (by decide) (fun hc => absurd (by decide) hc) (fun _ => ?_)
    refine aw_aload_n (npc := 14) rfl dX0_hasOf_13 rfl ?_
    refine aw_get (npc := 17) dX0_hasOf_14 rfl kf_X0_9 f1 rfl ?_
    refine aw_iload_n (npc := 18) rfl dX0_hasOf_17 rfl ?_
    refine aw_iald (npc := 19) (x := 5) (j := 3) dX0_hasOf_18 rfl f2 ⟨by decide, by decide⟩ rfl ?_
    refine aw_goto (npc := 31) dX0_hasOf_19 (by decide) ?_
    refine aw_istore (npc := 33) (L' := [some (.ref 1), some (.int 0), some (.int 15), some (.int 3), some (.int 5)]) dX0_hasOf_31 rfl (by decide) rfl rfl ?_
    refine aw_iload_n (npc := 34) rfl dX0_hasOf_33 rfl ?_
    refine aw_aload_n (npc := 35) rfl dX0_hasOf_34 rfl ?_
    refine aw_get (npc := 38) dX0_hasOf_35 rfl kf_X0_15 f1 rfl ?_
    refine aw_iload_n (npc := 39) rfl dX0_hasOf_38 rfl ?_
    refine aw_iload_n (npc := 40) rfl dX0_hasOf_39 rfl ?_
    refine aw_callSN (npc := 43) (N := mX7_carePlace) (mc := 0) (ms := 0) (A := [.int 0, .int 3]) (S := [.ref 3, .int 15]) (L0 := [some (.int 0), some (.int 3)]) dX0_hasOf_40 rfl km_X7_carePlace kk_X0_87 rfl ⟨rfl, by decide⟩ rfl (Nat.le_of_ble_eq_true rfl) (Nat.zero_add _) (Nat.zero_add _) rfl ?_
    refine aw_iload_n (npc := 1) rfl dX7_carePlace_0 rfl ?_
    refine aw_iconst (npc := 2) (v := 4) (by decide) dX7_carePlace_1 rfl ?_
    refine aw_imulV (npc := 3) (v := 0) dX7_carePlace_2 rfl (by decide) ?_
    refine aw_iload_n (npc := 4) rfl dX7_carePlace_3 rfl ?_
    refine aw_iaddV (npc := 5) (v := 3) dX7_carePlace_4 rfl (by decide) ?_
    refine aw_iret rfl dX7_carePlace_5 ?_
    refine aw_re (S' := [.int 3, .ref 3, .int 15]) rfl ?_
    refine aw_iald (npc := 44) (x := 1) (j := 3) dX0_hasOf_43 rfl f3 ⟨by decide, by decide⟩ rfl ?_
    refine aw_iload (npc := 46) rfl dX0_hasOf_44 rfl ?_
    refine aw_imulV (npc := 47) (v := 5) dX0_hasOf_46 rfl (by decide) ?_
    refine aw_iaddV (npc := 48) (v := 20) dX0_hasOf_47 rfl (by decide) ?_
    refine aw_istore_n (npc := 49) (L' := [some (.ref 1), some (.int 0), some (.int 20), some (.int 3), some (.int 5)]) dX0_hasOf_48 rfl (by decide) rfl rfl ?_
    refine aw_iinc (npc := 52) (v := 4) (L' := [some (.ref 1), some (.int 0), some (.int 20), some (.int 4), some (.int 5)]) dX0_hasOf_49 rfl rfl (by decide) (by decide) rfl rfl ?_
    refine aw_goto (npc := 4) dX0_hasOf_52 (by decide) ?_
    refine aw_iload_n (npc := 5) rfl dX0_hasOf_4 rfl ?_
    refine aw_iconst (npc := 6) (v := 4) (by decide) dX0_hasOf_5 rfl ?_
    refine aw_icmp_ge (npc := 9) (tgt := 55) dX0_hasOf_6 rfl (by decide) (fun _ => ?_) (fun hc => absurd (by decide) hc)
    refine aw_iload_n (npc := 56) rfl dX0_hasOf_55 rfl ?_
    refine aw_iret rfl dX0_hasOf_56 ?_
    refine aw_re (S' := [.int 20]) rfl ?_
    refine aw_aload_n (npc := 6) rfl dX0_isPeace_5 rfl ?_
    refine aw_get (npc := 9) dX0_isPeace_6 rfl kf_X0_18 f1 rfl ?_
    refine aw_iconst (npc := 10) (v := 0) (by decide) dX0_isPeace_9 rfl ?_
    refine aw_iald (npc := 11) (x := 20) (j := 0) dX0_isPeace_10 rfl f4 ⟨by decide, by decide⟩ rfl ?_
    refine aw_icmp_lt (npc := 14) (tgt := 32) dX0_isPeace_11 rfl (by decide) (fun hc => absurd hc (by decide)) (fun _ => ?_)
    refine aw_aload_n (npc := 15) rfl dX0_isPeace_14 rfl ?_
    refine aw_iconst (npc := 16) (v := 1) (by decide) dX0_isPeace_15 rfl ?_
    refine aw_callV (npc := 19) (N := mX0_hasOf) (b := 1) (mc := 0) (ms := 0) (A := [.int 1]) (S := []) (L0 := [some (.ref 1), some (.int 1), none, none, none]) dX0_isPeace_16 rfl km_X0_hasOf kk_X0_91 f1 ⟨by decide, rfl⟩ rfl ⟨rfl, by decide⟩ rfl (Nat.le_of_ble_eq_true rfl) (Nat.zero_add _) (Nat.zero_add _) rfl ?_
    refine aw_iconst (npc := 1) (v := 0) (by decide) dX0_hasOf_0 rfl ?_
    refine aw_istore_n (npc := 2) (L' := [some (.ref 1), some (.int 1), some (.int 0), none, none]) dX0_hasOf_1 rfl (by decide) rfl rfl ?_
    refine aw_iconst (npc := 3) (v := 0) (by decide) dX0_hasOf_2 rfl ?_
    refine aw_istore_n (npc := 4) (L' := [some (.ref 1), some (.int 1), some (.int 0), some (.int 0), none]) dX0_hasOf_3 rfl (by decide) rfl rfl ?_
    refine aw_iload_n (npc := 5) rfl dX0_hasOf_4 rfl ?_
    refine aw_iconst (npc := 6) (v := 4) (by decide) dX0_hasOf_5 rfl ?_
    refine aw_icmp_ge (npc := 9) (tgt := 55) dX0_hasOf_6 rfl (by decide) (fun hc => absurd hc (by decide)) (fun _ => ?_)
    refine aw_iload_n (npc := 10) rfl dX0_hasOf_9 rfl ?_
    refine aw_if_ne (npc := 13) (tgt := 22) dX0_hasOf_10 rfl (by decide) (fun _ => ?_) (fun hc => absurd hc (by decide))
    refine aw_bipush (npc := 24) (v := 9) (by decide) dX0_hasOf_22 rfl ?_
    refine aw_aload_n (npc := 25) rfl dX0_hasOf_24 rfl ?_
    refine aw_get (npc := 28) dX0_hasOf_25 rfl kf_X0_9 f1 rfl ?_
    refine aw_iload_n (npc := 29) rfl dX0_hasOf_28 rfl ?_
    refine aw_iald (npc := 30) (x := 5) (j := 0) dX0_hasOf_29 rfl f2 ⟨by decide, by decide⟩ rfl ?_
    refine aw_isubV (npc := 31) (v := 4) dX0_hasOf_30 rfl (by decide) ?_
    refine aw_istore (npc := 33) (L' := [some (.ref 1), some (.int 1), some (.int 0), some (.int 0), some (.int 4)]) dX0_hasOf_31 rfl (by decide) rfl rfl ?_
    refine aw_iload_n (npc := 34) rfl dX0_hasOf_33 rfl ?_
    refine aw_aload_n (npc := 35) rfl dX0_hasOf_34 rfl ?_
    refine aw_get (npc := 38) dX0_hasOf_35 rfl kf_X0_15 f1 rfl ?_
    refine aw_iload_n (npc := 39) rfl dX0_hasOf_38 rfl ?_
    refine aw_iload_n (npc := 40) rfl dX0_hasOf_39 rfl ?_
    refine aw_callSN (npc := 43) (N := mX7_carePlace) (mc := 0) (ms := 0) (A := [.int 1, .int 0]) (S := [.ref 3, .int 0]) (L0 := [some (.int 1), some (.int 0)]) dX0_hasOf_40 rfl km_X7_carePlace kk_X0_87 rfl ⟨rfl, by decide⟩ rfl (Nat.le_of_ble_eq_true rfl) (Nat.zero_add _) (Nat.zero_add _) rfl ?_
    refine aw_iload_n (npc := 1) rfl dX7_carePlace_0 rfl ?_
    refine aw_iconst (npc := 2) (v := 4) (by decide) dX7_carePlace_1 rfl ?_
    refine aw_imulV (npc := 3) (v := 4) dX7_carePlace_2 rfl (by decide) ?_
    refine aw_iload_n (npc := 4) rfl dX7_carePlace_3 rfl ?_
    refine aw_iaddV (npc := 5) (v := 4) dX7_carePlace_4 rfl (by decide) ?_
    refine aw_iret rfl dX7_carePlace_5 ?_
    refine aw_re (S' := [.int 4, .ref 3, .int 0]) rfl ?_
    refine aw_iald (npc := 44) (x := 1) (j := 4) dX0_hasOf_43 rfl f3 ⟨by decide, by decide⟩ rfl ?_
    refine aw_iload (npc := 46) rfl dX0_hasOf_44 rfl ?_
    refine aw_imulV (npc := 47) (v := 4) dX0_hasOf_46 rfl (by decide) ?_
    refine aw_iaddV (npc := 48) (v := 4) dX0_hasOf_47 rfl (by decide) ?_
    refine aw_istore_n (npc := 49) (L' := [some (.ref 1), some (.int 1), some (.int 4), some (.int 0), some (.int 4)]) dX0_hasOf_48 rfl (by decide) rfl rfl ?_
    refine aw_iinc (npc := 52) (v := 1) (L' := [some (.ref 1), some (.int 1), some (.int 4), some (.int 1), some (.int 4)]) dX0_hasOf_49 rfl rfl (by decide) (by decide) rfl rfl ?_
    refine aw_goto (npc := 4) dX0_hasOf_52 (by decide) ?_
    refine aw_iload_n (npc := 5) rfl dX0_hasOf_4 rfl ?_
    refine aw_iconst (npc := 6) (v := 4) (by decide) dX0_hasOf_5 rfl ?_
    refine aw_icmp_ge (npc := 9) (tgt := 55) dX0_hasOf_6 rfl (by decide) (fun hc => absurd hc (by decide)) (fun _ => ?_)
    refine aw_iload_n (npc := 10) rfl dX0_hasOf_9 rfl ?_
    refine aw_if_ne (npc := 13) (tgt := 22) dX0_hasOf_10 rfl (by decide) (fun _ => ?_) (fun hc => absurd hc (by decide))
    refine aw_bipush (npc := 24) (v := 9) (by decide) dX0_hasOf_22 rfl ?_
    refine aw_aload_n (npc := 25) rfl dX0_hasOf_24 rfl ?_
    refine aw_get (npc := 28) dX0_hasOf_25 rfl kf_X0_9 f1 rfl ?_
    refine aw_iload_n (npc := 29) rfl dX0_hasOf_28 rfl ?_
    refine aw_iald (npc := 30) (x := 5) (j := 1) dX0_hasOf_29 rfl f2 ⟨by decide, by decide⟩ rfl ?_
    refine aw_isubV (npc := 31) (v := 4) dX0_hasOf_30 rfl (by decide) ?_
    refine aw_istore (npc := 33) (L' := [some (.ref 1), some (.int 1), some (.int 4), some (.int 1), some (.int 4)]) dX0_hasOf_31 rfl (by decide) rfl rfl ?_
    refine aw_iload_n (npc := 34) rfl dX0_hasOf_33 rfl ?_
    refine aw_aload_n (npc := 35) rfl dX0_hasOf_34 rfl ?_
    refine aw_get (npc := 38) dX0_hasOf_35 rfl kf_X0_15 f1 rfl ?_
    refine aw_iload_n (npc := 39) rfl dX0_hasOf_38 rfl ?_
    refine aw_iload_n (npc := 40) rfl dX0_hasOf_39 rfl ?_
    refine aw_callSN (npc := 43) (N := mX7_carePlace) (mc := 0) (ms := 0) (A := [.int 1, .int 1]) (S := [.ref 3, .int 4]) (L0 := [some (.int 1), some (.int 1)]) dX0_hasOf_40 rfl km_X7_carePlace kk_X0_87 rfl ⟨rfl, by decide⟩ rfl (Nat.le_of_ble_eq_true rfl) (Nat.zero_add _) (Nat.zero_add _) rfl ?_
    refine aw_iload_n (npc := 1) rfl dX7_carePlace_0 rfl ?_
    refine aw_iconst (npc := 2) (v := 4) (by decide) dX7_carePlace_1 rfl ?_
    refine aw_imulV (npc := 3) (v := 4) dX7_carePlace_2 rfl (by decide) ?_
    refine aw_iload_n (npc := 4) rfl dX7_carePlace_3 rfl ?_
    refine aw_iaddV (npc := 5) (v := 5) dX7_carePlace_4 rfl (by decide) ?_
    refine aw_iret rfl dX7_carePlace_5 ?_
    refine aw_re (S' := [.int 5, .ref 3, .int 4]) rfl ?_
    refine aw_iald (npc := 44) (x := 1) (j := 5) dX0_hasOf_43 rfl f3 ⟨by decide, by decide⟩ rfl ?_
    refine aw_iload (npc := 46) rfl dX0_hasOf_44 rfl ?_
    refine aw_imulV (npc := 47) (v := 4) dX0_hasOf_46 rfl (by decide) ?_
    refine aw_iaddV (npc := 48) (v := 8) dX0_hasOf_47 rfl (by decide) ?_
    refine aw_istore_n (npc := 49) (L' := [some (.ref 1), some (.int 1), some (.int 8), some (.int 1), some (.int 4)]) dX0_hasOf_48 rfl (by decide) rfl rfl ?_
    refine aw_iinc (npc := 52) (v := 2) (L' := [some (.ref 1), some (.int 1), some (.int 8), some (.int 2), some (.int 4)]) dX0_hasOf_49 rfl rfl (by decide) (by decide) rfl rfl ?_
    refine aw_goto (npc := 4) dX0_hasOf_52 (by decide) ?_
    refine aw_iload_n (npc := 5) rfl dX0_hasOf_4 rfl ?_
    refine aw_iconst (npc := 6) (v := 4) (by decide) dX0_hasOf_5 rfl ?_
    refine aw_icmp_ge (npc := 9) (tgt := 55) dX0_hasOf_6 rfl (by decide) (fun hc => absurd hc (by decide)) (fun _ => ?_)
    refine aw_iload_n (npc := 10) rfl dX0_hasOf_9 rfl ?_
    refine aw_if_ne (npc := 13) (tgt := 22) dX0_hasOf_10 rfl (by decide) (fun _ => ?_) (fun hc => absurd hc (by decide))
    refine aw_bipush (npc := 24) (v := 9) (by decide) dX0_hasOf_22 rfl ?_
    refine aw_aload_n (npc := 25) rfl dX0_hasOf_24 rfl ?_
    refine aw_get (npc := 28) dX0_hasOf_25 rfl kf_X0_9 f1 rfl ?_
    refine aw_iload_n (npc := 29) rfl dX0_hasOf_28 rfl ?_
    refine aw_iald (npc := 30) (x := 5) (j := 2) dX0_hasOf_29 rfl f2 ⟨by decide, by decide⟩ rfl ?_
    refine aw_isubV (npc := 31) (v := 4) dX0_hasOf_30 rfl (by decide) ?_
    refine aw_istore (npc := 33) (L' := [some (.ref 1), some (.int 1), some (.int 8), some (.int 2), some (.int 4)]) dX0_hasOf_31 rfl (by decide) rfl rfl ?_
    refine aw_iload_n (npc := 34) rfl dX0_hasOf_33 rfl ?_
    refine aw_aload_n (npc := 35) rfl dX0_hasOf_34 rfl ?_
    refine aw_get (npc := 38) dX0_hasOf_35 rfl kf_X0_15 f1 rfl ?_
    refine aw_iload_n (npc := 39) rfl dX0_hasOf_38 rfl ?_
    refine aw_iload_n (npc := 40) rfl dX0_hasOf_39 rfl ?_
    refine aw_callSN (npc := 43) (N := mX7_carePlace) (mc := 0) (ms := 0) (A := [.int 1, .int 2]) (S := [.ref 3, .int 8]) (L0 := [some (.int 1), some (.int 2)]) dX0_hasOf_40 rfl km_X7_carePlace kk_X0_87 rfl ⟨rfl, by decide⟩ rfl (Nat.le_of_ble_eq_true rfl) (Nat.zero_add _) (Nat.zero_add _) rfl ?_
    refine aw_iload_n (npc := 1) rfl dX7_carePlace_0 rfl ?_
    refine aw_iconst (npc := 2) (v := 4) (by decide) dX7_carePlace_1 rfl ?_
    refine aw_imulV (npc := 3) (v := 4) dX7_carePlace_2 rfl (by decide) ?_
    refine aw_iload_n (npc := 4) rfl dX7_carePlace_3 rfl ?_
    refine aw_iaddV (npc := 5) (v := 6) dX7_carePlace_4 rfl (by decide) ?_
    refine aw_iret rfl dX7_carePlace_5 ?_
    refine aw_re (S' := [.int 6, .ref 3, .int 8]) rfl ?_
    refine aw_iald (npc := 44) (x := 1) (j := 6) dX0_hasOf_43 rfl f3 ⟨by decide, by decide⟩ rfl ?_
    refine aw_iload (npc := 46) rfl dX0_hasOf_44 rfl ?_
    refine aw_imulV (npc := 47) (v := 4) dX0_hasOf_46 rfl (by decide) ?_
    refine aw_iaddV (npc := 48) (v := 12) dX0_hasOf_47 rfl (by decide) ?_
    refine aw_istore_n (npc := 49) (L' := [some (.ref 1), some (.int 1), some (.int 12), some (.int 2), some (.int 4)]) dX0_hasOf_48 rfl (by decide) rfl rfl ?_
    refine aw_iinc (npc := 52) (v := 3) (L' := [some (.ref 1), some (.int 1), some (.int 12), some (.int 3), some (.int 4)]) dX0_hasOf_49 rfl rfl (by decide) (by decide) rfl rfl ?_
    refine aw_goto (npc := 4) dX0_hasOf_52 (by decide) ?_
    refine aw_iload_n (npc := 5) rfl dX0_hasOf_4 rfl ?_
    refine aw_iconst (npc := 6) (v := 4) (by decide) dX0_hasOf_5 rfl ?_
    refine aw_icmp_ge (npc := 9) (tgt := 55) dX0_hasOf_6 rfl (by decide) (fun hc => absurd hc (by decide)) (fun _ => ?_)
    refine aw_iload_n (npc := 10) rfl dX0_hasOf_9 rfl ?_
    refine aw_if_ne (npc := 13) (tgt := 22) dX0_hasOf_10 rfl (by decide) (fun _ => ?_) (fun hc => absurd hc (by decide))
    refine aw_bipush (npc := 24) (v := 9) (by decide) dX0_hasOf_22 rfl ?_
    refine aw_aload_n (npc := 25) rfl dX0_hasOf_24 rfl ?_
    refine aw_get (npc := 28) dX0_hasOf_25 rfl kf_X0_9 f1 rfl ?_
    refine aw_iload_n (npc := 29) rfl dX0_hasOf_28 rfl ?_
    refine aw_iald (npc := 30) (x := 5) (j := 3) dX0_hasOf_29 rfl f2 ⟨by decide, by decide⟩ rfl ?_
    refine aw_isubV (npc := 31) (v := 4) dX0_hasOf_30 rfl (by decide) ?_
    refine aw_istore (npc := 33) (L' := [some (.ref 1), some (.int 1), some (.int 12), some (.int 3), some (.int 4)]) dX0_hasOf_31 rfl (by decide) rfl rfl ?_
    refine aw_iload_n (npc := 34) rfl dX0_hasOf_33 rfl ?_
    refine aw_aload_n (npc := 35) rfl dX0_hasOf_34 rfl ?_
    refine aw_get (npc := 38) dX0_hasOf_35 rfl kf_X0_15 f1 rfl ?_
    refine aw_iload_n (npc := 39) rfl dX0_hasOf_38 rfl ?_
    refine aw_iload_n (npc := 40) rfl dX0_hasOf_39 rfl ?_
    refine aw_callSN (npc := 43) (N := mX7_carePlace) (mc := 0) (ms := 0) (A := [.int 1, .int 3]) (S := [.ref 3, .int 12]) (L0 := [some (.int 1), some (.int 3)]) dX0_hasOf_40 rfl km_X7_carePlace kk_X0_87 rfl ⟨rfl, by decide⟩ rfl (Nat.le_of_ble_eq_true rfl) (Nat.zero_add _) (Nat.zero_add _) rfl ?_
    refine aw_iload_n (npc := 1) rfl dX7_carePlace_0 rfl ?_
    refine aw_iconst (npc := 2) (v := 4) (by decide) dX7_carePlace_1 rfl ?_
    refine aw_imulV (npc := 3) (v := 4) dX7_carePlace_2 rfl (by decide) ?_
    refine aw_iload_n (npc := 4) rfl dX7_carePlace_3 rfl ?_
    refine aw_iaddV (npc := 5) (v := 7) dX7_carePlace_4 rfl (by decide) ?_
    refine aw_iret rfl dX7_carePlace_5 ?_
    refine aw_re (S' := [.int 7, .ref 3, .int 12]) rfl ?_
    refine aw_iald (npc := 44) (x := 1) (j := 7) dX0_hasOf_43 rfl f3 ⟨by decide, by decide⟩ rfl ?_
    refine aw_iload (npc := 46) rfl dX0_hasOf_44 rfl ?_
    refine aw_imulV (npc := 47) (v := 4) dX0_hasOf_46 rfl (by decide) ?_
    refine aw_iaddV (npc := 48) (v := 16) dX0_hasOf_47 rfl (by decide) ?_
    refine aw_istore_n (npc := 49) (L' := [some (.ref 1), some (.int 1), some (.int 16), some (.int 3), some (.int 4)]) dX0_hasOf_48 rfl (by decide) rfl rfl ?_
    refine aw_iinc (npc := 52) (v := 4) (L' := [some (.ref 1), some (.int 1), some (.int 16), some (.int 4), some (.int 4)]) dX0_hasOf_49 rfl rfl (by decide) (by decide) rfl rfl ?_
    refine aw_goto (npc := 4) dX0_hasOf_52 (by decide) ?_
    refine aw_iload_n (npc := 5) rfl dX0_hasOf_4 rfl ?_
    refine aw_iconst (npc := 6) (v := 4) (by decide) dX0_hasOf_5 rfl ?_
    refine aw_icmp_ge (npc := 9) (tgt := 55) dX0_hasOf_6 rfl (by decide) (fun _ => ?_) (fun hc => absurd (by decide) hc)
    refine aw_iload_n (npc := 56) rfl dX0_hasOf_55 rfl ?_
    refine aw_iret rfl dX0_hasOf_56 ?_
    refine aw_re (S' := [.int 16]) rfl ?_
    refine aw_aload_n (npc := 20) rfl dX0_isPeace_19 rfl ?_
    refine aw_get (npc := 23) dX0_isPeace_20 rfl kf_X0_18 f1 rfl ?_
    refine aw_iconst (npc := 24) (v := 1) (by decide) dX0_isPeace_23 rfl ?_
    refine aw_iald (npc := 25) (x := 20) (j := 1) dX0_isPeace_24 rfl f4 ⟨by decide, by decide⟩ rfl ?_
    refine aw_icmp_lt (npc := 28) (tgt := 32) dX0_isPeace_25 rfl (by decide) (fun _ => ?_) (fun hc => absurd (by decide) hc)
    refine aw_iconst (npc := 33) (v := 0) (by decide) dX0_isPeace_32 rfl ?_
    refine aw_zret rfl rfl dX0_isPeace_33 ?_
    refine aw_re (S' := [.int 0]) rfl ?_
    refine aw_if_eq (npc := 72) (tgt := 76) dX7_table_69 rfl (by decide) (fun _ => ?_) (fun hc => absurd (by decide) hc)
    refine aw_iconst (npc := 77) (v := 0) (by decide) dX7_table_76 rfl ?_
    refine aw_iret rfl dX7_table_77 ?_
    exact fin_c hq am_fr0 (show sp_table 2 = 0 from (by unfold sp_table; first | rfl | (simp only [wif_same, ite_self]; done) | (simp only [wif_same, ite_self]; rfl) | (simp [wif_same]; done)))
  · refine aw_tableIn (npc := 78) dX7_table_1 (by decide) (by decide) rfl (by decide) ?_
    refine aw_aload_n (npc := 79) rfl dX7_table_78 rfl ?_
    refine aw_get (npc := 82) dX7_table_79 rfl kf_X7_10 f0 rfl ?_
    refine aw_callV (npc := 85) (N := mX0_standsAsNumber) (b := 1) (mc := 0) (ms := 0) (A := []) (S := []) (L0 := [some (.ref 1), none, none]) dX7_table_82 rfl km_X0_standsAsNumber kk_X7_173 f1 ⟨by decide, rfl⟩ rfl ⟨rfl, by decide⟩ rfl (Nat.le_of_ble_eq_true rfl) (Nat.zero_add _) (Nat.zero_add _) rfl ?_
    refine aw_iconst (npc := 1) (v := 0) (by decide) dX0_standsAsNumber_0 rfl ?_
    refine aw_istore_n (npc := 2) (L' := [some (.ref 1), some (.int 0), none]) dX0_standsAsNumber_1 rfl (by decide) rfl rfl ?_
    refine aw_iconst (npc := 3) (v := 0) (by decide) dX0_standsAsNumber_2 rfl ?_
    refine aw_istore_n (npc := 4) (L' := [some (.ref 1), some (.int 0), some (.int 0)]) dX0_standsAsNumber_3 rfl (by decide) rfl rfl ?_
    refine aw_iload_n (npc := 5) rfl dX0_standsAsNumber_4 rfl ?_
    refine aw_iconst (npc := 6) (v := 4) (by decide) dX0_standsAsNumber_5 rfl ?_
    refine aw_icmp_ge (npc := 9) (tgt := 27) dX0_standsAsNumber_6 rfl (by decide) (fun hc => absurd hc (by decide)) (fun _ => ?_)
    refine aw_iload_n (npc := 10) rfl dX0_standsAsNumber_9 rfl ?_
    refine aw_bipush (npc := 12) (v := 10) (by decide) dX0_standsAsNumber_10 rfl ?_
    refine aw_imulV (npc := 13) (v := 0) dX0_standsAsNumber_12 rfl (by decide) ?_
    refine aw_aload_n (npc := 14) rfl dX0_standsAsNumber_13 rfl ?_
    refine aw_get (npc := 17) dX0_standsAsNumber_14 rfl kf_X0_9 f1 rfl ?_
    refine aw_iload_n (npc := 18) rfl dX0_standsAsNumber_17 rfl ?_
    refine aw_iald (npc := 19) (x := 5) (j := 0) dX0_standsAsNumber_18 rfl f2 ⟨by decide, by decide⟩ rfl ?_
    refine aw_iaddV (npc := 20) (v := 5) dX0_standsAsNumber_19 rfl (by decide) ?_
    refine aw_istore_n (npc := 21) (L' := [some (.ref 1), some (.int 5), some (.int 0)]) dX0_standsAsNumber_20 rfl (by decide) rfl rfl ?_
    refine aw_iinc (npc := 24) (v := 1) (L' := [some (.ref 1), some (.int 5), some (.int 1)]) dX0_standsAsNumber_21 rfl rfl (by decide) (by decide) rfl rfl ?_
    refine aw_goto (npc := 4) dX0_standsAsNumber_24 (by decide) ?_
    refine aw_iload_n (npc := 5) rfl dX0_standsAsNumber_4 rfl ?_
    refine aw_iconst (npc := 6) (v := 4) (by decide) dX0_standsAsNumber_5 rfl ?_
    refine aw_icmp_ge (npc := 9) (tgt := 27) dX0_standsAsNumber_6 rfl (by decide) (fun hc => absurd hc (by decide)) (fun _ => ?_)
    refine aw_iload_n (npc := 10) rfl dX0_standsAsNumber_9 rfl ?_
    refine aw_bipush (npc := 12) (v := 10) (by decide) dX0_standsAsNumber_10 rfl ?_
    refine aw_imulV (npc := 13) (v := 50) dX0_standsAsNumber_12 rfl (by decide) ?_
    refine aw_aload_n (npc := 14) rfl dX0_standsAsNumber_13 rfl ?_
    refine aw_get (npc := 17) dX0_standsAsNumber_14 rfl kf_X0_9 f1 rfl ?_
    refine aw_iload_n (npc := 18) rfl dX0_standsAsNumber_17 rfl ?_
    refine aw_iald (npc := 19) (x := 5) (j := 1) dX0_standsAsNumber_18 rfl f2 ⟨by decide, by decide⟩ rfl ?_
    refine aw_iaddV (npc := 20) (v := 55) dX0_standsAsNumber_19 rfl (by decide) ?_
    refine aw_istore_n (npc := 21) (L' := [some (.ref 1), some (.int 55), some (.int 1)]) dX0_standsAsNumber_20 rfl (by decide) rfl rfl ?_
    refine aw_iinc (npc := 24) (v := 2) (L' := [some (.ref 1), some (.int 55), some (.int 2)]) dX0_standsAsNumber_21 rfl rfl (by decide) (by decide) rfl rfl ?_
    refine aw_goto (npc := 4) dX0_standsAsNumber_24 (by decide) ?_
    refine aw_iload_n (npc := 5) rfl dX0_standsAsNumber_4 rfl ?_
    refine aw_iconst (npc := 6) (v := 4) (by decide) dX0_standsAsNumber_5 rfl ?_
    refine aw_icmp_ge (npc := 9) (tgt := 27) dX0_standsAsNumber_6 rfl (by decide) (fun hc => absurd hc (by decide)) (fun _ => ?_)
    refine aw_iload_n (npc := 10) rfl dX0_standsAsNumber_9 rfl ?_
    refine aw_bipush (npc := 12) (v := 10) (by decide) dX0_standsAsNumber_10 rfl ?_
    refine aw_imulV (npc := 13) (v := 550) dX0_standsAsNumber_12 rfl (by decide) ?_
    refine aw_aload_n (npc := 14) rfl dX0_standsAsNumber_13 rfl ?_
    refine aw_get (npc := 17) dX0_standsAsNumber_14 rfl kf_X0_9 f1 rfl ?_
    refine aw_iload_n (npc := 18) rfl dX0_standsAsNumber_17 rfl ?_
    refine aw_iald (npc := 19) (x := 5) (j := 2) dX0_standsAsNumber_18 rfl f2 ⟨by decide, by decide⟩ rfl ?_
    refine aw_iaddV (npc := 20) (v := 555) dX0_standsAsNumber_19 rfl (by decide) ?_
    refine aw_istore_n (npc := 21) (L' := [some (.ref 1), some (.int 555), some (.int 2)]) dX0_standsAsNumber_20 rfl (by decide) rfl rfl ?_
    refine aw_iinc (npc := 24) (v := 3) (L' := [some (.ref 1), some (.int 555), some (.int 3)]) dX0_standsAsNumber_21 rfl rfl (by decide) (by decide) rfl rfl ?_
    refine aw_goto (npc := 4) dX0_standsAsNumber_24 (by decide) ?_
    refine aw_iload_n (npc := 5) rfl dX0_standsAsNumber_4 rfl ?_
    refine aw_iconst (npc := 6) (v := 4) (by decide) dX0_standsAsNumber_5 rfl ?_
    refine aw_icmp_ge (npc := 9) (tgt := 27) dX0_standsAsNumber_6 rfl (by decide) (fun hc => absurd hc (by decide)) (fun _ => ?_)
    refine aw_iload_n (npc := 10) rfl dX0_standsAsNumber_9 rfl ?_
    refine aw_bipush (npc := 12) (v := 10) (by decide) dX0_standsAsNumber_10 rfl ?_
    refine aw_imulV (npc := 13) (v := 5550) dX0_standsAsNumber_12 rfl (by decide) ?_
    refine aw_aload_n (npc := 14) rfl dX0_standsAsNumber_13 rfl ?_
    refine aw_get (npc := 17) dX0_standsAsNumber_14 rfl kf_X0_9 f1 rfl ?_
    refine aw_iload_n (npc := 18) rfl dX0_standsAsNumber_17 rfl ?_
    refine aw_iald (npc := 19) (x := 5) (j := 3) dX0_standsAsNumber_18 rfl f2 ⟨by decide, by decide⟩ rfl ?_
    refine aw_iaddV (npc := 20) (v := 5555) dX0_standsAsNumber_19 rfl (by decide) ?_
    refine aw_istore_n (npc := 21) (L' := [some (.ref 1), some (.int 5555), some (.int 3)]) dX0_standsAsNumber_20 rfl (by decide) rfl rfl ?_
    refine aw_iinc (npc := 24) (v := 4) (L' := [some (.ref 1), some (.int 5555), some (.int 4)]) dX0_standsAsNumber_21 rfl rfl (by decide) (by decide) rfl rfl ?_
    refine aw_goto (npc := 4) dX0_standsAsNumber_24 (by decide) ?_
    refine aw_iload_n (npc := 5) rfl dX0_standsAsNumber_4 rfl ?_
    refine aw_iconst (npc := 6) (v := 4) (by decide) dX0_standsAsNumber_5 rfl ?_
    refine aw_icmp_ge (npc := 9) (tgt := 27) dX0_standsAsNumber_6 rfl (by decide) (fun _ => ?_) (fun hc => absurd (by decide) hc)
    refine aw_iload_n (npc := 28) rfl dX0_standsAsNumber_27 rfl ?_
    refine aw_iret rfl dX0_standsAsNumber_28 ?_
    refine aw_re (S' := [.int 5555]) rfl ?_
    refine aw_iret rfl dX7_table_85 ?_
    exact fin_c hq am_fr0 (show sp_table 3 = 5555 from (by unfold sp_table; first | rfl | (simp only [wif_same, ite_self]; done) | (simp only [wif_same, ite_self]; rfl) | (simp [wif_same]; done)))
  · refine aw_tableIn (npc := 86) dX7_table_1 (by decide) (by decide) rfl (by decide) ?_
    refine aw_aload_n (npc := 87) rfl dX7_table_86 rfl ?_
    refine aw_get (npc := 90) dX7_table_87 rfl kf_X7_10 f0 rfl ?_
    refine aw_get (npc := 93) dX7_table_90 rfl kf_X7_176 f1 rfl ?_
    refine aw_iret rfl dX7_table_93 ?_
    exact fin_c hq am_fr0 (show sp_table 4 = 0 from (by unfold sp_table; first | rfl | (simp only [wif_same, ite_self]; done) | (simp only [wif_same, ite_self]; rfl) | (simp [wif_same]; done)))
  · refine aw_tableIn (npc := 94) dX7_table_1 (by decide) (by decide) rfl (by decide) ?_
    refine aw_aload_n (npc := 95) rfl dX7_table_94 rfl ?_
    refine aw_get (npc := 98) dX7_table_95 rfl kf_X7_10 f0 rfl ?_
    refine aw_aload_n (npc := 99) rfl dX7_table_98 rfl ?_
    refine aw_get (npc := 102) dX7_table_99 rfl kf_X7_10 f0 rfl ?_
    refine aw_get (npc := 105) dX7_table_102 rfl kf_X7_99 f1 rfl ?_
    refine aw_callV (npc := 108) (N := mX0_sumOverFriends) (b := 1) (mc := 0) (ms := 0) (A := [.ref 8]) (S := []) (L0 := [some (.ref 1), some (.ref 8), none, none]) dX7_table_105 rfl km_X0_sumOverFriends kk_X7_179 f1 ⟨by decide, rfl⟩ rfl ⟨rfl, by decide⟩ rfl (Nat.le_of_ble_eq_true rfl) (Nat.zero_add _) (Nat.zero_add _) rfl ?_
    refine aw_iconst (npc := 1) (v := 0) (by decide) dX0_sumOverFriends_0 rfl ?_
    refine aw_istore_n (npc := 2) (L' := [some (.ref 1), some (.ref 8), some (.int 0), none]) dX0_sumOverFriends_1 rfl (by decide) rfl rfl ?_
    refine aw_iconst (npc := 3) (v := 0) (by decide) dX0_sumOverFriends_2 rfl ?_
    refine aw_istore_n (npc := 4) (L' := [some (.ref 1), some (.ref 8), some (.int 0), some (.int 0)]) dX0_sumOverFriends_3 rfl (by decide) rfl rfl ?_
    refine aw_iload_n (npc := 5) rfl dX0_sumOverFriends_4 rfl ?_
    refine aw_aload_n (npc := 6) rfl dX0_sumOverFriends_5 rfl ?_
    refine aw_get (npc := 9) dX0_sumOverFriends_6 rfl kf_X0_40 f1 rfl ?_
    refine aw_icmp_ge (npc := 12) (tgt := 24) dX0_sumOverFriends_9 rfl (by decide) (fun _ => ?_) (fun hc => absurd (by decide) hc)
    refine aw_iload_n (npc := 25) rfl dX0_sumOverFriends_24 rfl ?_
    refine aw_iret rfl dX0_sumOverFriends_25 ?_
    refine aw_re (S' := [.int 0]) rfl ?_
    refine aw_iret rfl dX7_table_108 ?_
    exact fin_c hq am_fr0 (show sp_table 5 = 0 from (by unfold sp_table; first | rfl | (simp only [wif_same, ite_self]; done) | (simp only [wif_same, ite_self]; rfl) | (simp [wif_same]; done)))
  · refine aw_tableIn (npc := 109) dX7_table_1 (by decide) (by decide) rfl (by decide) ?_
    refine aw_aload_n (npc := 110) rfl dX7_table_109 rfl ?_
    refine aw_get (npc := 113) dX7_table_110 rfl kf_X7_10 f0 rfl ?_
    refine aw_aload_n (npc := 114) rfl dX7_table_113 rfl ?_
    refine aw_get (npc := 117) dX7_table_114 rfl kf_X7_10 f0 rfl ?_
    refine aw_get (npc := 120) dX7_table_117 rfl kf_X7_102 f1 rfl ?_
    refine aw_callV (npc := 123) (N := mX0_sumOverFriends) (b := 1) (mc := 0) (ms := 0) (A := [.ref 9]) (S := []) (L0 := [some (.ref 1), some (.ref 9), none, none]) dX7_table_120 rfl km_X0_sumOverFriends kk_X7_179 f1 ⟨by decide, rfl⟩ rfl ⟨rfl, by decide⟩ rfl (Nat.le_of_ble_eq_true rfl) (Nat.zero_add _) (Nat.zero_add _) rfl ?_
    refine aw_iconst (npc := 1) (v := 0) (by decide) dX0_sumOverFriends_0 rfl ?_
    refine aw_istore_n (npc := 2) (L' := [some (.ref 1), some (.ref 9), some (.int 0), none]) dX0_sumOverFriends_1 rfl (by decide) rfl rfl ?_
    refine aw_iconst (npc := 3) (v := 0) (by decide) dX0_sumOverFriends_2 rfl ?_
    refine aw_istore_n (npc := 4) (L' := [some (.ref 1), some (.ref 9), some (.int 0), some (.int 0)]) dX0_sumOverFriends_3 rfl (by decide) rfl rfl ?_
    refine aw_iload_n (npc := 5) rfl dX0_sumOverFriends_4 rfl ?_
    refine aw_aload_n (npc := 6) rfl dX0_sumOverFriends_5 rfl ?_
    refine aw_get (npc := 9) dX0_sumOverFriends_6 rfl kf_X0_40 f1 rfl ?_
    refine aw_icmp_ge (npc := 12) (tgt := 24) dX0_sumOverFriends_9 rfl (by decide) (fun _ => ?_) (fun hc => absurd (by decide) hc)
    refine aw_iload_n (npc := 25) rfl dX0_sumOverFriends_24 rfl ?_
    refine aw_iret rfl dX0_sumOverFriends_25 ?_
    refine aw_re (S' := [.int 0]) rfl ?_
    refine aw_iret rfl dX7_table_123 ?_
    exact fin_c hq am_fr0 (show sp_table 6 = 0 from (by unfold sp_table; first | rfl | (simp only [wif_same, ite_self]; done) | (simp only [wif_same, ite_self]; rfl) | (simp [wif_same]; done)))
  · refine aw_tableOut (npc := 124) dX7_table_1 hs1.1 (by decide) ?_
    refine aw_ldc (npc := 126) kc_X7_78 dX7_table_124 rfl ?_
    refine aw_iret rfl dX7_table_126 ?_
    exact fin_c hq am_fr0 (show sp_table w = (-1000000001) from (by unfold sp_table; first | rfl | (simp only [if_neg (hs1.2 0 ⟨by decide, by decide⟩), if_neg (hs1.2 1 ⟨by decide, by decide⟩), if_neg (hs1.2 2 ⟨by decide, by decide⟩), if_neg (hs1.2 3 ⟨by decide, by decide⟩), if_neg (hs1.2 4 ⟨by decide, by decide⟩), if_neg (hs1.2 5 ⟨by decide, by decide⟩), if_neg (hs1.2 6 ⟨by decide, by decide⟩), wif_same, ite_self]; done) | (simp only [if_neg (hs1.2 0 ⟨by decide, by decide⟩), if_neg (hs1.2 1 ⟨by decide, by decide⟩), if_neg (hs1.2 2 ⟨by decide, by decide⟩), if_neg (hs1.2 3 ⟨by decide, by decide⟩), if_neg (hs1.2 4 ⟨by decide, by decide⟩), if_neg (hs1.2 5 ⟨by decide, by decide⟩), if_neg (hs1.2 6 ⟨by decide, by decide⟩), wif_same, ite_self]; rfl) | (simp [if_neg (hs1.2 0 ⟨by decide, by decide⟩), if_neg (hs1.2 1 ⟨by decide, by decide⟩), if_neg (hs1.2 2 ⟨by decide, by decide⟩), if_neg (hs1.2 3 ⟨by decide, by decide⟩), if_neg (hs1.2 4 ⟨by decide, by decide⟩), if_neg (hs1.2 5 ⟨by decide, by decide⟩), if_neg (hs1.2 6 ⟨by decide, by decide⟩), wif_same]; done)))
set_option maxHeartbeats 40000000 in
set_option maxRecDepth 100000 in
theorem p_X8_table {X : List Int32} {d rc rs : Nat} {h : am_H} {Q : am_Q} {w : Int32} (F : f0_X8 h) (hq : ∀ n9 h9, Q (some (.int (sp_table w))) n9 h9) : AW X mX8_table (d + 12) rc rs 0 [some (.ref 69), some (.int w)] [] 92 h Q := by
  obtain ⟨g69, g70, -, -, -, -, -, -, -, -, -, -, -, -, -, -, -, -, -, -, -, -, -⟩ := F
  refine aw_iload_n (npc := 1) rfl dX8_table_0 rfl ?_
  rcases sw_6 w with rfl | rfl | rfl | rfl | rfl | rfl | rfl | hs1
  · refine aw_tableIn (npc := 44) dX8_table_1 (by decide) (by decide) rfl (by decide) ?_
    refine aw_aload_n (npc := 45) rfl dX8_table_44 rfl ?_
    refine aw_iload_n (npc := 46) rfl dX8_table_45 rfl ?_
    refine aw_callV (npc := 49) (N := mX8_has) (b := 69) (mc := 0) (ms := 0) (A := [.int 0]) (S := []) (L0 := [some (.ref 69), some (.int 0), none, none, none]) dX8_table_46 rfl km_X8_has kk_X8_143 g69 ⟨by decide, rfl⟩ rfl ⟨rfl, by decide⟩ rfl (Nat.le_of_ble_eq_true rfl) (Nat.zero_add _) (Nat.zero_add _) rfl ?_
    refine aw_iconst (npc := 1) (v := 0) (by decide) dX8_has_0 rfl ?_
    refine aw_istore_n (npc := 2) (L' := [some (.ref 69), some (.int 0), some (.int 0), none, none]) dX8_has_1 rfl (by decide) rfl rfl ?_
    refine aw_iconst (npc := 3) (v := 0) (by decide) dX8_has_2 rfl ?_
    refine aw_istore_n (npc := 4) (L' := [some (.ref 69), some (.int 0), some (.int 0), some (.int 0), none]) dX8_has_3 rfl (by decide) rfl rfl ?_
    refine aw_iload_n (npc := 5) rfl dX8_has_4 rfl ?_
    refine aw_iconst (npc := 6) (v := 4) (by decide) dX8_has_5 rfl ?_
    refine aw_icmp_ge (npc := 9) (tgt := 57) dX8_has_6 rfl (by decide) (fun hc => absurd hc (by decide)) (fun _ => ?_)
    refine aw_aload_n (npc := 10) rfl dX8_has_9 rfl ?_
    refine aw_get (npc := 13) dX8_has_10 rfl kf_X8_9 g69 rfl ?_
    refine aw_bipush (npc := 15) (v := 8) (by decide) dX8_has_13 rfl ?_
    refine aw_iload_n (npc := 16) rfl dX8_has_15 rfl ?_
    refine aw_iaddV (npc := 17) (v := 8) dX8_has_16 rfl (by decide) ?_
    refine aw_iald (npc := 18) (x := 5) (j := 8) dX8_has_17 rfl g70 ⟨by decide, by decide⟩ rfl ?_
    refine aw_istore (npc := 20) (L' := [some (.ref 69), some (.int 0), some (.int 0), some (.int 0), some (.int 5)]) dX8_has_18 rfl (by decide) rfl rfl ?_
    refine aw_iload_n (npc := 21) rfl dX8_has_20 rfl ?_
    refine aw_aload_n (npc := 22) rfl dX8_has_21 rfl ?_
    refine aw_get (npc := 25) dX8_has_22 rfl kf_X8_9 g69 rfl ?_
    refine aw_bipush (npc := 27) (v := 12) (by decide) dX8_has_25 rfl ?_
    refine aw_iconst (npc := 28) (v := 4) (by decide) dX8_has_27 rfl ?_
    refine aw_iload_n (npc := 29) rfl dX8_has_28 rfl ?_
    refine aw_imulV (npc := 30) (v := 0) dX8_has_29 rfl (by decide) ?_
    refine aw_iaddV (npc := 31) (v := 12) dX8_has_30 rfl (by decide) ?_
    refine aw_iload_n (npc := 32) rfl dX8_has_31 rfl ?_
    refine aw_iaddV (npc := 33) (v := 12) dX8_has_32 rfl (by decide) ?_
    refine aw_iald (npc := 34) (x := 1) (j := 12) dX8_has_33 rfl g70 ⟨by decide, by decide⟩ rfl ?_
    refine aw_iload_n (npc := 35) rfl dX8_has_34 rfl ?_
    refine aw_if_ne (npc := 38) (tgt := 43) dX8_has_35 rfl (by decide) (fun hc => absurd (by decide) hc) (fun _ => ?_)
    refine aw_iload (npc := 40) rfl dX8_has_38 rfl ?_
    refine aw_goto (npc := 48) dX8_has_40 (by decide) ?_
    refine aw_imulV (npc := 49) (v := 5) dX8_has_48 rfl (by decide) ?_
    refine aw_iaddV (npc := 50) (v := 5) dX8_has_49 rfl (by decide) ?_
    refine aw_istore_n (npc := 51) (L' := [some (.ref 69), some (.int 0), some (.int 5), some (.int 0), some (.int 5)]) dX8_has_50 rfl (by decide) rfl rfl ?_
    refine aw_iinc (npc := 54) (v := 1) (L' := [some (.ref 69), some (.int 0), some (.int 5), some (.int 1), some (.int 5)]) dX8_has_51 rfl rfl (by decide) (by decide) rfl rfl ?_
    refine aw_goto (npc := 4) dX8_has_54 (by decide) ?_
    refine aw_iload_n (npc := 5) rfl dX8_has_4 rfl ?_
    refine aw_iconst (npc := 6) (v := 4) (by decide) dX8_has_5 rfl ?_
    refine aw_icmp_ge (npc := 9) (tgt := 57) dX8_has_6 rfl (by decide) (fun hc => absurd hc (by decide)) (fun _ => ?_)
    refine aw_aload_n (npc := 10) rfl dX8_has_9 rfl ?_
    refine aw_get (npc := 13) dX8_has_10 rfl kf_X8_9 g69 rfl ?_
    refine aw_bipush (npc := 15) (v := 8) (by decide) dX8_has_13 rfl ?_
    refine aw_iload_n (npc := 16) rfl dX8_has_15 rfl ?_
    refine aw_iaddV (npc := 17) (v := 9) dX8_has_16 rfl (by decide) ?_
    refine aw_iald (npc := 18) (x := 5) (j := 9) dX8_has_17 rfl g70 ⟨by decide, by decide⟩ rfl ?_
    refine aw_istore (npc := 20) (L' := [some (.ref 69), some (.int 0), some (.int 5), some (.int 1), some (.int 5)]) dX8_has_18 rfl (by decide) rfl rfl ?_
    refine aw_iload_n (npc := 21) rfl dX8_has_20 rfl ?_
    refine aw_aload_n (npc := 22) rfl dX8_has_21 rfl ?_
    refine aw_get (npc := 25) dX8_has_22 rfl kf_X8_9 g69 rfl ?_
    refine aw_bipush (npc := 27) (v := 12) (by decide) dX8_has_25 rfl ?_
    refine aw_iconst (npc := 28) (v := 4) (by decide) dX8_has_27 rfl ?_
    refine aw_iload_n (npc := 29) rfl dX8_has_28 rfl ?_
    refine aw_imulV (npc := 30) (v := 0) dX8_has_29 rfl (by decide) ?_
    refine aw_iaddV (npc := 31) (v := 12) dX8_has_30 rfl (by decide) ?_
    refine aw_iload_n (npc := 32) rfl dX8_has_31 rfl ?_
    refine aw_iaddV (npc := 33) (v := 13) dX8_has_32 rfl (by decide) ?_
    refine aw_iald (npc := 34) (x := 1) (j := 13) dX8_has_33 rfl g70 ⟨by decide, by decide⟩ rfl ?_
    refine aw_iload_n (npc := 35) rfl dX8_has_34 rfl ?_
    refine aw_if_ne (npc := 38) (tgt := 43) dX8_has_35 rfl (by decide) (fun hc => absurd (by decide) hc) (fun _ => ?_)
    refine aw_iload (npc := 40) rfl dX8_has_38 rfl ?_
    refine aw_goto (npc := 48) dX8_has_40 (by decide) ?_
    refine aw_imulV (npc := 49) (v := 5) dX8_has_48 rfl (by decide) ?_
    refine aw_iaddV (npc := 50) (v := 10) dX8_has_49 rfl (by decide) ?_
    refine aw_istore_n (npc := 51) (L' := [some (.ref 69), some (.int 0), some (.int 10), some (.int 1), some (.int 5)]) dX8_has_50 rfl (by decide) rfl rfl ?_
    refine aw_iinc (npc := 54) (v := 2) (L' := [some (.ref 69), some (.int 0), some (.int 10), some (.int 2), some (.int 5)]) dX8_has_51 rfl rfl (by decide) (by decide) rfl rfl ?_
    refine aw_goto (npc := 4) dX8_has_54 (by decide) ?_
    refine aw_iload_n (npc := 5) rfl dX8_has_4 rfl ?_
    refine aw_iconst (npc := 6) (v := 4) (by decide) dX8_has_5 rfl ?_
    refine aw_icmp_ge (npc := 9) (tgt := 57) dX8_has_6 rfl (by decide) (fun hc => absurd hc (by decide)) (fun _ => ?_)
    refine aw_aload_n (npc := 10) rfl dX8_has_9 rfl ?_
    refine aw_get (npc := 13) dX8_has_10 rfl kf_X8_9 g69 rfl ?_
    refine aw_bipush (npc := 15) (v := 8) (by decide) dX8_has_13 rfl ?_
    refine aw_iload_n (npc := 16) rfl dX8_has_15 rfl ?_
    refine aw_iaddV (npc := 17) (v := 10) dX8_has_16 rfl (by decide) ?_
    refine aw_iald (npc := 18) (x := 5) (j := 10) dX8_has_17 rfl g70 ⟨by decide, by decide⟩ rfl ?_
    refine aw_istore (npc := 20) (L' := [some (.ref 69), some (.int 0), some (.int 10), some (.int 2), some (.int 5)]) dX8_has_18 rfl (by decide) rfl rfl ?_
    refine aw_iload_n (npc := 21) rfl dX8_has_20 rfl ?_
    refine aw_aload_n (npc := 22) rfl dX8_has_21 rfl ?_
    refine aw_get (npc := 25) dX8_has_22 rfl kf_X8_9 g69 rfl ?_
    refine aw_bipush (npc := 27) (v := 12) (by decide) dX8_has_25 rfl ?_
    refine aw_iconst (npc := 28) (v := 4) (by decide) dX8_has_27 rfl ?_
    refine aw_iload_n (npc := 29) rfl dX8_has_28 rfl ?_
    refine aw_imulV (npc := 30) (v := 0) dX8_has_29 rfl (by decide) ?_
    refine aw_iaddV (npc := 31) (v := 12) dX8_has_30 rfl (by decide) ?_
    refine aw_iload_n (npc := 32) rfl dX8_has_31 rfl ?_
    refine aw_iaddV (npc := 33) (v := 14) dX8_has_32 rfl (by decide) ?_
    refine aw_iald (npc := 34) (x := 1) (j := 14) dX8_has_33 rfl g70 ⟨by decide, by decide⟩ rfl ?_
    refine aw_iload_n (npc := 35) rfl dX8_has_34 rfl ?_
    refine aw_if_ne (npc := 38) (tgt := 43) dX8_has_35 rfl (by decide) (fun hc => absurd (by decide) hc) (fun _ => ?_)
    refine aw_iload (npc := 40) rfl dX8_has_38 rfl ?_
    refine aw_goto (npc := 48) dX8_has_40 (by decide) ?_
    refine aw_imulV (npc := 49) (v := 5) dX8_has_48 rfl (by decide) ?_
    refine aw_iaddV (npc := 50) (v := 15) dX8_has_49 rfl (by decide) ?_
    refine aw_istore_n (npc := 51) (L' := [some (.ref 69), some (.int 0), some (.int 15), some (.int 2), some (.int 5)]) dX8_has_50 rfl (by decide) rfl rfl ?_
    refine aw_iinc (npc := 54) (v := 3) (L' := [some (.ref 69), some (.int 0), some (.int 15), some (.int 3), some (.int 5)]) dX8_has_51 rfl rfl (by decide) (by decide) rfl rfl ?_
    refine aw_goto (npc := 4) dX8_has_54 (by decide) ?_
    refine aw_iload_n (npc := 5) rfl dX8_has_4 rfl ?_
    refine aw_iconst (npc := 6) (v := 4) (by decide) dX8_has_5 rfl ?_
    refine aw_icmp_ge (npc := 9) (tgt := 57) dX8_has_6 rfl (by decide) (fun hc => absurd hc (by decide)) (fun _ => ?_)
    refine aw_aload_n (npc := 10) rfl dX8_has_9 rfl ?_
    refine aw_get (npc := 13) dX8_has_10 rfl kf_X8_9 g69 rfl ?_
    refine aw_bipush (npc := 15) (v := 8) (by decide) dX8_has_13 rfl ?_
    refine aw_iload_n (npc := 16) rfl dX8_has_15 rfl ?_
    refine aw_iaddV (npc := 17) (v := 11) dX8_has_16 rfl (by decide) ?_
    refine aw_iald (npc := 18) (x := 5) (j := 11) dX8_has_17 rfl g70 ⟨by decide, by decide⟩ rfl ?_
    refine aw_istore (npc := 20) (L' := [some (.ref 69), some (.int 0), some (.int 15), some (.int 3), some (.int 5)]) dX8_has_18 rfl (by decide) rfl rfl ?_
    refine aw_iload_n (npc := 21) rfl dX8_has_20 rfl ?_
    refine aw_aload_n (npc := 22) rfl dX8_has_21 rfl ?_
    refine aw_get (npc := 25) dX8_has_22 rfl kf_X8_9 g69 rfl ?_
    refine aw_bipush (npc := 27) (v := 12) (by decide) dX8_has_25 rfl ?_
    refine aw_iconst (npc := 28) (v := 4) (by decide) dX8_has_27 rfl ?_
    refine aw_iload_n (npc := 29) rfl dX8_has_28 rfl ?_
    refine aw_imulV (npc := 30) (v := 0) dX8_has_29 rfl (by decide) ?_
    refine aw_iaddV (npc := 31) (v := 12) dX8_has_30 rfl (by decide) ?_
    refine aw_iload_n (npc := 32) rfl dX8_has_31 rfl ?_
    refine aw_iaddV (npc := 33) (v := 15) dX8_has_32 rfl (by decide) ?_
    refine aw_iald (npc := 34) (x := 1) (j := 15) dX8_has_33 rfl g70 ⟨by decide, by decide⟩ rfl ?_
    refine aw_iload_n (npc := 35) rfl dX8_has_34 rfl ?_
    refine aw_if_ne (npc := 38) (tgt := 43) dX8_has_35 rfl (by decide) (fun hc => absurd (by decide) hc) (fun _ => ?_)
    refine aw_iload (npc := 40) rfl dX8_has_38 rfl ?_
    refine aw_goto (npc := 48) dX8_has_40 (by decide) ?_
    refine aw_imulV (npc := 49) (v := 5) dX8_has_48 rfl (by decide) ?_
    refine aw_iaddV (npc := 50) (v := 20) dX8_has_49 rfl (by decide) ?_
    refine aw_istore_n (npc := 51) (L' := [some (.ref 69), some (.int 0), some (.int 20), some (.int 3), some (.int 5)]) dX8_has_50 rfl (by decide) rfl rfl ?_
    refine aw_iinc (npc := 54) (v := 4) (L' := [some (.ref 69), some (.int 0), some (.int 20), some (.int 4), some (.int 5)]) dX8_has_51 rfl rfl (by decide) (by decide) rfl rfl ?_
    refine aw_goto (npc := 4) dX8_has_54 (by decide) ?_
    refine aw_iload_n (npc := 5) rfl dX8_has_4 rfl ?_
    refine aw_iconst (npc := 6) (v := 4) (by decide) dX8_has_5 rfl ?_
    refine aw_icmp_ge (npc := 9) (tgt := 57) dX8_has_6 rfl (by decide) (fun _ => ?_) (fun hc => absurd (by decide) hc)
    refine aw_iload_n (npc := 58) rfl dX8_has_57 rfl ?_
    refine aw_iret rfl dX8_has_58 ?_
    refine aw_re (S' := [.int 20]) rfl ?_
    refine aw_iret rfl dX8_table_49 ?_
    exact fin_m hq (show sp_table 0 = 20 from (by unfold sp_table; first | rfl | (simp only [wif_same, ite_self]; done) | (simp only [wif_same, ite_self]; rfl) | (simp [wif_same]; done)))
  · refine aw_tableIn (npc := 44) dX8_table_1 (by decide) (by decide) rfl (by decide) ?_
    refine aw_aload_n (npc := 45) rfl dX8_table_44 rfl ?_
    refine aw_iload_n (npc := 46) rfl dX8_table_45 rfl ?_
    refine aw_callV (npc := 49) (N := mX8_has) (b := 69) (mc := 0) (ms := 0) (A := [.int 1]) (S := []) (L0 := [some (.ref 69), some (.int 1), none, none, none]) dX8_table_46 rfl km_X8_has kk_X8_143 g69 ⟨by decide, rfl⟩ rfl ⟨rfl, by decide⟩ rfl (Nat.le_of_ble_eq_true rfl) (Nat.zero_add _) (Nat.zero_add _) rfl ?_
    refine aw_iconst (npc := 1) (v := 0) (by decide) dX8_has_0 rfl ?_
    refine aw_istore_n (npc := 2) (L' := [some (.ref 69), some (.int 1), some (.int 0), none, none]) dX8_has_1 rfl (by decide) rfl rfl ?_
    refine aw_iconst (npc := 3) (v := 0) (by decide) dX8_has_2 rfl ?_
    refine aw_istore_n (npc := 4) (L' := [some (.ref 69), some (.int 1), some (.int 0), some (.int 0), none]) dX8_has_3 rfl (by decide) rfl rfl ?_
    refine aw_iload_n (npc := 5) rfl dX8_has_4 rfl ?_
    refine aw_iconst (npc := 6) (v := 4) (by decide) dX8_has_5 rfl ?_
    refine aw_icmp_ge (npc := 9) (tgt := 57) dX8_has_6 rfl (by decide) (fun hc => absurd hc (by decide)) (fun _ => ?_)
    refine aw_aload_n (npc := 10) rfl dX8_has_9 rfl ?_
    refine aw_get (npc := 13) dX8_has_10 rfl kf_X8_9 g69 rfl ?_
    refine aw_bipush (npc := 15) (v := 8) (by decide) dX8_has_13 rfl ?_
    refine aw_iload_n (npc := 16) rfl dX8_has_15 rfl ?_
    refine aw_iaddV (npc := 17) (v := 8) dX8_has_16 rfl (by decide) ?_
    refine aw_iald (npc := 18) (x := 5) (j := 8) dX8_has_17 rfl g70 ⟨by decide, by decide⟩ rfl ?_
    refine aw_istore (npc := 20) (L' := [some (.ref 69), some (.int 1), some (.int 0), some (.int 0), some (.int 5)]) dX8_has_18 rfl (by decide) rfl rfl ?_
    refine aw_iload_n (npc := 21) rfl dX8_has_20 rfl ?_
    refine aw_aload_n (npc := 22) rfl dX8_has_21 rfl ?_
    refine aw_get (npc := 25) dX8_has_22 rfl kf_X8_9 g69 rfl ?_
    refine aw_bipush (npc := 27) (v := 12) (by decide) dX8_has_25 rfl ?_
    refine aw_iconst (npc := 28) (v := 4) (by decide) dX8_has_27 rfl ?_
    refine aw_iload_n (npc := 29) rfl dX8_has_28 rfl ?_
    refine aw_imulV (npc := 30) (v := 4) dX8_has_29 rfl (by decide) ?_
    refine aw_iaddV (npc := 31) (v := 16) dX8_has_30 rfl (by decide) ?_
    refine aw_iload_n (npc := 32) rfl dX8_has_31 rfl ?_
    refine aw_iaddV (npc := 33) (v := 16) dX8_has_32 rfl (by decide) ?_
    refine aw_iald (npc := 34) (x := 1) (j := 16) dX8_has_33 rfl g70 ⟨by decide, by decide⟩ rfl ?_
    refine aw_iload_n (npc := 35) rfl dX8_has_34 rfl ?_
    refine aw_if_ne (npc := 38) (tgt := 43) dX8_has_35 rfl (by decide) (fun _ => ?_) (fun hc => absurd hc (by decide))
    refine aw_bipush (npc := 45) (v := 9) (by decide) dX8_has_43 rfl ?_
    refine aw_iload (npc := 47) rfl dX8_has_45 rfl ?_
    refine aw_isubV (npc := 48) (v := 4) dX8_has_47 rfl (by decide) ?_
    refine aw_imulV (npc := 49) (v := 4) dX8_has_48 rfl (by decide) ?_
    refine aw_iaddV (npc := 50) (v := 4) dX8_has_49 rfl (by decide) ?_
    refine aw_istore_n (npc := 51) (L' := [some (.ref 69), some (.int 1), some (.int 4), some (.int 0), some (.int 5)]) dX8_has_50 rfl (by decide) rfl rfl ?_
    refine aw_iinc (npc := 54) (v := 1) (L' := [some (.ref 69), some (.int 1), some (.int 4), some (.int 1), some (.int 5)]) dX8_has_51 rfl rfl (by decide) (by decide) rfl rfl ?_
    refine aw_goto (npc := 4) dX8_has_54 (by decide) ?_
    refine aw_iload_n (npc := 5) rfl dX8_has_4 rfl ?_
    refine aw_iconst (npc := 6) (v := 4) (by decide) dX8_has_5 rfl ?_
    refine aw_icmp_ge (npc := 9) (tgt := 57) dX8_has_6 rfl (by decide) (fun hc => absurd hc (by decide)) (fun _ => ?_)
    refine aw_aload_n (npc := 10) rfl dX8_has_9 rfl ?_
    refine aw_get (npc := 13) dX8_has_10 rfl kf_X8_9 g69 rfl ?_
    refine aw_bipush (npc := 15) (v := 8) (by decide) dX8_has_13 rfl ?_
    refine aw_iload_n (npc := 16) rfl dX8_has_15 rfl ?_
    refine aw_iaddV (npc := 17) (v := 9) dX8_has_16 rfl (by decide) ?_
    refine aw_iald (npc := 18) (x := 5) (j := 9) dX8_has_17 rfl g70 ⟨by decide, by decide⟩ rfl ?_
    refine aw_istore (npc := 20) (L' := [some (.ref 69), some (.int 1), some (.int 4), some (.int 1), some (.int 5)]) dX8_has_18 rfl (by decide) rfl rfl ?_
    refine aw_iload_n (npc := 21) rfl dX8_has_20 rfl ?_
    refine aw_aload_n (npc := 22) rfl dX8_has_21 rfl ?_
    refine aw_get (npc := 25) dX8_has_22 rfl kf_X8_9 g69 rfl ?_
    refine aw_bipush (npc := 27) (v := 12) (by decide) dX8_has_25 rfl ?_
    refine aw_iconst (npc := 28) (v := 4) (by decide) dX8_has_27 rfl ?_
    refine aw_iload_n (npc := 29) rfl dX8_has_28 rfl ?_
    refine aw_imulV (npc := 30) (v := 4) dX8_has_29 rfl (by decide) ?_
    refine aw_iaddV (npc := 31) (v := 16) dX8_has_30 rfl (by decide) ?_
    refine aw_iload_n (npc := 32) rfl dX8_has_31 rfl ?_
    refine aw_iaddV (npc := 33) (v := 17) dX8_has_32 rfl (by decide) ?_
    refine aw_iald (npc := 34) (x := 1) (j := 17) dX8_has_33 rfl g70 ⟨by decide, by decide⟩ rfl ?_
    refine aw_iload_n (npc := 35) rfl dX8_has_34 rfl ?_
    refine aw_if_ne (npc := 38) (tgt := 43) dX8_has_35 rfl (by decide) (fun _ => ?_) (fun hc => absurd hc (by decide))
    refine aw_bipush (npc := 45) (v := 9) (by decide) dX8_has_43 rfl ?_
    refine aw_iload (npc := 47) rfl dX8_has_45 rfl ?_
    refine aw_isubV (npc := 48) (v := 4) dX8_has_47 rfl (by decide) ?_
    refine aw_imulV (npc := 49) (v := 4) dX8_has_48 rfl (by decide) ?_
    refine aw_iaddV (npc := 50) (v := 8) dX8_has_49 rfl (by decide) ?_
    refine aw_istore_n (npc := 51) (L' := [some (.ref 69), some (.int 1), some (.int 8), some (.int 1), some (.int 5)]) dX8_has_50 rfl (by decide) rfl rfl ?_
    refine aw_iinc (npc := 54) (v := 2) (L' := [some (.ref 69), some (.int 1), some (.int 8), some (.int 2), some (.int 5)]) dX8_has_51 rfl rfl (by decide) (by decide) rfl rfl ?_
    refine aw_goto (npc := 4) dX8_has_54 (by decide) ?_
    refine aw_iload_n (npc := 5) rfl dX8_has_4 rfl ?_
    refine aw_iconst (npc := 6) (v := 4) (by decide) dX8_has_5 rfl ?_
    refine aw_icmp_ge (npc := 9) (tgt := 57) dX8_has_6 rfl (by decide) (fun hc => absurd hc (by decide)) (fun _ => ?_)
    refine aw_aload_n (npc := 10) rfl dX8_has_9 rfl ?_
    refine aw_get (npc := 13) dX8_has_10 rfl kf_X8_9 g69 rfl ?_
    refine aw_bipush (npc := 15) (v := 8) (by decide) dX8_has_13 rfl ?_
    refine aw_iload_n (npc := 16) rfl dX8_has_15 rfl ?_
    refine aw_iaddV (npc := 17) (v := 10) dX8_has_16 rfl (by decide) ?_
    refine aw_iald (npc := 18) (x := 5) (j := 10) dX8_has_17 rfl g70 ⟨by decide, by decide⟩ rfl ?_
    refine aw_istore (npc := 20) (L' := [some (.ref 69), some (.int 1), some (.int 8), some (.int 2), some (.int 5)]) dX8_has_18 rfl (by decide) rfl rfl ?_
    refine aw_iload_n (npc := 21) rfl dX8_has_20 rfl ?_
    refine aw_aload_n (npc := 22) rfl dX8_has_21 rfl ?_
    refine aw_get (npc := 25) dX8_has_22 rfl kf_X8_9 g69 rfl ?_
    refine aw_bipush (npc := 27) (v := 12) (by decide) dX8_has_25 rfl ?_
    refine aw_iconst (npc := 28) (v := 4) (by decide) dX8_has_27 rfl ?_
    refine aw_iload_n (npc := 29) rfl dX8_has_28 rfl ?_
    refine aw_imulV (npc := 30) (v := 4) dX8_has_29 rfl (by decide) ?_
    refine aw_iaddV (npc := 31) (v := 16) dX8_has_30 rfl (by decide) ?_
    refine aw_iload_n (npc := 32) rfl dX8_has_31 rfl ?_
    refine aw_iaddV (npc := 33) (v := 18) dX8_has_32 rfl (by decide) ?_
    refine aw_iald (npc := 34) (x := 1) (j := 18) dX8_has_33 rfl g70 ⟨by decide, by decide⟩ rfl ?_
    refine aw_iload_n (npc := 35) rfl dX8_has_34 rfl ?_
    refine aw_if_ne (npc := 38) (tgt := 43) dX8_has_35 rfl (by decide) (fun _ => ?_) (fun hc => absurd hc (by decide))
    refine aw_bipush (npc := 45) (v := 9) (by decide) dX8_has_43 rfl ?_
    refine aw_iload (npc := 47) rfl dX8_has_45 rfl ?_
    refine aw_isubV (npc := 48) (v := 4) dX8_has_47 rfl (by decide) ?_
    refine aw_imulV (npc := 49) (v := 4) dX8_has_48 rfl (by decide) ?_
    refine aw_iaddV (npc := 50) (v := 12) dX8_has_49 rfl (by decide) ?_
    refine aw_istore_n (npc := 51) (L' := [some (.ref 69), some (.int 1), some (.int 12), some (.int 2), some (.int 5)]) dX8_has_50 rfl (by decide) rfl rfl ?_
    refine aw_iinc (npc := 54) (v := 3) (L' := [some (.ref 69), some (.int 1), some (.int 12), some (.int 3), some (.int 5)]) dX8_has_51 rfl rfl (by decide) (by decide) rfl rfl ?_
    refine aw_goto (npc := 4) dX8_has_54 (by decide) ?_
    refine aw_iload_n (npc := 5) rfl dX8_has_4 rfl ?_
    refine aw_iconst (npc := 6) (v := 4) (by decide) dX8_has_5 rfl ?_
    refine aw_icmp_ge (npc := 9) (tgt := 57) dX8_has_6 rfl (by decide) (fun hc => absurd hc (by decide)) (fun _ => ?_)
    refine aw_aload_n (npc := 10) rfl dX8_has_9 rfl ?_
    refine aw_get (npc := 13) dX8_has_10 rfl kf_X8_9 g69 rfl ?_
    refine aw_bipush (npc := 15) (v := 8) (by decide) dX8_has_13 rfl ?_
    refine aw_iload_n (npc := 16) rfl dX8_has_15 rfl ?_
    refine aw_iaddV (npc := 17) (v := 11) dX8_has_16 rfl (by decide) ?_
    refine aw_iald (npc := 18) (x := 5) (j := 11) dX8_has_17 rfl g70 ⟨by decide, by decide⟩ rfl ?_
    refine aw_istore (npc := 20) (L' := [some (.ref 69), some (.int 1), some (.int 12), some (.int 3), some (.int 5)]) dX8_has_18 rfl (by decide) rfl rfl ?_
    refine aw_iload_n (npc := 21) rfl dX8_has_20 rfl ?_
    refine aw_aload_n (npc := 22) rfl dX8_has_21 rfl ?_
    refine aw_get (npc := 25) dX8_has_22 rfl kf_X8_9 g69 rfl ?_
    refine aw_bipush (npc := 27) (v := 12) (by decide) dX8_has_25 rfl ?_
    refine aw_iconst (npc := 28) (v := 4) (by decide) dX8_has_27 rfl ?_
    refine aw_iload_n (npc := 29) rfl dX8_has_28 rfl ?_
    refine aw_imulV (npc := 30) (v := 4) dX8_has_29 rfl (by decide) ?_
    refine aw_iaddV (npc := 31) (v := 16) dX8_has_30 rfl (by decide) ?_
    refine aw_iload_n (npc := 32) rfl dX8_has_31 rfl ?_
    refine aw_iaddV (npc := 33) (v := 19) dX8_has_32 rfl (by decide) ?_
    refine aw_iald (npc := 34) (x := 1) (j := 19) dX8_has_33 rfl g70 ⟨by decide, by decide⟩ rfl ?_
    refine aw_iload_n (npc := 35) rfl dX8_has_34 rfl ?_
    refine aw_if_ne (npc := 38) (tgt := 43) dX8_has_35 rfl (by decide) (fun _ => ?_) (fun hc => absurd hc (by decide))
    refine aw_bipush (npc := 45) (v := 9) (by decide) dX8_has_43 rfl ?_
    refine aw_iload (npc := 47) rfl dX8_has_45 rfl ?_
    refine aw_isubV (npc := 48) (v := 4) dX8_has_47 rfl (by decide) ?_
    refine aw_imulV (npc := 49) (v := 4) dX8_has_48 rfl (by decide) ?_
    refine aw_iaddV (npc := 50) (v := 16) dX8_has_49 rfl (by decide) ?_
    refine aw_istore_n (npc := 51) (L' := [some (.ref 69), some (.int 1), some (.int 16), some (.int 3), some (.int 5)]) dX8_has_50 rfl (by decide) rfl rfl ?_
    refine aw_iinc (npc := 54) (v := 4) (L' := [some (.ref 69), some (.int 1), some (.int 16), some (.int 4), some (.int 5)]) dX8_has_51 rfl rfl (by decide) (by decide) rfl rfl ?_
    refine aw_goto (npc := 4) dX8_has_54 (by decide) ?_
    refine aw_iload_n (npc := 5) rfl dX8_has_4 rfl ?_
    refine aw_iconst (npc := 6) (v := 4) (by decide) dX8_has_5 rfl ?_
    refine aw_icmp_ge (npc := 9) (tgt := 57) dX8_has_6 rfl (by decide) (fun _ => ?_) (fun hc => absurd (by decide) hc)
    refine aw_iload_n (npc := 58) rfl dX8_has_57 rfl ?_
    refine aw_iret rfl dX8_has_58 ?_
    refine aw_re (S' := [.int 16]) rfl ?_
    refine aw_iret rfl dX8_table_49 ?_
    exact fin_m hq (show sp_table 1 = 16 from (by unfold sp_table; first | rfl | (simp only [wif_same, ite_self]; done) | (simp only [wif_same, ite_self]; rfl) | (simp [wif_same]; done)))
  · refine aw_tableIn (npc := 50) dX8_table_1 (by decide) (by decide) rfl (by decide) ?_
    refine aw_aload_n (npc := 51) rfl dX8_table_50 rfl ?_
    refine aw_callV (npc := 54) (N := mX8_isPeace) (b := 69) (mc := 0) (ms := 0) (A := []) (S := []) (L0 := [some (.ref 69)]) dX8_table_51 rfl km_X8_isPeace kk_X8_149 g69 ⟨by decide, rfl⟩ rfl ⟨rfl, by decide⟩ rfl (Nat.le_of_ble_eq_true rfl) (Nat.zero_add _) (Nat.zero_add _) rfl ?_
    refine aw_aload_n (npc := 1) rfl dX8_isPeace_0 rfl ?_
    refine aw_iconst (npc := 2) (v := 0) (by decide) dX8_isPeace_1 rfl ?_
    refine aw_callV (npc := 5) (N := mX8_has) (b := 69) (mc := 0) (ms := 0) (A := [.int 0]) (S := []) (L0 := [some (.ref 69), some (.int 0), none, none, none]) dX8_isPeace_2 rfl km_X8_has kk_X8_143 g69 ⟨by decide, rfl⟩ rfl ⟨rfl, by decide⟩ rfl (Nat.le_of_ble_eq_true rfl) (Nat.zero_add _) (Nat.zero_add _) rfl ?_
    refine aw_iconst (npc := 1) (v := 0) (by decide) dX8_has_0 rfl ?_
    refine aw_istore_n (npc := 2) (L' := [some (.ref 69), some (.int 0), some (.int 0), none, none]) dX8_has_1 rfl (by decide) rfl rfl ?_
    refine aw_iconst (npc := 3) (v := 0) (by decide) dX8_has_2 rfl ?_
    refine aw_istore_n (npc := 4) (L' := [some (.ref 69), some (.int 0), some (.int 0), some (.int 0), none]) dX8_has_3 rfl (by decide) rfl rfl ?_
    refine aw_iload_n (npc := 5) rfl dX8_has_4 rfl ?_
    refine aw_iconst (npc := 6) (v := 4) (by decide) dX8_has_5 rfl ?_
    refine aw_icmp_ge (npc := 9) (tgt := 57) dX8_has_6 rfl (by decide) (fun hc => absurd hc (by decide)) (fun _ => ?_)
    refine aw_aload_n (npc := 10) rfl dX8_has_9 rfl ?_
    refine aw_get (npc := 13) dX8_has_10 rfl kf_X8_9 g69 rfl ?_
    refine aw_bipush (npc := 15) (v := 8) (by decide) dX8_has_13 rfl ?_
    refine aw_iload_n (npc := 16) rfl dX8_has_15 rfl ?_
    refine aw_iaddV (npc := 17) (v := 8) dX8_has_16 rfl (by decide) ?_
    refine aw_iald (npc := 18) (x := 5) (j := 8) dX8_has_17 rfl g70 ⟨by decide, by decide⟩ rfl ?_
    refine aw_istore (npc := 20) (L' := [some (.ref 69), some (.int 0), some (.int 0), some (.int 0), some (.int 5)]) dX8_has_18 rfl (by decide) rfl rfl ?_
    refine aw_iload_n (npc := 21) rfl dX8_has_20 rfl ?_
    refine aw_aload_n (npc := 22) rfl dX8_has_21 rfl ?_
    refine aw_get (npc := 25) dX8_has_22 rfl kf_X8_9 g69 rfl ?_
    refine aw_bipush (npc := 27) (v := 12) (by decide) dX8_has_25 rfl ?_
    refine aw_iconst (npc := 28) (v := 4) (by decide) dX8_has_27 rfl ?_
    refine aw_iload_n (npc := 29) rfl dX8_has_28 rfl ?_
    refine aw_imulV (npc := 30) (v := 0) dX8_has_29 rfl (by decide) ?_
    refine aw_iaddV (npc := 31) (v := 12) dX8_has_30 rfl (by decide) ?_
    refine aw_iload_n (npc := 32) rfl dX8_has_31 rfl ?_
    refine aw_iaddV (npc := 33) (v := 12) dX8_has_32 rfl (by decide) ?_
    refine aw_iald (npc := 34) (x := 1) (j := 12) dX8_has_33 rfl g70 ⟨by decide, by decide⟩ rfl ?_
    refine aw_iload_n (npc := 35) rfl dX8_has_34 rfl ?_
    refine aw_if_ne (npc := 38) (tgt := 43) dX8_has_35 rfl (by decide) (fun hc => absurd (by decide) hc) (fun _ => ?_)
    refine aw_iload (npc := 40) rfl dX8_has_38 rfl ?_
    refine aw_goto (npc := 48) dX8_has_40 (by decide) ?_
    refine aw_imulV (npc := 49) (v := 5) dX8_has_48 rfl (by decide) ?_
    refine aw_iaddV (npc := 50) (v := 5) dX8_has_49 rfl (by decide) ?_
    refine aw_istore_n (npc := 51) (L' := [some (.ref 69), some (.int 0), some (.int 5), some (.int 0), some (.int 5)]) dX8_has_50 rfl (by decide) rfl rfl ?_
    refine aw_iinc (npc := 54) (v := 1) (L' := [some (.ref 69), some (.int 0), some (.int 5), some (.int 1), some (.int 5)]) dX8_has_51 rfl rfl (by decide) (by decide) rfl rfl ?_
    refine aw_goto (npc := 4) dX8_has_54 (by decide) ?_
    refine aw_iload_n (npc := 5) rfl dX8_has_4 rfl ?_
    refine aw_iconst (npc := 6) (v := 4) (by decide) dX8_has_5 rfl ?_
    refine aw_icmp_ge (npc := 9) (tgt := 57) dX8_has_6 rfl (by decide) (fun hc => absurd hc (by decide)) (fun _ => ?_)
    refine aw_aload_n (npc := 10) rfl dX8_has_9 rfl ?_
    refine aw_get (npc := 13) dX8_has_10 rfl kf_X8_9 g69 rfl ?_
    refine aw_bipush (npc := 15) (v := 8) (by decide) dX8_has_13 rfl ?_
    refine aw_iload_n (npc := 16) rfl dX8_has_15 rfl ?_
    refine aw_iaddV (npc := 17) (v := 9) dX8_has_16 rfl (by decide) ?_
    refine aw_iald (npc := 18) (x := 5) (j := 9) dX8_has_17 rfl g70 ⟨by decide, by decide⟩ rfl ?_
    refine aw_istore (npc := 20) (L' := [some (.ref 69), some (.int 0), some (.int 5), some (.int 1), some (.int 5)]) dX8_has_18 rfl (by decide) rfl rfl ?_
    refine aw_iload_n (npc := 21) rfl dX8_has_20 rfl ?_
    refine aw_aload_n (npc := 22) rfl dX8_has_21 rfl ?_
    refine aw_get (npc := 25) dX8_has_22 rfl kf_X8_9 g69 rfl ?_
    refine aw_bipush (npc := 27) (v := 12) (by decide) dX8_has_25 rfl ?_
    refine aw_iconst (npc := 28) (v := 4) (by decide) dX8_has_27 rfl ?_
    refine aw_iload_n (npc := 29) rfl dX8_has_28 rfl ?_
    refine aw_imulV (npc := 30) (v := 0) dX8_has_29 rfl (by decide) ?_
    refine aw_iaddV (npc := 31) (v := 12) dX8_has_30 rfl (by decide) ?_
    refine aw_iload_n (npc := 32) rfl dX8_has_31 rfl ?_
    refine aw_iaddV (npc := 33) (v := 13) dX8_has_32 rfl (by decide) ?_
    refine aw_iald (npc := 34) (x := 1) (j := 13) dX8_has_33 rfl g70 ⟨by decide, by decide⟩ rfl ?_
    refine aw_iload_n (npc := 35) rfl dX8_has_34 rfl ?_
    refine aw_if_ne (npc := 38) (tgt := 43) dX8_has_35 rfl (by decide) (fun hc => absurd (by decide) hc) (fun _ => ?_)
    refine aw_iload (npc := 40) rfl dX8_has_38 rfl ?_
    refine aw_goto (npc := 48) dX8_has_40 (by decide) ?_
    refine aw_imulV (npc := 49) (v := 5) dX8_has_48 rfl (by decide) ?_
    refine aw_iaddV (npc := 50) (v := 10) dX8_has_49 rfl (by decide) ?_
    refine aw_istore_n (npc := 51) (L' := [some (.ref 69), some (.int 0), some (.int 10), some (.int 1), some (.int 5)]) dX8_has_50 rfl (by decide) rfl rfl ?_
    refine aw_iinc (npc := 54) (v := 2) (L' := [some (.ref 69), some (.int 0), some (.int 10), some (.int 2), some (.int 5)]) dX8_has_51 rfl rfl (by decide) (by decide) rfl rfl ?_
    refine aw_goto (npc := 4) dX8_has_54 (by decide) ?_
    refine aw_iload_n (npc := 5) rfl dX8_has_4 rfl ?_
    refine aw_iconst (npc := 6) (v := 4) (by decide) dX8_has_5 rfl ?_
    refine aw_icmp_ge (npc := 9) (tgt := 57) dX8_has_6 rfl (by decide) (fun hc => absurd hc (by decide)) (fun _ => ?_)
    refine aw_aload_n (npc := 10) rfl dX8_has_9 rfl ?_
    refine aw_get (npc := 13) dX8_has_10 rfl kf_X8_9 g69 rfl ?_
    refine aw_bipush (npc := 15) (v := 8) (by decide) dX8_has_13 rfl ?_
    refine aw_iload_n (npc := 16) rfl dX8_has_15 rfl ?_
    refine aw_iaddV (npc := 17) (v := 10) dX8_has_16 rfl (by decide) ?_
    refine aw_iald (npc := 18) (x := 5) (j := 10) dX8_has_17 rfl g70 ⟨by decide, by decide⟩ rfl ?_
    refine aw_istore (npc := 20) (L' := [some (.ref 69), some (.int 0), some (.int 10), some (.int 2), some (.int 5)]) dX8_has_18 rfl (by decide) rfl rfl ?_
    refine aw_iload_n (npc := 21) rfl dX8_has_20 rfl ?_
    refine aw_aload_n (npc := 22) rfl dX8_has_21 rfl ?_
    refine aw_get (npc := 25) dX8_has_22 rfl kf_X8_9 g69 rfl ?_
    refine aw_bipush (npc := 27) (v := 12) (by decide) dX8_has_25 rfl ?_
    refine aw_iconst (npc := 28) (v := 4) (by decide) dX8_has_27 rfl ?_
    refine aw_iload_n (npc := 29) rfl dX8_has_28 rfl ?_
    refine aw_imulV (npc := 30) (v := 0) dX8_has_29 rfl (by decide) ?_
    refine aw_iaddV (npc := 31) (v := 12) dX8_has_30 rfl (by decide) ?_
    refine aw_iload_n (npc := 32) rfl dX8_has_31 rfl ?_
    refine aw_iaddV (npc := 33) (v := 14) dX8_has_32 rfl (by decide) ?_
    refine aw_iald (npc := 34) (x := 1) (j := 14) dX8_has_33 rfl g70 ⟨by decide, by decide⟩ rfl ?_
    refine aw_iload_n (npc := 35) rfl dX8_has_34 rfl ?_
    refine aw_if_ne (npc := 38) (tgt := 43) dX8_has_35 rfl (by decide) (fun hc => absurd (by decide) hc) (fun _ => ?_)
    refine aw_iload (npc := 40) rfl dX8_has_38 rfl ?_
    refine aw_goto (npc := 48) dX8_has_40 (by decide) ?_
    refine aw_imulV (npc := 49) (v := 5) dX8_has_48 rfl (by decide) ?_
    refine aw_iaddV (npc := 50) (v := 15) dX8_has_49 rfl (by decide) ?_
    refine aw_istore_n (npc := 51) (L' := [some (.ref 69), some (.int 0), some (.int 15), some (.int 2), some (.int 5)]) dX8_has_50 rfl (by decide) rfl rfl ?_
    refine aw_iinc (npc := 54) (v := 3) (L' := [some (.ref 69), some (.int 0), some (.int 15), some (.int 3), some (.int 5)]) dX8_has_51 rfl rfl (by decide) (by decide) rfl rfl ?_
    refine aw_goto (npc := 4) dX8_has_54 (by decide) ?_
    refine aw_iload_n (npc := 5) rfl dX8_has_4 rfl ?_
    refine aw_iconst (npc := 6) (v := 4) (by decide) dX8_has_5 rfl ?_
    refine aw_icmp_ge (npc := 9) (tgt := 57) dX8_has_6 rfl (by decide) (fun hc => absurd hc (by decide)) (fun _ => ?_)
    refine aw_aload_n (npc := 10) rfl dX8_has_9 rfl ?_
    refine aw_get (npc := 13) dX8_has_10 rfl kf_X8_9 g69 rfl ?_
    refine aw_bipush (npc := 15) (v := 8) (by decide) dX8_has_13 rfl ?_
    refine aw_iload_n (npc := 16) rfl dX8_has_15 rfl ?_
    refine aw_iaddV (npc := 17) (v := 11) dX8_has_16 rfl (by decide) ?_
    refine aw_iald (npc := 18) (x := 5) (j := 11) dX8_has_17 rfl g70 ⟨by decide, by decide⟩ rfl ?_
    refine aw_istore (npc := 20) (L' := [some (.ref 69), some (.int 0), some (.int 15), some (.int 3), some (.int 5)]) dX8_has_18 rfl (by decide) rfl rfl ?_
    refine aw_iload_n (npc := 21) rfl dX8_has_20 rfl ?_
    refine aw_aload_n (npc := 22) rfl dX8_has_21 rfl ?_
    refine aw_get (npc := 25) dX8_has_22 rfl kf_X8_9 g69 rfl ?_
    refine aw_bipush (npc := 27) (v := 12) (by decide) dX8_has_25 rfl ?_
    refine aw_iconst (npc := 28) (v := 4) (by decide) dX8_has_27 rfl ?_
    refine aw_iload_n (npc := 29) rfl dX8_has_28 rfl ?_
    refine aw_imulV (npc := 30) (v := 0) dX8_has_29 rfl (by decide) ?_
    refine aw_iaddV (npc := 31) (v := 12) dX8_has_30 rfl (by decide) ?_
    refine aw_iload_n (npc := 32) rfl dX8_has_31 rfl ?_
    refine aw_iaddV (npc := 33) (v := 15) dX8_has_32 rfl (by decide) ?_
    refine aw_iald (npc := 34) (x := 1) (j := 15) dX8_has_33 rfl g70 ⟨by decide, by decide⟩ rfl ?_
    refine aw_iload_n (npc := 35) rfl dX8_has_34 rfl ?_
    refine aw_if_ne (npc := 38) (tgt := 43) dX8_has_35 rfl (by decide) (fun hc => absurd (by decide) hc) (fun _ => ?_)
    refine aw_iload (npc := 40) rfl dX8_has_38 rfl ?_
    refine aw_goto (npc := 48) dX8_has_40 (by decide) ?_
    refine aw_imulV (npc := 49) (v := 5) dX8_has_48 rfl (by decide) ?_
    refine aw_iaddV (npc := 50) (v := 20) dX8_has_49 rfl (by decide) ?_
    refine aw_istore_n (npc := 51) (L' := [some (.ref 69), some (.int 0), some (.int 20), some (.int 3), some (.int 5)]) dX8_has_50 rfl (by decide) rfl rfl ?_
    refine aw_iinc (npc := 54) (v := 4) (L' := [some (.ref 69), some (.int 0), some (.int 20), some (.int 4), some (.int 5)]) dX8_has_51 rfl rfl (by decide) (by decide) rfl rfl ?_
    refine aw_goto (npc := 4) dX8_has_54 (by decide) ?_
    refine aw_iload_n (npc := 5) rfl dX8_has_4 rfl ?_
    refine aw_iconst (npc := 6) (v := 4) (by decide) dX8_has_5 rfl ?_
    refine aw_icmp_ge (npc := 9) (tgt := 57) dX8_has_6 rfl (by decide) (fun _ => ?_) (fun hc => absurd (by decide) hc)
    refine aw_iload_n (npc := 58) rfl dX8_has_57 rfl ?_
    refine aw_iret rfl dX8_has_58 ?_
    refine aw_re (S' := [.int 20]) rfl ?_
    refine aw_aload_n (npc := 6) rfl dX8_isPeace_5 rfl ?_
    refine aw_get (npc := 9) dX8_isPeace_6 rfl kf_X8_9 g69 rfl ?_
    refine aw_bipush (npc := 11) (v := 20) (by decide) dX8_isPeace_9 rfl ?_
    refine aw_iald (npc := 12) (x := 20) (j := 20) dX8_isPeace_11 rfl g70 ⟨by decide, by decide⟩ rfl ?_
    refine aw_icmp_lt (npc := 15) (tgt := 34) dX8_isPeace_12 rfl (by decide) (fun hc => absurd hc (by decide)) (fun _ => ?_)
    refine aw_aload_n (npc := 16) rfl dX8_isPeace_15 rfl ?_
    refine aw_iconst (npc := 17) (v := 1) (by decide) dX8_isPeace_16 rfl ?_
    refine aw_callV (npc := 20) (N := mX8_has) (b := 69) (mc := 0) (ms := 0) (A := [.int 1]) (S := []) (L0 := [some (.ref 69), some (.int 1), none, none, none]) dX8_isPeace_17 rfl km_X8_has kk_X8_143 g69 ⟨by decide, rfl⟩ rfl ⟨rfl, by decide⟩ rfl (Nat.le_of_ble_eq_true rfl) (Nat.zero_add _) (Nat.zero_add _) rfl ?_
    refine aw_iconst (npc := 1) (v := 0) (by decide) dX8_has_0 rfl ?_
    refine aw_istore_n (npc := 2) (L' := [some (.ref 69), some (.int 1), some (.int 0), none, none]) dX8_has_1 rfl (by decide) rfl rfl ?_
    refine aw_iconst (npc := 3) (v := 0) (by decide) dX8_has_2 rfl ?_
    refine aw_istore_n (npc := 4) (L' := [some (.ref 69), some (.int 1), some (.int 0), some (.int 0), none]) dX8_has_3 rfl (by decide) rfl rfl ?_
    refine aw_iload_n (npc := 5) rfl dX8_has_4 rfl ?_
    refine aw_iconst (npc := 6) (v := 4) (by decide) dX8_has_5 rfl ?_
    refine aw_icmp_ge (npc := 9) (tgt := 57) dX8_has_6 rfl (by decide) (fun hc => absurd hc (by decide)) (fun _ => ?_)
    refine aw_aload_n (npc := 10) rfl dX8_has_9 rfl ?_
    refine aw_get (npc := 13) dX8_has_10 rfl kf_X8_9 g69 rfl ?_
    refine aw_bipush (npc := 15) (v := 8) (by decide) dX8_has_13 rfl ?_
    refine aw_iload_n (npc := 16) rfl dX8_has_15 rfl ?_
    refine aw_iaddV (npc := 17) (v := 8) dX8_has_16 rfl (by decide) ?_
    refine aw_iald (npc := 18) (x := 5) (j := 8) dX8_has_17 rfl g70 ⟨by decide, by decide⟩ rfl ?_
    refine aw_istore (npc := 20) (L' := [some (.ref 69), some (.int 1), some (.int 0), some (.int 0), some (.int 5)]) dX8_has_18 rfl (by decide) rfl rfl ?_
    refine aw_iload_n (npc := 21) rfl dX8_has_20 rfl ?_
    refine aw_aload_n (npc := 22) rfl dX8_has_21 rfl ?_
    refine aw_get (npc := 25) dX8_has_22 rfl kf_X8_9 g69 rfl ?_
    refine aw_bipush (npc := 27) (v := 12) (by decide) dX8_has_25 rfl ?_
    refine aw_iconst (npc := 28) (v := 4) (by decide) dX8_has_27 rfl ?_
    refine aw_iload_n (npc := 29) rfl dX8_has_28 rfl ?_
    refine aw_imulV (npc := 30) (v := 4) dX8_has_29 rfl (by decide) ?_
    refine aw_iaddV (npc := 31) (v := 16) dX8_has_30 rfl (by decide) ?_
    refine aw_iload_n (npc := 32) rfl dX8_has_31 rfl ?_
    refine aw_iaddV (npc := 33) (v := 16) dX8_has_32 rfl (by decide) ?_
    refine aw_iald (npc := 34) (x := 1) (j := 16) dX8_has_33 rfl g70 ⟨by decide, by decide⟩ rfl ?_
    refine aw_iload_n (npc := 35) rfl dX8_has_34 rfl ?_
    refine aw_if_ne (npc := 38) (tgt := 43) dX8_has_35 rfl (by decide) (fun _ => ?_) (fun hc => absurd hc (by decide))
    refine aw_bipush (npc := 45) (v := 9) (by decide) dX8_has_43 rfl ?_
    refine aw_iload (npc := 47) rfl dX8_has_45 rfl ?_
    refine aw_isubV (npc := 48) (v := 4) dX8_has_47 rfl (by decide) ?_
    refine aw_imulV (npc := 49) (v := 4) dX8_has_48 rfl (by decide) ?_
    refine aw_iaddV (npc := 50) (v := 4) dX8_has_49 rfl (by decide) ?_
    refine aw_istore_n (npc := 51) (L' := [some (.ref 69), some (.int 1), some (.int 4), some (.int 0), some (.int 5)]) dX8_has_50 rfl (by decide) rfl rfl ?_
    refine aw_iinc (npc := 54) (v := 1) (L' := [some (.ref 69), some (.int 1), some (.int 4), some (.int 1), some (.int 5)]) dX8_has_51 rfl rfl (by decide) (by decide) rfl rfl ?_
    refine aw_goto (npc := 4) dX8_has_54 (by decide) ?_
    refine aw_iload_n (npc := 5) rfl dX8_has_4 rfl ?_
    refine aw_iconst (npc := 6) (v := 4) (by decide) dX8_has_5 rfl ?_
    refine aw_icmp_ge (npc := 9) (tgt := 57) dX8_has_6 rfl (by decide) (fun hc => absurd hc (by decide)) (fun _ => ?_)
    refine aw_aload_n (npc := 10) rfl dX8_has_9 rfl ?_
    refine aw_get (npc := 13) dX8_has_10 rfl kf_X8_9 g69 rfl ?_
    refine aw_bipush (npc := 15) (v := 8) (by decide) dX8_has_13 rfl ?_
    refine aw_iload_n (npc := 16) rfl dX8_has_15 rfl ?_
    refine aw_iaddV (npc := 17) (v := 9) dX8_has_16 rfl (by decide) ?_
    refine aw_iald (npc := 18) (x := 5) (j := 9) dX8_has_17 rfl g70 ⟨by decide, by decide⟩ rfl ?_
    refine aw_istore (npc := 20) (L' := [some (.ref 69), some (.int 1), some (.int 4), some (.int 1), some (.int 5)]) dX8_has_18 rfl (by decide) rfl rfl ?_
    refine aw_iload_n (npc := 21) rfl dX8_has_20 rfl ?_
    refine aw_aload_n (npc := 22) rfl dX8_has_21 rfl ?_
    refine aw_get (npc := 25) dX8_has_22 rfl kf_X8_9 g69 rfl ?_
    refine aw_bipush (npc := 27) (v := 12) (by decide) dX8_has_25 rfl ?_
    refine aw_iconst (npc := 28) (v := 4) (by decide) dX8_has_27 rfl ?_
    refine aw_iload_n (npc := 29) rfl dX8_has_28 rfl ?_
    refine aw_imulV (npc := 30) (v := 4) dX8_has_29 rfl (by decide) ?_
    refine aw_iaddV (npc := 31) (v := 16) dX8_has_30 rfl (by decide) ?_
    refine aw_iload_n (npc := 32) rfl dX8_has_31 rfl ?_
    refine aw_iaddV (npc := 33) (v := 17) dX8_has_32 rfl (by decide) ?_
    refine aw_iald (npc := 34) (x := 1) (j := 17) dX8_has_33 rfl g70 ⟨by decide, by decide⟩ rfl ?_
    refine aw_iload_n (npc := 35) rfl dX8_has_34 rfl ?_
    refine aw_if_ne (npc := 38) (tgt := 43) dX8_has_35 rfl (by decide) (fun _ => ?_) (fun hc => absurd hc (by decide))
    refine aw_bipush (npc := 45) (v := 9) (by decide) dX8_has_43 rfl ?_
    refine aw_iload (npc := 47) rfl dX8_has_45 rfl ?_
    refine aw_isubV (npc := 48) (v := 4) dX8_has_47 rfl (by decide) ?_
    refine aw_imulV (npc := 49) (v := 4) dX8_has_48 rfl (by decide) ?_
    refine aw_iaddV (npc := 50) (v := 8) dX8_has_49 rfl (by decide) ?_
    refine aw_istore_n (npc := 51) (L' := [some (.ref 69), some (.int 1), some (.int 8), some (.int 1), some (.int 5)]) dX8_has_50 rfl (by decide) rfl rfl ?_
    refine aw_iinc (npc := 54) (v := 2) (L' := [some (.ref 69), some (.int 1), some (.int 8), some (.int 2), some (.int 5)]) dX8_has_51 rfl rfl (by decide) (by decide) rfl rfl ?_
    refine aw_goto (npc := 4) dX8_has_54 (by decide) ?_
    refine aw_iload_n (npc := 5) rfl dX8_has_4 rfl ?_
    refine aw_iconst (npc := 6) (v := 4) (by decide) dX8_has_5 rfl ?_
    refine aw_icmp_ge (npc := 9) (tgt := 57) dX8_has_6 rfl (by decide) (fun hc => absurd hc (by decide)) (fun _ => ?_)
    refine aw_aload_n (npc := 10) rfl dX8_has_9 rfl ?_
    refine aw_get (npc := 13) dX8_has_10 rfl kf_X8_9 g69 rfl ?_
    refine aw_bipush (npc := 15) (v := 8) (by decide) dX8_has_13 rfl ?_
    refine aw_iload_n (npc := 16) rfl dX8_has_15 rfl ?_
    refine aw_iaddV (npc := 17) (v := 10) dX8_has_16 rfl (by decide) ?_
    refine aw_iald (npc := 18) (x := 5) (j := 10) dX8_has_17 rfl g70 ⟨by decide, by decide⟩ rfl ?_
    refine aw_istore (npc := 20) (L' := [some (.ref 69), some (.int 1), some (.int 8), some (.int 2), some (.int 5)]) dX8_has_18 rfl (by decide) rfl rfl ?_
    refine aw_iload_n (npc := 21) rfl dX8_has_20 rfl ?_
    refine aw_aload_n (npc := 22) rfl dX8_has_21 rfl ?_
    refine aw_get (npc := 25) dX8_has_22 rfl kf_X8_9 g69 rfl ?_
    refine aw_bipush (npc := 27) (v := 12) (by decide) dX8_has_25 rfl ?_
    refine aw_iconst (npc := 28) (v := 4) (by decide) dX8_has_27 rfl ?_
    refine aw_iload_n (npc := 29) rfl dX8_has_28 rfl ?_
    refine aw_imulV (npc := 30) (v := 4) dX8_has_29 rfl (by decide) ?_
    refine aw_iaddV (npc := 31) (v := 16) dX8_has_30 rfl (by decide) ?_
    refine aw_iload_n (npc := 32) rfl dX8_has_31 rfl ?_
    refine aw_iaddV (npc := 33) (v := 18) dX8_has_32 rfl (by decide) ?_
    refine aw_iald (npc := 34) (x := 1) (j := 18) dX8_has_33 rfl g70 ⟨by decide, by decide⟩ rfl ?_
    refine aw_iload_n (npc := 35) rfl dX8_has_34 rfl ?_
    refine aw_if_ne (npc := 38) (tgt := 43) dX8_has_35 rfl (by decide) (fun _ => ?_) (fun hc => absurd hc (by decide))
    refine aw_bipush (npc := 45) (v := 9) (by decide) dX8_has_43 rfl ?_
    refine aw_iload (npc := 47) rfl dX8_has_45 rfl ?_
    refine aw_isubV (npc := 48) (v := 4) dX8_has_47 rfl (by decide) ?_
    refine aw_imulV (npc := 49) (v := 4) dX8_has_48 rfl (by decide) ?_
    refine aw_iaddV (npc := 50) (v := 12) dX8_has_49 rfl (by decide) ?_
    refine aw_istore_n (npc := 51) (L' := [some (.ref 69), some (.int 1), some (.int 12), some (.int 2), some (.int 5)]) dX8_has_50 rfl (by decide) rfl rfl ?_
    refine aw_iinc (npc := 54) (v := 3) (L' := [some (.ref 69), some (.int 1), some (.int 12), some (.int 3), some (.int 5)]) dX8_has_51 rfl rfl (by decide) (by decide) rfl rfl ?_
    refine aw_goto (npc := 4) dX8_has_54 (by decide) ?_
    refine aw_iload_n (npc := 5) rfl dX8_has_4 rfl ?_
    refine aw_iconst (npc := 6) (v := 4) (by decide) dX8_has_5 rfl ?_
    refine aw_icmp_ge (npc := 9) (tgt := 57) dX8_has_6 rfl (by decide) (fun hc => absurd hc (by decide)) (fun _ => ?_)
    refine aw_aload_n (npc := 10) rfl dX8_has_9 rfl ?_
    refine aw_get (npc := 13) dX8_has_10 rfl kf_X8_9 g69 rfl ?_
    refine aw_bipush (npc := 15) (v := 8) (by decide) dX8_has_13 rfl ?_
    refine aw_iload_n (npc := 16) rfl dX8_has_15 rfl ?_
    refine aw_iaddV (npc := 17) (v := 11) dX8_has_16 rfl (by decide) ?_
    refine aw_iald (npc := 18) (x := 5) (j := 11) dX8_has_17 rfl g70 ⟨by decide, by decide⟩ rfl ?_
    refine aw_istore (npc := 20) (L' := [some (.ref 69), some (.int 1), some (.int 12), some (.int 3), some (.int 5)]) dX8_has_18 rfl (by decide) rfl rfl ?_
    refine aw_iload_n (npc := 21) rfl dX8_has_20 rfl ?_
    refine aw_aload_n (npc := 22) rfl dX8_has_21 rfl ?_
    refine aw_get (npc := 25) dX8_has_22 rfl kf_X8_9 g69 rfl ?_
    refine aw_bipush (npc := 27) (v := 12) (by decide) dX8_has_25 rfl ?_
    refine aw_iconst (npc := 28) (v := 4) (by decide) dX8_has_27 rfl ?_
    refine aw_iload_n (npc := 29) rfl dX8_has_28 rfl ?_
    refine aw_imulV (npc := 30) (v := 4) dX8_has_29 rfl (by decide) ?_
    refine aw_iaddV (npc := 31) (v := 16) dX8_has_30 rfl (by decide) ?_
    refine aw_iload_n (npc := 32) rfl dX8_has_31 rfl ?_
    refine aw_iaddV (npc := 33) (v := 19) dX8_has_32 rfl (by decide) ?_
    refine aw_iald (npc := 34) (x := 1) (j := 19) dX8_has_33 rfl g70 ⟨by decide, by decide⟩ rfl ?_
    refine aw_iload_n (npc := 35) rfl dX8_has_34 rfl ?_
    refine aw_if_ne (npc := 38) (tgt := 43) dX8_has_35 rfl (by decide) (fun _ => ?_) (fun hc => absurd hc (by decide))
    refine aw_bipush (npc := 45) (v := 9) (by decide) dX8_has_43 rfl ?_
    refine aw_iload (npc := 47) rfl dX8_has_45 rfl ?_
    refine aw_isubV (npc := 48) (v := 4) dX8_has_47 rfl (by decide) ?_
    refine aw_imulV (npc := 49) (v := 4) dX8_has_48 rfl (by decide) ?_
    refine aw_iaddV (npc := 50) (v := 16) dX8_has_49 rfl (by decide) ?_
    refine aw_istore_n (npc := 51) (L' := [some (.ref 69), some (.int 1), some (.int 16), some (.int 3), some (.int 5)]) dX8_has_50 rfl (by decide) rfl rfl ?_
    refine aw_iinc (npc := 54) (v := 4) (L' := [some (.ref 69), some (.int 1), some (.int 16), some (.int 4), some (.int 5)]) dX8_has_51 rfl rfl (by decide) (by decide) rfl rfl ?_
    refine aw_goto (npc := 4) dX8_has_54 (by decide) ?_
    refine aw_iload_n (npc := 5) rfl dX8_has_4 rfl ?_
    refine aw_iconst (npc := 6) (v := 4) (by decide) dX8_has_5 rfl ?_
    refine aw_icmp_ge (npc := 9) (tgt := 57) dX8_has_6 rfl (by decide) (fun _ => ?_) (fun hc => absurd (by decide) hc)
    refine aw_iload_n (npc := 58) rfl dX8_has_57 rfl ?_
    refine aw_iret rfl dX8_has_58 ?_
    refine aw_re (S' := [.int 16]) rfl ?_
    refine aw_aload_n (npc := 21) rfl dX8_isPeace_20 rfl ?_
    refine aw_get (npc := 24) dX8_isPeace_21 rfl kf_X8_9 g69 rfl ?_
    refine aw_bipush (npc := 26) (v := 21) (by decide) dX8_isPeace_24 rfl ?_
    refine aw_iald (npc := 27) (x := 20) (j := 21) dX8_isPeace_26 rfl g70 ⟨by decide, by decide⟩ rfl ?_
    refine aw_icmp_lt (npc := 30) (tgt := 34) dX8_isPeace_27 rfl (by decide) (fun _ => ?_) (fun hc => absurd (by decide) hc)
    refine aw_iconst (npc := 35) (v := 0) (by decide) dX8_isPeace_34 rfl ?_
    refine aw_zret rfl rfl dX8_isPeace_35 ?_
    refine aw_re (S' := [.int 0]) rfl ?_
    refine aw_if_eq (npc := 57) (tgt := 61) dX8_table_54 rfl (by decide) (fun _ => ?_) (fun hc => absurd (by decide) hc)
    refine aw_iconst (npc := 62) (v := 0) (by decide) dX8_table_61 rfl ?_
    refine aw_iret rfl dX8_table_62 ?_
    exact fin_m hq (show sp_table 2 = 0 from (by unfold sp_table; first | rfl | (simp only [wif_same, ite_self]; done) | (simp only [wif_same, ite_self]; rfl) | (simp [wif_same]; done)))
  · refine aw_tableIn (npc := 63) dX8_table_1 (by decide) (by decide) rfl (by decide) ?_
    refine aw_aload_n (npc := 64) rfl dX8_table_63 rfl ?_
    refine aw_callV (npc := 67) (N := mX8_stands) (b := 69) (mc := 0) (ms := 0) (A := []) (S := []) (L0 := [some (.ref 69), none, none]) dX8_table_64 rfl km_X8_stands kk_X8_166 g69 ⟨by decide, rfl⟩ rfl ⟨rfl, by decide⟩ rfl (Nat.le_of_ble_eq_true rfl) (Nat.zero_add _) (Nat.zero_add _) rfl ?_
    refine aw_iconst (npc := 1) (v := 0) (by decide) dX8_stands_0 rfl ?_
    refine aw_istore_n (npc := 2) (L' := [some (.ref 69), some (.int 0), none]) dX8_stands_1 rfl (by decide) rfl rfl ?_
    refine aw_iconst (npc := 3) (v := 0) (by decide) dX8_stands_2 rfl ?_
    refine aw_istore_n (npc := 4) (L' := [some (.ref 69), some (.int 0), some (.int 0)]) dX8_stands_3 rfl (by decide) rfl rfl ?_
    refine aw_iload_n (npc := 5) rfl dX8_stands_4 rfl ?_
    refine aw_iconst (npc := 6) (v := 4) (by decide) dX8_stands_5 rfl ?_
    refine aw_icmp_ge (npc := 9) (tgt := 30) dX8_stands_6 rfl (by decide) (fun hc => absurd hc (by decide)) (fun _ => ?_)
    refine aw_bipush (npc := 11) (v := 10) (by decide) dX8_stands_9 rfl ?_
    refine aw_iload_n (npc := 12) rfl dX8_stands_11 rfl ?_
    refine aw_imulV (npc := 13) (v := 0) dX8_stands_12 rfl (by decide) ?_
    refine aw_aload_n (npc := 14) rfl dX8_stands_13 rfl ?_
    refine aw_get (npc := 17) dX8_stands_14 rfl kf_X8_9 g69 rfl ?_
    refine aw_bipush (npc := 19) (v := 8) (by decide) dX8_stands_17 rfl ?_
    refine aw_iload_n (npc := 20) rfl dX8_stands_19 rfl ?_
    refine aw_iaddV (npc := 21) (v := 8) dX8_stands_20 rfl (by decide) ?_
    refine aw_iald (npc := 22) (x := 5) (j := 8) dX8_stands_21 rfl g70 ⟨by decide, by decide⟩ rfl ?_
    refine aw_iaddV (npc := 23) (v := 5) dX8_stands_22 rfl (by decide) ?_
    refine aw_istore_n (npc := 24) (L' := [some (.ref 69), some (.int 5), some (.int 0)]) dX8_stands_23 rfl (by decide) rfl rfl ?_
    refine aw_iinc (npc := 27) (v := 1) (L' := [some (.ref 69), some (.int 5), some (.int 1)]) dX8_stands_24 rfl rfl (by decide) (by decide) rfl rfl ?_
    refine aw_goto (npc := 4) dX8_stands_27 (by decide) ?_
    refine aw_iload_n (npc := 5) rfl dX8_stands_4 rfl ?_
    refine aw_iconst (npc := 6) (v := 4) (by decide) dX8_stands_5 rfl ?_
    refine aw_icmp_ge (npc := 9) (tgt := 30) dX8_stands_6 rfl (by decide) (fun hc => absurd hc (by decide)) (fun _ => ?_)
    refine aw_bipush (npc := 11) (v := 10) (by decide) dX8_stands_9 rfl ?_
    refine aw_iload_n (npc := 12) rfl dX8_stands_11 rfl ?_
    refine aw_imulV (npc := 13) (v := 50) dX8_stands_12 rfl (by decide) ?_
    refine aw_aload_n (npc := 14) rfl dX8_stands_13 rfl ?_
    refine aw_get (npc := 17) dX8_stands_14 rfl kf_X8_9 g69 rfl ?_
    refine aw_bipush (npc := 19) (v := 8) (by decide) dX8_stands_17 rfl ?_
    refine aw_iload_n (npc := 20) rfl dX8_stands_19 rfl ?_
    refine aw_iaddV (npc := 21) (v := 9) dX8_stands_20 rfl (by decide) ?_
    refine aw_iald (npc := 22) (x := 5) (j := 9) dX8_stands_21 rfl g70 ⟨by decide, by decide⟩ rfl ?_
    refine aw_iaddV (npc := 23) (v := 55) dX8_stands_22 rfl (by decide) ?_
    refine aw_istore_n (npc := 24) (L' := [some (.ref 69), some (.int 55), some (.int 1)]) dX8_stands_23 rfl (by decide) rfl rfl ?_
    refine aw_iinc (npc := 27) (v := 2) (L' := [some (.ref 69), some (.int 55), some (.int 2)]) dX8_stands_24 rfl rfl (by decide) (by decide) rfl rfl ?_
    refine aw_goto (npc := 4) dX8_stands_27 (by decide) ?_
    refine aw_iload_n (npc := 5) rfl dX8_stands_4 rfl ?_
    refine aw_iconst (npc := 6) (v := 4) (by decide) dX8_stands_5 rfl ?_
    refine aw_icmp_ge (npc := 9) (tgt := 30) dX8_stands_6 rfl (by decide) (fun hc => absurd hc (by decide)) (fun _ => ?_)
    refine aw_bipush (npc := 11) (v := 10) (by decide) dX8_stands_9 rfl ?_
    refine aw_iload_n (npc := 12) rfl dX8_stands_11 rfl ?_
    refine aw_imulV (npc := 13) (v := 550) dX8_stands_12 rfl (by decide) ?_
    refine aw_aload_n (npc := 14) rfl dX8_stands_13 rfl ?_
    refine aw_get (npc := 17) dX8_stands_14 rfl kf_X8_9 g69 rfl ?_
    refine aw_bipush (npc := 19) (v := 8) (by decide) dX8_stands_17 rfl ?_
    refine aw_iload_n (npc := 20) rfl dX8_stands_19 rfl ?_
    refine aw_iaddV (npc := 21) (v := 10) dX8_stands_20 rfl (by decide) ?_
    refine aw_iald (npc := 22) (x := 5) (j := 10) dX8_stands_21 rfl g70 ⟨by decide, by decide⟩ rfl ?_
    refine aw_iaddV (npc := 23) (v := 555) dX8_stands_22 rfl (by decide) ?_
    refine aw_istore_n (npc := 24) (L' := [some (.ref 69), some (.int 555), some (.int 2)]) dX8_stands_23 rfl (by decide) rfl rfl ?_
    refine aw_iinc (npc := 27) (v := 3) (L' := [some (.ref 69), some (.int 555), some (.int 3)]) dX8_stands_24 rfl rfl (by decide) (by decide) rfl rfl ?_
    refine aw_goto (npc := 4) dX8_stands_27 (by decide) ?_
    refine aw_iload_n (npc := 5) rfl dX8_stands_4 rfl ?_
    refine aw_iconst (npc := 6) (v := 4) (by decide) dX8_stands_5 rfl ?_
    refine aw_icmp_ge (npc := 9) (tgt := 30) dX8_stands_6 rfl (by decide) (fun hc => absurd hc (by decide)) (fun _ => ?_)
    refine aw_bipush (npc := 11) (v := 10) (by decide) dX8_stands_9 rfl ?_
    refine aw_iload_n (npc := 12) rfl dX8_stands_11 rfl ?_
    refine aw_imulV (npc := 13) (v := 5550) dX8_stands_12 rfl (by decide) ?_
    refine aw_aload_n (npc := 14) rfl dX8_stands_13 rfl ?_
    refine aw_get (npc := 17) dX8_stands_14 rfl kf_X8_9 g69 rfl ?_
    refine aw_bipush (npc := 19) (v := 8) (by decide) dX8_stands_17 rfl ?_
    refine aw_iload_n (npc := 20) rfl dX8_stands_19 rfl ?_
    refine aw_iaddV (npc := 21) (v := 11) dX8_stands_20 rfl (by decide) ?_
    refine aw_iald (npc := 22) (x := 5) (j := 11) dX8_stands_21 rfl g70 ⟨by decide, by decide⟩ rfl ?_
    refine aw_iaddV (npc := 23) (v := 5555) dX8_stands_22 rfl (by decide) ?_
    refine aw_istore_n (npc := 24) (L' := [some (.ref 69), some (.int 5555), some (.int 3)]) dX8_stands_23 rfl (by decide) rfl rfl ?_
    refine aw_iinc (npc := 27) (v := 4) (L' := [some (.ref 69), some (.int 5555), some (.int 4)]) dX8_stands_24 rfl rfl (by decide) (by decide) rfl rfl ?_
    refine aw_goto (npc := 4) dX8_stands_27 (by decide) ?_
    refine aw_iload_n (npc := 5) rfl dX8_stands_4 rfl ?_
    refine aw_iconst (npc := 6) (v := 4) (by decide) dX8_stands_5 rfl ?_
    refine aw_icmp_ge (npc := 9) (tgt := 30) dX8_stands_6 rfl (by decide) (fun _ => ?_) (fun hc => absurd (by decide) hc)
    refine aw_iload_n (npc := 31) rfl dX8_stands_30 rfl ?_
    refine aw_iret rfl dX8_stands_31 ?_
    refine aw_re (S' := [.int 5555]) rfl ?_
    refine aw_iret rfl dX8_table_67 ?_
    exact fin_m hq (show sp_table 3 = 5555 from (by unfold sp_table; first | rfl | (simp only [wif_same, ite_self]; done) | (simp only [wif_same, ite_self]; rfl) | (simp [wif_same]; done)))
  · refine aw_tableIn (npc := 68) dX8_table_1 (by decide) (by decide) rfl (by decide) ?_
    refine aw_aload_n (npc := 69) rfl dX8_table_68 rfl ?_
    refine aw_get (npc := 72) dX8_table_69 rfl kf_X8_9 g69 rfl ?_
    refine aw_bipush (npc := 74) (v := 6) (by decide) dX8_table_72 rfl ?_
    refine aw_iald (npc := 75) (x := 0) (j := 6) dX8_table_74 rfl g70 ⟨by decide, by decide⟩ rfl ?_
    refine aw_iret rfl dX8_table_75 ?_
    exact fin_m hq (show sp_table 4 = 0 from (by unfold sp_table; first | rfl | (simp only [wif_same, ite_self]; done) | (simp only [wif_same, ite_self]; rfl) | (simp [wif_same]; done)))
  · refine aw_tableIn (npc := 76) dX8_table_1 (by decide) (by decide) rfl (by decide) ?_
    refine aw_aload_n (npc := 77) rfl dX8_table_76 rfl ?_
    refine aw_iconst (npc := 78) (v := 3) (by decide) dX8_table_77 rfl ?_
    refine aw_callV (npc := 81) (N := mX8_sumOf) (b := 69) (mc := 0) (ms := 0) (A := [.int 3]) (S := []) (L0 := [some (.ref 69), some (.int 3), none, none]) dX8_table_78 rfl km_X8_sumOf kk_X8_160 g69 ⟨by decide, rfl⟩ rfl ⟨rfl, by decide⟩ rfl (Nat.le_of_ble_eq_true rfl) (Nat.zero_add _) (Nat.zero_add _) rfl ?_
    refine aw_iconst (npc := 1) (v := 0) (by decide) dX8_sumOf_0 rfl ?_
    refine aw_istore_n (npc := 2) (L' := [some (.ref 69), some (.int 3), some (.int 0), none]) dX8_sumOf_1 rfl (by decide) rfl rfl ?_
    refine aw_iconst (npc := 3) (v := 0) (by decide) dX8_sumOf_2 rfl ?_
    refine aw_istore_n (npc := 4) (L' := [some (.ref 69), some (.int 3), some (.int 0), some (.int 0)]) dX8_sumOf_3 rfl (by decide) rfl rfl ?_
    refine aw_iload_n (npc := 5) rfl dX8_sumOf_4 rfl ?_
    refine aw_aload_n (npc := 6) rfl dX8_sumOf_5 rfl ?_
    refine aw_get (npc := 9) dX8_sumOf_6 rfl kf_X8_9 g69 rfl ?_
    refine aw_iconst (npc := 10) (v := 1) (by decide) dX8_sumOf_9 rfl ?_
    refine aw_iald (npc := 11) (x := 0) (j := 1) dX8_sumOf_10 rfl g70 ⟨by decide, by decide⟩ rfl ?_
    refine aw_icmp_ge (npc := 14) (tgt := 29) dX8_sumOf_11 rfl (by decide) (fun _ => ?_) (fun hc => absurd (by decide) hc)
    refine aw_iload_n (npc := 30) rfl dX8_sumOf_29 rfl ?_
    refine aw_iret rfl dX8_sumOf_30 ?_
    refine aw_re (S' := [.int 0]) rfl ?_
    refine aw_iret rfl dX8_table_81 ?_
    exact fin_m hq (show sp_table 5 = 0 from (by unfold sp_table; first | rfl | (simp only [wif_same, ite_self]; done) | (simp only [wif_same, ite_self]; rfl) | (simp [wif_same]; done)))
  · refine aw_tableIn (npc := 82) dX8_table_1 (by decide) (by decide) rfl (by decide) ?_
    refine aw_aload_n (npc := 83) rfl dX8_table_82 rfl ?_
    refine aw_iconst (npc := 84) (v := 4) (by decide) dX8_table_83 rfl ?_
    refine aw_callV (npc := 87) (N := mX8_sumOf) (b := 69) (mc := 0) (ms := 0) (A := [.int 4]) (S := []) (L0 := [some (.ref 69), some (.int 4), none, none]) dX8_table_84 rfl km_X8_sumOf kk_X8_160 g69 ⟨by decide, rfl⟩ rfl ⟨rfl, by decide⟩ rfl (Nat.le_of_ble_eq_true rfl) (Nat.zero_add _) (Nat.zero_add _) rfl ?_
    refine aw_iconst (npc := 1) (v := 0) (by decide) dX8_sumOf_0 rfl ?_
    refine aw_istore_n (npc := 2) (L' := [some (.ref 69), some (.int 4), some (.int 0), none]) dX8_sumOf_1 rfl (by decide) rfl rfl ?_
    refine aw_iconst (npc := 3) (v := 0) (by decide) dX8_sumOf_2 rfl ?_
    refine aw_istore_n (npc := 4) (L' := [some (.ref 69), some (.int 4), some (.int 0), some (.int 0)]) dX8_sumOf_3 rfl (by decide) rfl rfl ?_
    refine aw_iload_n (npc := 5) rfl dX8_sumOf_4 rfl ?_
    refine aw_aload_n (npc := 6) rfl dX8_sumOf_5 rfl ?_
    refine aw_get (npc := 9) dX8_sumOf_6 rfl kf_X8_9 g69 rfl ?_
    refine aw_iconst (npc := 10) (v := 1) (by decide) dX8_sumOf_9 rfl ?_
    refine aw_iald (npc := 11) (x := 0) (j := 1) dX8_sumOf_10 rfl g70 ⟨by decide, by decide⟩ rfl ?_
    refine aw_icmp_ge (npc := 14) (tgt := 29) dX8_sumOf_11 rfl (by decide) (fun _ => ?_) (fun hc => absurd (by decide) hc)
    refine aw_iload_n (npc := 30) rfl dX8_sumOf_29 rfl ?_
    refine aw_iret rfl dX8_sumOf_30 ?_
    refine aw_re (S' := [.int 0]) rfl ?_
    refine aw_iret rfl dX8_table_87 ?_
    exact fin_m hq (show sp_table 6 = 0 from (by unfold sp_table; first | rfl | (simp only [wif_same, ite_self]; done) | (simp only [wif_same, ite_self]; rfl) | (simp [wif_same]; done)))
  · refine aw_tableOut (npc := 88) dX8_table_1 hs1.1 (by decide) ?_
    refine aw_ldc (npc := 90) kc_X8_91 dX8_table_88 rfl ?_
    refine aw_iret rfl dX8_table_90 ?_
    exact fin_m hq (show sp_table w = (-1000000001) from (by unfold sp_table; first | rfl | (simp only [if_neg (hs1.2 0 ⟨by decide, by decide⟩), if_neg (hs1.2 1 ⟨by decide, by decide⟩), if_neg (hs1.2 2 ⟨by decide, by decide⟩), if_neg (hs1.2 3 ⟨by decide, by decide⟩), if_neg (hs1.2 4 ⟨by decide, by decide⟩), if_neg (hs1.2 5 ⟨by decide, by decide⟩), if_neg (hs1.2 6 ⟨by decide, by decide⟩), wif_same, ite_self]; done) | (simp only [if_neg (hs1.2 0 ⟨by decide, by decide⟩), if_neg (hs1.2 1 ⟨by decide, by decide⟩), if_neg (hs1.2 2 ⟨by decide, by decide⟩), if_neg (hs1.2 3 ⟨by decide, by decide⟩), if_neg (hs1.2 4 ⟨by decide, by decide⟩), if_neg (hs1.2 5 ⟨by decide, by decide⟩), if_neg (hs1.2 6 ⟨by decide, by decide⟩), wif_same, ite_self]; rfl) | (simp [if_neg (hs1.2 0 ⟨by decide, by decide⟩), if_neg (hs1.2 1 ⟨by decide, by decide⟩), if_neg (hs1.2 2 ⟨by decide, by decide⟩), if_neg (hs1.2 3 ⟨by decide, by decide⟩), if_neg (hs1.2 4 ⟨by decide, by decide⟩), if_neg (hs1.2 5 ⟨by decide, by decide⟩), if_neg (hs1.2 6 ⟨by decide, by decide⟩), wif_same]; done)))
noncomputable def sp_count (w : Int32) : Int32 := if w = 0 then 0 else if w = 1 then 0 else if w = 2 then 0 else if w = 3 then 60 else if w = 4 then 10 else if w = 5 then 0 else if w = 6 then 0 else if w = 7 then 0 else if w = 8 then 1 else (-1000000001)
set_option maxHeartbeats 40000000 in
set_option maxRecDepth 100000 in
theorem p_X7_count {X : List Int32} {d rc rs : Nat} {h : am_H} {Q : am_Q} {w : Int32} (F : f0_X7 h) (hq : ∀ h9, am_fr 69 h9 h → Q (some (.int (sp_count w))) 92 h9) : AW X mX7_count (d + 12) rc rs 0 [some (.ref 0), some (.int w)] [] 92 h Q := by
  obtain ⟨f0, f1, -, -, -, -, -, -, -, -, -, -, -, -, -, -, -, -, -, -, -, -, -, -, -, -, -, -, -, -, -, -, -, -, -, -, -, -, -, -, f40, -, -, -, -, -, -, -, -, -, -, -, -, -, -, -, -, -, -, -, -, -, -, -, -, -, -, -, -⟩ := F
  refine aw_iload_n (npc := 1) rfl dX7_count_0 rfl ?_
  rcases sw_8 w with rfl | rfl | rfl | rfl | rfl | rfl | rfl | rfl | rfl | hs1
  · refine aw_tableIn (npc := 52) dX7_count_1 (by decide) (by decide) rfl (by decide) ?_
    refine aw_aload_n (npc := 53) rfl dX7_count_52 rfl ?_
    refine aw_get (npc := 56) dX7_count_53 rfl kf_X7_10 f0 rfl ?_
    refine aw_get (npc := 59) dX7_count_56 rfl kf_X7_79 f1 rfl ?_
    refine aw_iret rfl dX7_count_59 ?_
    exact fin_c hq am_fr0 (show sp_count 0 = 0 from (by unfold sp_count; first | rfl | (simp only [wif_same, ite_self]; done) | (simp only [wif_same, ite_self]; rfl) | (simp [wif_same]; done)))
  · refine aw_tableIn (npc := 60) dX7_count_1 (by decide) (by decide) rfl (by decide) ?_
    refine aw_aload_n (npc := 61) rfl dX7_count_60 rfl ?_
    refine aw_get (npc := 64) dX7_count_61 rfl kf_X7_10 f0 rfl ?_
    refine aw_get (npc := 67) dX7_count_64 rfl kf_X7_160 f1 rfl ?_
    refine aw_iret rfl dX7_count_67 ?_
    exact fin_c hq am_fr0 (show sp_count 1 = 0 from (by unfold sp_count; first | rfl | (simp only [wif_same, ite_self]; done) | (simp only [wif_same, ite_self]; rfl) | (simp [wif_same]; done)))
  · refine aw_tableIn (npc := 68) dX7_count_1 (by decide) (by decide) rfl (by decide) ?_
    refine aw_aload_n (npc := 69) rfl dX7_count_68 rfl ?_
    refine aw_get (npc := 72) dX7_count_69 rfl kf_X7_10 f0 rfl ?_
    refine aw_get (npc := 75) dX7_count_72 rfl kf_X7_139 f1 rfl ?_
    refine aw_iret rfl dX7_count_75 ?_
    exact fin_c hq am_fr0 (show sp_count 2 = 0 from (by unfold sp_count; first | rfl | (simp only [wif_same, ite_self]; done) | (simp only [wif_same, ite_self]; rfl) | (simp [wif_same]; done)))
  · refine aw_tableIn (npc := 76) dX7_count_1 (by decide) (by decide) rfl (by decide) ?_
    refine aw_aload_n (npc := 77) rfl dX7_count_76 rfl ?_
    refine aw_get (npc := 80) dX7_count_77 rfl kf_X7_10 f0 rfl ?_
    refine aw_get (npc := 83) dX7_count_80 rfl kf_X7_142 f1 rfl ?_
    refine aw_iret rfl dX7_count_83 ?_
    exact fin_c hq am_fr0 (show sp_count 3 = 60 from (by unfold sp_count; first | rfl | (simp only [wif_same, ite_self]; done) | (simp only [wif_same, ite_self]; rfl) | (simp [wif_same]; done)))
  · refine aw_tableIn (npc := 84) dX7_count_1 (by decide) (by decide) rfl (by decide) ?_
    refine aw_aload_n (npc := 85) rfl dX7_count_84 rfl ?_
    refine aw_get (npc := 88) dX7_count_85 rfl kf_X7_10 f0 rfl ?_
    refine aw_get (npc := 91) dX7_count_88 rfl kf_X7_145 f1 rfl ?_
    refine aw_iret rfl dX7_count_91 ?_
    exact fin_c hq am_fr0 (show sp_count 4 = 10 from (by unfold sp_count; first | rfl | (simp only [wif_same, ite_self]; done) | (simp only [wif_same, ite_self]; rfl) | (simp [wif_same]; done)))
  · refine aw_tableIn (npc := 92) dX7_count_1 (by decide) (by decide) rfl (by decide) ?_
    refine aw_aload_n (npc := 93) rfl dX7_count_92 rfl ?_
    refine aw_get (npc := 96) dX7_count_93 rfl kf_X7_10 f0 rfl ?_
    refine aw_get (npc := 99) dX7_count_96 rfl kf_X7_246 f1 rfl ?_
    refine aw_iret rfl dX7_count_99 ?_
    exact fin_c hq am_fr0 (show sp_count 5 = 0 from (by unfold sp_count; first | rfl | (simp only [wif_same, ite_self]; done) | (simp only [wif_same, ite_self]; rfl) | (simp [wif_same]; done)))
  · refine aw_tableIn (npc := 100) dX7_count_1 (by decide) (by decide) rfl (by decide) ?_
    refine aw_aload_n (npc := 101) rfl dX7_count_100 rfl ?_
    refine aw_get (npc := 104) dX7_count_101 rfl kf_X7_61 f0 rfl ?_
    refine aw_iret rfl dX7_count_104 ?_
    exact fin_c hq am_fr0 (show sp_count 6 = 0 from (by unfold sp_count; first | rfl | (simp only [wif_same, ite_self]; done) | (simp only [wif_same, ite_self]; rfl) | (simp [wif_same]; done)))
  · refine aw_tableIn (npc := 105) dX7_count_1 (by decide) (by decide) rfl (by decide) ?_
    refine aw_aload_n (npc := 106) rfl dX7_count_105 rfl ?_
    refine aw_get (npc := 109) dX7_count_106 rfl kf_X7_44 f0 rfl ?_
    refine aw_get (npc := 112) dX7_count_109 rfl kf_X7_234 f40 rfl ?_
    refine aw_iret rfl dX7_count_112 ?_
    exact fin_c hq am_fr0 (show sp_count 7 = 0 from (by unfold sp_count; first | rfl | (simp only [wif_same, ite_self]; done) | (simp only [wif_same, ite_self]; rfl) | (simp [wif_same]; done)))
  · refine aw_tableIn (npc := 113) dX7_count_1 (by decide) (by decide) rfl (by decide) ?_
    refine aw_aload_n (npc := 114) rfl dX7_count_113 rfl ?_
    refine aw_get (npc := 117) dX7_count_114 rfl kf_X7_10 f0 rfl ?_
    refine aw_get (npc := 120) dX7_count_117 rfl kf_X7_157 f1 rfl ?_
    refine aw_iret rfl dX7_count_120 ?_
    exact fin_c hq am_fr0 (show sp_count 8 = 1 from (by unfold sp_count; first | rfl | (simp only [wif_same, ite_self]; done) | (simp only [wif_same, ite_self]; rfl) | (simp [wif_same]; done)))
  · refine aw_tableOut (npc := 121) dX7_count_1 hs1.1 (by decide) ?_
    refine aw_ldc (npc := 123) kc_X7_78 dX7_count_121 rfl ?_
    refine aw_iret rfl dX7_count_123 ?_
    exact fin_c hq am_fr0 (show sp_count w = (-1000000001) from (by unfold sp_count; first | rfl | (simp only [if_neg (hs1.2 0 ⟨by decide, by decide⟩), if_neg (hs1.2 1 ⟨by decide, by decide⟩), if_neg (hs1.2 2 ⟨by decide, by decide⟩), if_neg (hs1.2 3 ⟨by decide, by decide⟩), if_neg (hs1.2 4 ⟨by decide, by decide⟩), if_neg (hs1.2 5 ⟨by decide, by decide⟩), if_neg (hs1.2 6 ⟨by decide, by decide⟩), if_neg (hs1.2 7 ⟨by decide, by decide⟩), if_neg (hs1.2 8 ⟨by decide, by decide⟩), wif_same, ite_self]; done) | (simp only [if_neg (hs1.2 0 ⟨by decide, by decide⟩), if_neg (hs1.2 1 ⟨by decide, by decide⟩), if_neg (hs1.2 2 ⟨by decide, by decide⟩), if_neg (hs1.2 3 ⟨by decide, by decide⟩), if_neg (hs1.2 4 ⟨by decide, by decide⟩), if_neg (hs1.2 5 ⟨by decide, by decide⟩), if_neg (hs1.2 6 ⟨by decide, by decide⟩), if_neg (hs1.2 7 ⟨by decide, by decide⟩), if_neg (hs1.2 8 ⟨by decide, by decide⟩), wif_same, ite_self]; rfl) | (simp [if_neg (hs1.2 0 ⟨by decide, by decide⟩), if_neg (hs1.2 1 ⟨by decide, by decide⟩), if_neg (hs1.2 2 ⟨by decide, by decide⟩), if_neg (hs1.2 3 ⟨by decide, by decide⟩), if_neg (hs1.2 4 ⟨by decide, by decide⟩), if_neg (hs1.2 5 ⟨by decide, by decide⟩), if_neg (hs1.2 6 ⟨by decide, by decide⟩), if_neg (hs1.2 7 ⟨by decide, by decide⟩), if_neg (hs1.2 8 ⟨by decide, by decide⟩), wif_same]; done)))
set_option maxHeartbeats 40000000 in
set_option maxRecDepth 100000 in
theorem p_X8_count {X : List Int32} {d rc rs : Nat} {h : am_H} {Q : am_Q} {w : Int32} (F : f0_X8 h) (hq : ∀ n9 h9, Q (some (.int (sp_count w))) n9 h9) : AW X mX8_count (d + 12) rc rs 0 [some (.ref 69), some (.int w)] [] 92 h Q := by
  obtain ⟨g69, g70, -, -, -, -, -, -, -, -, -, -, -, -, -, -, -, -, -, -, -, -, -⟩ := F
  refine aw_iload_n (npc := 1) rfl dX8_count_0 rfl ?_
  rcases sw_8 w with rfl | rfl | rfl | rfl | rfl | rfl | rfl | rfl | rfl | hs1
  · refine aw_tableIn (npc := 52) dX8_count_1 (by decide) (by decide) rfl (by decide) ?_
    refine aw_aload_n (npc := 53) rfl dX8_count_52 rfl ?_
    refine aw_get (npc := 56) dX8_count_53 rfl kf_X8_9 g69 rfl ?_
    refine aw_iconst (npc := 57) (v := 1) (by decide) dX8_count_56 rfl ?_
    refine aw_iald (npc := 58) (x := 0) (j := 1) dX8_count_57 rfl g70 ⟨by decide, by decide⟩ rfl ?_
    refine aw_iret rfl dX8_count_58 ?_
    exact fin_m hq (show sp_count 0 = 0 from (by unfold sp_count; first | rfl | (simp only [wif_same, ite_self]; done) | (simp only [wif_same, ite_self]; rfl) | (simp [wif_same]; done)))
  · refine aw_tableIn (npc := 59) dX8_count_1 (by decide) (by decide) rfl (by decide) ?_
    refine aw_aload_n (npc := 60) rfl dX8_count_59 rfl ?_
    refine aw_get (npc := 63) dX8_count_60 rfl kf_X8_9 g69 rfl ?_
    refine aw_iconst (npc := 64) (v := 2) (by decide) dX8_count_63 rfl ?_
    refine aw_iald (npc := 65) (x := 0) (j := 2) dX8_count_64 rfl g70 ⟨by decide, by decide⟩ rfl ?_
    refine aw_iret rfl dX8_count_65 ?_
    exact fin_m hq (show sp_count 1 = 0 from (by unfold sp_count; first | rfl | (simp only [wif_same, ite_self]; done) | (simp only [wif_same, ite_self]; rfl) | (simp [wif_same]; done)))
  · refine aw_tableIn (npc := 66) dX8_count_1 (by decide) (by decide) rfl (by decide) ?_
    refine aw_aload_n (npc := 67) rfl dX8_count_66 rfl ?_
    refine aw_get (npc := 70) dX8_count_67 rfl kf_X8_9 g69 rfl ?_
    refine aw_iconst (npc := 71) (v := 1) (by decide) dX8_count_70 rfl ?_
    refine aw_iload_n (npc := 72) rfl dX8_count_71 rfl ?_
    refine aw_iaddV (npc := 73) (v := 3) dX8_count_72 rfl (by decide) ?_
    refine aw_iald (npc := 74) (x := 0) (j := 3) dX8_count_73 rfl g70 ⟨by decide, by decide⟩ rfl ?_
    refine aw_iret rfl dX8_count_74 ?_
    exact fin_m hq (show sp_count 2 = 0 from (by unfold sp_count; first | rfl | (simp only [wif_same, ite_self]; done) | (simp only [wif_same, ite_self]; rfl) | (simp [wif_same]; done)))
  · refine aw_tableIn (npc := 66) dX8_count_1 (by decide) (by decide) rfl (by decide) ?_
    refine aw_aload_n (npc := 67) rfl dX8_count_66 rfl ?_
    refine aw_get (npc := 70) dX8_count_67 rfl kf_X8_9 g69 rfl ?_
    refine aw_iconst (npc := 71) (v := 1) (by decide) dX8_count_70 rfl ?_
    refine aw_iload_n (npc := 72) rfl dX8_count_71 rfl ?_
    refine aw_iaddV (npc := 73) (v := 4) dX8_count_72 rfl (by decide) ?_
    refine aw_iald (npc := 74) (x := 60) (j := 4) dX8_count_73 rfl g70 ⟨by decide, by decide⟩ rfl ?_
    refine aw_iret rfl dX8_count_74 ?_
    exact fin_m hq (show sp_count 3 = 60 from (by unfold sp_count; first | rfl | (simp only [wif_same, ite_self]; done) | (simp only [wif_same, ite_self]; rfl) | (simp [wif_same]; done)))
  · refine aw_tableIn (npc := 66) dX8_count_1 (by decide) (by decide) rfl (by decide) ?_
    refine aw_aload_n (npc := 67) rfl dX8_count_66 rfl ?_
    refine aw_get (npc := 70) dX8_count_67 rfl kf_X8_9 g69 rfl ?_
    refine aw_iconst (npc := 71) (v := 1) (by decide) dX8_count_70 rfl ?_
    refine aw_iload_n (npc := 72) rfl dX8_count_71 rfl ?_
    refine aw_iaddV (npc := 73) (v := 5) dX8_count_72 rfl (by decide) ?_
    refine aw_iald (npc := 74) (x := 10) (j := 5) dX8_count_73 rfl g70 ⟨by decide, by decide⟩ rfl ?_
    refine aw_iret rfl dX8_count_74 ?_
    exact fin_m hq (show sp_count 4 = 10 from (by unfold sp_count; first | rfl | (simp only [wif_same, ite_self]; done) | (simp only [wif_same, ite_self]; rfl) | (simp [wif_same]; done)))
  · refine aw_tableIn (npc := 75) dX8_count_1 (by decide) (by decide) rfl (by decide) ?_
    refine aw_aload_n (npc := 76) rfl dX8_count_75 rfl ?_
    refine aw_get (npc := 79) dX8_count_76 rfl kf_X8_9 g69 rfl ?_
    refine aw_bipush (npc := 81) (v := 7) (by decide) dX8_count_79 rfl ?_
    refine aw_iald (npc := 82) (x := 0) (j := 7) dX8_count_81 rfl g70 ⟨by decide, by decide⟩ rfl ?_
    refine aw_iret rfl dX8_count_82 ?_
    exact fin_m hq (show sp_count 5 = 0 from (by unfold sp_count; first | rfl | (simp only [wif_same, ite_self]; done) | (simp only [wif_same, ite_self]; rfl) | (simp [wif_same]; done)))
  · refine aw_tableIn (npc := 83) dX8_count_1 (by decide) (by decide) rfl (by decide) ?_
    refine aw_aload_n (npc := 84) rfl dX8_count_83 rfl ?_
    refine aw_get (npc := 87) dX8_count_84 rfl kf_X8_266 g69 rfl ?_
    refine aw_iret rfl dX8_count_87 ?_
    exact fin_m hq (show sp_count 6 = 0 from (by unfold sp_count; first | rfl | (simp only [wif_same, ite_self]; done) | (simp only [wif_same, ite_self]; rfl) | (simp [wif_same]; done)))
  · refine aw_tableIn (npc := 88) dX8_count_1 (by decide) (by decide) rfl (by decide) ?_
    refine aw_aload_n (npc := 89) rfl dX8_count_88 rfl ?_
    refine aw_get (npc := 92) dX8_count_89 rfl kf_X8_192 g69 rfl ?_
    refine aw_iret rfl dX8_count_92 ?_
    exact fin_m hq (show sp_count 7 = 0 from (by unfold sp_count; first | rfl | (simp only [wif_same, ite_self]; done) | (simp only [wif_same, ite_self]; rfl) | (simp [wif_same]; done)))
  · refine aw_tableIn (npc := 93) dX8_count_1 (by decide) (by decide) rfl (by decide) ?_
    refine aw_aload_n (npc := 94) rfl dX8_count_93 rfl ?_
    refine aw_get (npc := 97) dX8_count_94 rfl kf_X8_9 g69 rfl ?_
    refine aw_iconst (npc := 98) (v := 0) (by decide) dX8_count_97 rfl ?_
    refine aw_iald (npc := 99) (x := 1) (j := 0) dX8_count_98 rfl g70 ⟨by decide, by decide⟩ rfl ?_
    refine aw_iret rfl dX8_count_99 ?_
    exact fin_m hq (show sp_count 8 = 1 from (by unfold sp_count; first | rfl | (simp only [wif_same, ite_self]; done) | (simp only [wif_same, ite_self]; rfl) | (simp [wif_same]; done)))
  · refine aw_tableOut (npc := 100) dX8_count_1 hs1.1 (by decide) ?_
    refine aw_ldc (npc := 102) kc_X8_91 dX8_count_100 rfl ?_
    refine aw_iret rfl dX8_count_102 ?_
    exact fin_m hq (show sp_count w = (-1000000001) from (by unfold sp_count; first | rfl | (simp only [if_neg (hs1.2 0 ⟨by decide, by decide⟩), if_neg (hs1.2 1 ⟨by decide, by decide⟩), if_neg (hs1.2 2 ⟨by decide, by decide⟩), if_neg (hs1.2 3 ⟨by decide, by decide⟩), if_neg (hs1.2 4 ⟨by decide, by decide⟩), if_neg (hs1.2 5 ⟨by decide, by decide⟩), if_neg (hs1.2 6 ⟨by decide, by decide⟩), if_neg (hs1.2 7 ⟨by decide, by decide⟩), if_neg (hs1.2 8 ⟨by decide, by decide⟩), wif_same, ite_self]; done) | (simp only [if_neg (hs1.2 0 ⟨by decide, by decide⟩), if_neg (hs1.2 1 ⟨by decide, by decide⟩), if_neg (hs1.2 2 ⟨by decide, by decide⟩), if_neg (hs1.2 3 ⟨by decide, by decide⟩), if_neg (hs1.2 4 ⟨by decide, by decide⟩), if_neg (hs1.2 5 ⟨by decide, by decide⟩), if_neg (hs1.2 6 ⟨by decide, by decide⟩), if_neg (hs1.2 7 ⟨by decide, by decide⟩), if_neg (hs1.2 8 ⟨by decide, by decide⟩), wif_same, ite_self]; rfl) | (simp [if_neg (hs1.2 0 ⟨by decide, by decide⟩), if_neg (hs1.2 1 ⟨by decide, by decide⟩), if_neg (hs1.2 2 ⟨by decide, by decide⟩), if_neg (hs1.2 3 ⟨by decide, by decide⟩), if_neg (hs1.2 4 ⟨by decide, by decide⟩), if_neg (hs1.2 5 ⟨by decide, by decide⟩), if_neg (hs1.2 6 ⟨by decide, by decide⟩), if_neg (hs1.2 7 ⟨by decide, by decide⟩), if_neg (hs1.2 8 ⟨by decide, by decide⟩), wif_same]; done)))
noncomputable def sp_bought (n : Int32) (w : Int32) : Int32 := wif n 1 60 (wif w 0 1 ((-1000000005)) (-1000000001)) (-1000000001)
set_option maxHeartbeats 40000000 in
set_option maxRecDepth 100000 in
theorem p_X7_bought {X : List Int32} {d rc rs : Nat} {h : am_H} {Q : am_Q} {n : Int32} {w : Int32} (F : f0_X7 h) (hq : ∀ h9, am_fr 69 h9 h → Q (some (.int (sp_bought n w))) 92 h9) : AW X mX7_bought (d + 12) rc rs 0 [some (.ref 0), some (.int n), some (.int w), none, none, none, none] [] 92 h Q := by
  obtain ⟨f0, f1, -, -, -, -, -, -, -, -, -, -, -, -, -, -, -, -, -, -, -, -, -, -, -, -, -, -, -, -, -, -, -, -, -, -, -, -, -, -, -, -, -, -, -, -, -, -, -, -, -, -, -, -, -, -, -, -, -, -, -, -, -, -, -, -, -, -, -⟩ := F
  refine aw_iload_n (npc := 1) rfl dX7_bought_0 rfl ?_
  refine aw_iconst (npc := 2) (v := 1) (by decide) dX7_bought_1 rfl ?_
  refine aw_bipush (npc := 4) (v := 60) (by decide) dX7_bought_2 rfl ?_
  refine aw_callS (npc := 7) (N := mX7_within) (mc := 0) (ms := 0) (A := [.int n, .int 1, .int 60]) (S := []) (L0 := [some (.int n), some (.int 1), some (.int 60)]) dX7_bought_4 rfl km_X7_within kk_X7_74 rfl ⟨rfl, by decide⟩ rfl (Nat.le_of_ble_eq_true rfl) (Nat.zero_add _) (Nat.zero_add _) rfl ?_
  refine c_X7_within (fun hw1 => ?_) (fun hw1 => ?_)
  · refine aw_re (S' := [.int 1]) rfl ?_
    refine aw_if_eq (npc := 10) (tgt := 19) dX7_bought_7 rfl (by decide) (fun hc => absurd hc (by decide)) (fun _ => ?_)
    refine aw_iload_n (npc := 11) rfl dX7_bought_10 rfl ?_
    refine aw_iconst (npc := 12) (v := 0) (by decide) dX7_bought_11 rfl ?_
    refine aw_iconst (npc := 13) (v := 1) (by decide) dX7_bought_12 rfl ?_
    refine aw_callS (npc := 16) (N := mX7_within) (mc := 0) (ms := 0) (A := [.int w, .int 0, .int 1]) (S := []) (L0 := [some (.int w), some (.int 0), some (.int 1)]) dX7_bought_13 rfl km_X7_within kk_X7_74 rfl ⟨rfl, by decide⟩ rfl (Nat.le_of_ble_eq_true rfl) (Nat.zero_add _) (Nat.zero_add _) rfl ?_
    refine c_X7_within (fun hw2 => ?_) (fun hw2 => ?_)
    · refine aw_re (S' := [.int 1]) rfl ?_
      refine aw_if_ne (npc := 19) (tgt := 22) dX7_bought_16 rfl (by decide) (fun _ => ?_) (fun hc => absurd hc (by decide))
      refine aw_ldc (npc := 24) kc_X7_200 dX7_bought_22 rfl ?_
      refine aw_istore_n (npc := 25) (L' := [some (.ref 0), some (.int n), some (.int w), some (.int (-1000000005)), none, none, none]) dX7_bought_24 rfl (by decide) rfl rfl ?_
      refine aw_ldc (npc := 27) kc_X7_200 dX7_bought_25 rfl ?_
      refine aw_istore (npc := 29) (L' := [some (.ref 0), some (.int n), some (.int w), some (.int (-1000000005)), some (.int (-1000000005)), none, none]) dX7_bought_27 rfl (by decide) rfl rfl ?_
      refine aw_iconst (npc := 30) (v := 0) (by decide) dX7_bought_29 rfl ?_
      refine aw_istore (npc := 32) (L' := [some (.ref 0), some (.int n), some (.int w), some (.int (-1000000005)), some (.int (-1000000005)), some (.int 0), none]) dX7_bought_30 rfl (by decide) rfl rfl ?_
      refine aw_iload (npc := 34) rfl dX7_bought_32 rfl ?_
      refine aw_aload_n (npc := 35) rfl dX7_bought_34 rfl ?_
      refine aw_get (npc := 38) dX7_bought_35 rfl kf_X7_10 f0 rfl ?_
      refine aw_get (npc := 41) dX7_bought_38 rfl kf_X7_79 f1 rfl ?_
      refine aw_icmp_ge (npc := 44) (tgt := 121) dX7_bought_41 rfl (by decide) (fun _ => ?_) (fun hc => absurd (by decide) hc)
      refine aw_iload_n (npc := 122) rfl dX7_bought_121 rfl ?_
      refine aw_if_ne (npc := 125) (tgt := 129) dX7_bought_122 rfl (by decide) (fun hc3 => ?_) (fun hc3 => ?_)
      · refine aw_iload (npc := 131) rfl dX7_bought_129 rfl ?_
        refine aw_iret rfl dX7_bought_131 ?_
        exact fin_c hq am_fr0 (show sp_bought n w = (-1000000005) from (by unfold sp_bought; first | rfl | (simp only [wif_t hw1, wif_t hw2, if_neg hc3, wif_same, ite_self]; done) | (simp only [wif_t hw1, wif_t hw2, if_neg hc3, wif_same, ite_self]; rfl) | (simp [wif_t hw1, wif_t hw2, if_neg hc3, wif_same]; done)))
      · refine aw_iload_n (npc := 126) rfl dX7_bought_125 rfl ?_
        refine aw_goto (npc := 131) dX7_bought_126 (by decide) ?_
        refine aw_iret rfl dX7_bought_131 ?_
        exact fin_c hq am_fr0 (show sp_bought n w = (-1000000005) from (by unfold sp_bought; first | rfl | (simp only [wif_t hw1, wif_t hw2, if_pos hc3, wif_same, ite_self]; done) | (simp only [wif_t hw1, wif_t hw2, if_pos hc3, wif_same, ite_self]; rfl) | (simp [wif_t hw1, wif_t hw2, if_pos hc3, wif_same]; done)))
    · refine aw_re (S' := [.int 0]) rfl ?_
      refine aw_if_ne (npc := 19) (tgt := 22) dX7_bought_16 rfl (by decide) (fun hc => absurd (by decide) hc) (fun _ => ?_)
      refine aw_ldc (npc := 21) kc_X7_78 dX7_bought_19 rfl ?_
      refine aw_iret rfl dX7_bought_21 ?_
      exact fin_c hq am_fr0 (show sp_bought n w = (-1000000001) from (by unfold sp_bought; first | rfl | (simp only [wif_t hw1, wif_f hw2, wif_same, ite_self]; done) | (simp only [wif_t hw1, wif_f hw2, wif_same, ite_self]; rfl) | (simp [wif_t hw1, wif_f hw2, wif_same]; done)))
  · refine aw_re (S' := [.int 0]) rfl ?_
    refine aw_if_eq (npc := 10) (tgt := 19) dX7_bought_7 rfl (by decide) (fun _ => ?_) (fun hc => absurd (by decide) hc)
    refine aw_ldc (npc := 21) kc_X7_78 dX7_bought_19 rfl ?_
    refine aw_iret rfl dX7_bought_21 ?_
    exact fin_c hq am_fr0 (show sp_bought n w = (-1000000001) from (by unfold sp_bought; first | rfl | (simp only [wif_f hw1, wif_same, ite_self]; done) | (simp only [wif_f hw1, wif_same, ite_self]; rfl) | (simp [wif_f hw1, wif_same]; done)))
set_option maxHeartbeats 40000000 in
set_option maxRecDepth 100000 in
theorem p_X8_bought {X : List Int32} {d rc rs : Nat} {h : am_H} {Q : am_Q} {n : Int32} {w : Int32} (F : f0_X8 h) (hq : ∀ n9 h9, Q (some (.int (sp_bought n w))) n9 h9) : AW X mX8_bought (d + 12) rc rs 0 [some (.ref 69), some (.int n), some (.int w), none, none, none, none] [] 92 h Q := by
  obtain ⟨g69, g70, -, -, -, g74, -, -, -, -, -, -, -, -, -, -, -, -, -, -, -, -, -⟩ := F
  refine aw_iload_n (npc := 1) rfl dX8_bought_0 rfl ?_
  refine aw_iconst (npc := 2) (v := 1) (by decide) dX8_bought_1 rfl ?_
  refine aw_bipush (npc := 4) (v := 60) (by decide) dX8_bought_2 rfl ?_
  refine aw_callS (npc := 7) (N := mX8_in) (mc := 0) (ms := 0) (A := [.int n, .int 1, .int 60]) (S := []) (L0 := [some (.int n), some (.int 1), some (.int 60)]) dX8_bought_4 rfl km_X8_in kk_X8_83 rfl ⟨rfl, by decide⟩ rfl (Nat.le_of_ble_eq_true rfl) (Nat.zero_add _) (Nat.zero_add _) rfl ?_
  refine c_X8_in (fun hw1 => ?_) (fun hw1 => ?_)
  · refine aw_re (S' := [.int 1]) rfl ?_
    refine aw_if_eq (npc := 10) (tgt := 19) dX8_bought_7 rfl (by decide) (fun hc => absurd hc (by decide)) (fun _ => ?_)
    refine aw_iload_n (npc := 11) rfl dX8_bought_10 rfl ?_
    refine aw_iconst (npc := 12) (v := 0) (by decide) dX8_bought_11 rfl ?_
    refine aw_iconst (npc := 13) (v := 1) (by decide) dX8_bought_12 rfl ?_
    refine aw_callS (npc := 16) (N := mX8_in) (mc := 0) (ms := 0) (A := [.int w, .int 0, .int 1]) (S := []) (L0 := [some (.int w), some (.int 0), some (.int 1)]) dX8_bought_13 rfl km_X8_in kk_X8_83 rfl ⟨rfl, by decide⟩ rfl (Nat.le_of_ble_eq_true rfl) (Nat.zero_add _) (Nat.zero_add _) rfl ?_
    refine c_X8_in (fun hw2 => ?_) (fun hw2 => ?_)
    · refine aw_re (S' := [.int 1]) rfl ?_
      refine aw_if_ne (npc := 19) (tgt := 22) dX8_bought_16 rfl (by decide) (fun _ => ?_) (fun hc => absurd hc (by decide))
      refine aw_aload_n (npc := 23) rfl dX8_bought_22 rfl ?_
      refine aw_callV (npc := 26) (N := mX8_thinks) (b := 69) (mc := 0) (ms := 0) (A := []) (S := []) (L0 := [some (.ref 69), none]) dX8_bought_23 rfl km_X8_thinks kk_X8_169 g69 ⟨by decide, rfl⟩ rfl ⟨rfl, by decide⟩ rfl (Nat.le_of_ble_eq_true rfl) (Nat.zero_add _) (Nat.zero_add _) rfl ?_
      refine aw_iconst (npc := 1) (v := 0) (by decide) dX8_thinks_0 rfl ?_
      refine aw_istore_n (npc := 2) (L' := [some (.ref 69), some (.int 0)]) dX8_thinks_1 rfl (by decide) rfl rfl ?_
      refine aw_iload_n (npc := 3) rfl dX8_thinks_2 rfl ?_
      refine aw_bipush (npc := 5) (v := 62) (by decide) dX8_thinks_3 rfl ?_
      refine aw_icmp_ge (npc := 8) (tgt := 26) dX8_thinks_5 rfl (by decide) (fun hc => absurd hc (by decide)) (fun _ => ?_)
      refine aw_aload_n (npc := 9) rfl dX8_thinks_8 rfl ?_
      refine aw_get (npc := 12) dX8_thinks_9 rfl kf_X8_26 g69 rfl ?_
      refine aw_iload_n (npc := 13) rfl dX8_thinks_12 rfl ?_
      refine aw_aload_n (npc := 14) rfl dX8_thinks_13 rfl ?_
      refine aw_get (npc := 17) dX8_thinks_14 rfl kf_X8_9 g69 rfl ?_
      refine aw_iload_n (npc := 18) rfl dX8_thinks_17 rfl ?_
      refine aw_iald (npc := 19) (x := 1) (j := 0) dX8_thinks_18 rfl g70 ⟨by decide, by decide⟩ rfl ?_
      refine aw_iast (npc := 20) (j := 0) dX8_thinks_19 rfl g74 ⟨by decide, by decide⟩ (Nat.le_of_ble_eq_true rfl) rfl ?_
      refine aw_iinc (npc := 23) (v := 1) (L' := [some (.ref 69), some (.int 1)]) dX8_thinks_20 rfl rfl (by decide) (by decide) rfl rfl ?_
      refine aw_goto (npc := 2) dX8_thinks_23 (by decide) ?_
      refine aw_iload_n (npc := 3) rfl dX8_thinks_2 rfl ?_
      refine aw_bipush (npc := 5) (v := 62) (by decide) dX8_thinks_3 rfl ?_
      refine aw_icmp_ge (npc := 8) (tgt := 26) dX8_thinks_5 rfl (by decide) (fun hc => absurd hc (by decide)) (fun _ => ?_)
      refine aw_aload_n (npc := 9) rfl dX8_thinks_8 rfl ?_
      refine aw_get (npc := 12) dX8_thinks_9 rfl kf_X8_26 (am_ne (by decide) g69) rfl ?_
      refine aw_iload_n (npc := 13) rfl dX8_thinks_12 rfl ?_
      refine aw_aload_n (npc := 14) rfl dX8_thinks_13 rfl ?_
      refine aw_get (npc := 17) dX8_thinks_14 rfl kf_X8_9 (am_ne (by decide) g69) rfl ?_
      refine aw_iload_n (npc := 18) rfl dX8_thinks_17 rfl ?_
      refine aw_iald (npc := 19) (x := 0) (j := 1) dX8_thinks_18 rfl (am_ne (by decide) g70) ⟨by decide, by decide⟩ rfl ?_
      refine aw_iast (npc := 20) (j := 1) dX8_thinks_19 rfl am_eq ⟨by decide, by decide⟩ (Nat.le_of_ble_eq_true rfl) am_uu ?_
      refine aw_iinc (npc := 23) (v := 2) (L' := [some (.ref 69), some (.int 2)]) dX8_thinks_20 rfl rfl (by decide) (by decide) rfl rfl ?_
      refine aw_goto (npc := 2) dX8_thinks_23 (by decide) ?_
      refine aw_iload_n (npc := 3) rfl dX8_thinks_2 rfl ?_
      refine aw_bipush (npc := 5) (v := 62) (by decide) dX8_thinks_3 rfl ?_
      refine aw_icmp_ge (npc := 8) (tgt := 26) dX8_thinks_5 rfl (by decide) (fun hc => absurd hc (by decide)) (fun _ => ?_)
      refine aw_aload_n (npc := 9) rfl dX8_thinks_8 rfl ?_
      refine aw_get (npc := 12) dX8_thinks_9 rfl kf_X8_26 (am_ne (by decide) g69) rfl ?_
      refine aw_iload_n (npc := 13) rfl dX8_thinks_12 rfl ?_
      refine aw_aload_n (npc := 14) rfl dX8_thinks_13 rfl ?_
      refine aw_get (npc := 17) dX8_thinks_14 rfl kf_X8_9 (am_ne (by decide) g69) rfl ?_
      refine aw_iload_n (npc := 18) rfl dX8_thinks_17 rfl ?_
      refine aw_iald (npc := 19) (x := 0) (j := 2) dX8_thinks_18 rfl (am_ne (by decide) g70) ⟨by decide, by decide⟩ rfl ?_
      refine aw_iast (npc := 20) (j := 2) dX8_thinks_19 rfl am_eq ⟨by decide, by decide⟩ (Nat.le_of_ble_eq_true rfl) am_uu ?_
      refine aw_iinc (npc := 23) (v := 3) (L' := [some (.ref 69), some (.int 3)]) dX8_thinks_20 rfl rfl (by decide) (by decide) rfl rfl ?_
      refine aw_goto (npc := 2) dX8_thinks_23 (by decide) ?_
      refine aw_iload_n (npc := 3) rfl dX8_thinks_2 rfl ?_
      refine aw_bipush (npc := 5) (v := 62) (by decide) dX8_thinks_3 rfl ?_
      refine aw_icmp_ge (npc := 8) (tgt := 26) dX8_thinks_5 rfl (by decide) (fun hc => absurd hc (by decide)) (fun _ => ?_)
      refine aw_aload_n (npc := 9) rfl dX8_thinks_8 rfl ?_
      refine aw_get (npc := 12) dX8_thinks_9 rfl kf_X8_26 (am_ne (by decide) g69) rfl ?_
      refine aw_iload_n (npc := 13) rfl dX8_thinks_12 rfl ?_
      refine aw_aload_n (npc := 14) rfl dX8_thinks_13 rfl ?_
      refine aw_get (npc := 17) dX8_thinks_14 rfl kf_X8_9 (am_ne (by decide) g69) rfl ?_
      refine aw_iload_n (npc := 18) rfl dX8_thinks_17 rfl ?_
      refine aw_iald (npc := 19) (x := 0) (j := 3) dX8_thinks_18 rfl (am_ne (by decide) g70) ⟨by decide, by decide⟩ rfl ?_
      refine aw_iast (npc := 20) (j := 3) dX8_thinks_19 rfl am_eq ⟨by decide, by decide⟩ (Nat.le_of_ble_eq_true rfl) am_uu ?_
      refine aw_iinc (npc := 23) (v := 4) (L' := [some (.ref 69), some (.int 4)]) dX8_thinks_20 rfl rfl (by decide) (by decide) rfl rfl ?_
      refine aw_goto (npc := 2) dX8_thinks_23 (by decide) ?_
      refine aw_iload_n (npc := 3) rfl dX8_thinks_2 rfl ?_
      refine aw_bipush (npc := 5) (v := 62) (by decide) dX8_thinks_3 rfl ?_
      refine aw_icmp_ge (npc := 8) (tgt := 26) dX8_thinks_5 rfl (by decide) (fun hc => absurd hc (by decide)) (fun _ => ?_)
      refine aw_aload_n (npc := 9) rfl dX8_thinks_8 rfl ?_
      refine aw_get (npc := 12) dX8_thinks_9 rfl kf_X8_26 (am_ne (by decide) g69) rfl ?_
      refine aw_iload_n (npc := 13) rfl dX8_thinks_12 rfl ?_
      refine aw_aload_n (npc := 14) rfl dX8_thinks_13 rfl ?_
      refine aw_get (npc := 17) dX8_thinks_14 rfl kf_X8_9 (am_ne (by decide) g69) rfl ?_
      refine aw_iload_n (npc := 18) rfl dX8_thinks_17 rfl ?_
      refine aw_iald (npc := 19) (x := 60) (j := 4) dX8_thinks_18 rfl (am_ne (by decide) g70) ⟨by decide, by decide⟩ rfl ?_
      refine aw_iast (npc := 20) (j := 4) dX8_thinks_19 rfl am_eq ⟨by decide, by decide⟩ (Nat.le_of_ble_eq_true rfl) am_uu ?_
      refine aw_iinc (npc := 23) (v := 5) (L' := [some (.ref 69), some (.int 5)]) dX8_thinks_20 rfl rfl (by decide) (by decide) rfl rfl ?_
      refine aw_goto (npc := 2) dX8_thinks_23 (by decide) ?_
      refine aw_iload_n (npc := 3) rfl dX8_thinks_2 rfl ?_
      refine aw_bipush (npc := 5) (v := 62) (by decide) dX8_thinks_3 rfl ?_
      refine aw_icmp_ge (npc := 8) (tgt := 26) dX8_thinks_5 rfl (by decide) (fun hc => absurd hc (by decide)) (fun _ => ?_)
      refine aw_aload_n (npc := 9) rfl dX8_thinks_8 rfl ?_
      refine aw_get (npc := 12) dX8_thinks_9 rfl kf_X8_26 (am_ne (by decide) g69) rfl ?_
      refine aw_iload_n (npc := 13) rfl dX8_thinks_12 rfl ?_
      refine aw_aload_n (npc := 14) rfl dX8_thinks_13 rfl ?_
      refine aw_get (npc := 17) dX8_thinks_14 rfl kf_X8_9 (am_ne (by decide) g69) rfl ?_
      refine aw_iload_n (npc := 18) rfl dX8_thinks_17 rfl ?_
      refine aw_iald (npc := 19) (x := 10) (j := 5) dX8_thinks_18 rfl (am_ne (by decide) g70) ⟨by decide, by decide⟩ rfl ?_
      refine aw_iast (npc := 20) (j := 5) dX8_thinks_19 rfl am_eq ⟨by decide, by decide⟩ (Nat.le_of_ble_eq_true rfl) am_uu ?_
      refine aw_iinc (npc := 23) (v := 6) (L' := [some (.ref 69), some (.int 6)]) dX8_thinks_20 rfl rfl (by decide) (by decide) rfl rfl ?_
      refine aw_goto (npc := 2) dX8_thinks_23 (by decide) ?_
      refine aw_iload_n (npc := 3) rfl dX8_thinks_2 rfl ?_
      refine aw_bipush (npc := 5) (v := 62) (by decide) dX8_thinks_3 rfl ?_
      refine aw_icmp_ge (npc := 8) (tgt := 26) dX8_thinks_5 rfl (by decide) (fun hc => absurd hc (by decide)) (fun _ => ?_)
      refine aw_aload_n (npc := 9) rfl dX8_thinks_8 rfl ?_
      refine aw_get (npc := 12) dX8_thinks_9 rfl kf_X8_26 (am_ne (by decide) g69) rfl ?_
      refine aw_iload_n (npc := 13) rfl dX8_thinks_12 rfl ?_
      refine aw_aload_n (npc := 14) rfl dX8_thinks_13 rfl ?_
      refine aw_get (npc := 17) dX8_thinks_14 rfl kf_X8_9 (am_ne (by decide) g69) rfl ?_
      refine aw_iload_n (npc := 18) rfl dX8_thinks_17 rfl ?_
      refine aw_iald (npc := 19) (x := 0) (j := 6) dX8_thinks_18 rfl (am_ne (by decide) g70) ⟨by decide, by decide⟩ rfl ?_
      refine aw_iast (npc := 20) (j := 6) dX8_thinks_19 rfl am_eq ⟨by decide, by decide⟩ (Nat.le_of_ble_eq_true rfl) am_uu ?_
      refine aw_iinc (npc := 23) (v := 7) (L' := [some (.ref 69), some (.int 7)]) dX8_thinks_20 rfl rfl (by decide) (by decide) rfl rfl ?_
      refine aw_goto (npc := 2) dX8_thinks_23 (by decide) ?_
      refine aw_iload_n (npc := 3) rfl dX8_thinks_2 rfl ?_
      refine aw_bipush (npc := 5) (v := 62) (by decide) dX8_thinks_3 rfl ?_
      refine aw_icmp_ge (npc := 8) (tgt := 26) dX8_thinks_5 rfl (by decide) (fun hc => absurd hc (by decide)) (fun _ => ?_)
      refine aw_aload_n (npc := 9) rfl dX8_thinks_8 rfl ?_
      refine aw_get (npc := 12) dX8_thinks_9 rfl kf_X8_26 (am_ne (by decide) g69) rfl ?_
      refine aw_iload_n (npc := 13) rfl dX8_thinks_12 rfl ?_
      refine aw_aload_n (npc := 14) rfl dX8_thinks_13 rfl ?_
      refine aw_get (npc := 17) dX8_thinks_14 rfl kf_X8_9 (am_ne (by decide) g69) rfl ?_
      refine aw_iload_n (npc := 18) rfl dX8_thinks_17 rfl ?_
      refine aw_iald (npc := 19) (x := 0) (j := 7) dX8_thinks_18 rfl (am_ne (by decide) g70) ⟨by decide, by decide⟩ rfl ?_
      refine aw_iast (npc := 20) (j := 7) dX8_thinks_19 rfl am_eq ⟨by decide, by decide⟩ (Nat.le_of_ble_eq_true rfl) am_uu ?_
      refine aw_iinc (npc := 23) (v := 8) (L' := [some (.ref 69), some (.int 8)]) dX8_thinks_20 rfl rfl (by decide) (by decide) rfl rfl ?_
      refine aw_goto (npc := 2) dX8_thinks_23 (by decide) ?_
      refine aw_iload_n (npc := 3) rfl dX8_thinks_2 rfl ?_
      refine aw_bipush (npc := 5) (v := 62) (by decide) dX8_thinks_3 rfl ?_
      refine aw_icmp_ge (npc := 8) (tgt := 26) dX8_thinks_5 rfl (by decide) (fun hc => absurd hc (by decide)) (fun _ => ?_)
      refine aw_aload_n (npc := 9) rfl dX8_thinks_8 rfl ?_
      refine aw_get (npc := 12) dX8_thinks_9 rfl kf_X8_26 (am_ne (by decide) g69) rfl ?_
      refine aw_iload_n (npc := 13) rfl dX8_thinks_12 rfl ?_
      refine aw_aload_n (npc := 14) rfl dX8_thinks_13 rfl ?_
      refine aw_get (npc := 17) dX8_thinks_14 rfl kf_X8_9 (am_ne (by decide) g69) rfl ?_
      refine aw_iload_n (npc := 18) rfl dX8_thinks_17 rfl ?_
      refine aw_iald (npc := 19) (x := 5) (j := 8) dX8_thinks_18 rfl (am_ne (by decide) g70) ⟨by decide, by decide⟩ rfl ?_
      refine aw_iast (npc := 20) (j := 8) dX8_thinks_19 rfl am_eq ⟨by decide, by decide⟩ (Nat.le_of_ble_eq_true rfl) am_uu ?_
      refine aw_iinc (npc := 23) (v := 9) (L' := [some (.ref 69), some (.int 9)]) dX8_thinks_20 rfl rfl (by decide) (by decide) rfl rfl ?_
      refine aw_goto (npc := 2) dX8_thinks_23 (by decide) ?_
      refine aw_iload_n (npc := 3) rfl dX8_thinks_2 rfl ?_
      refine aw_bipush (npc := 5) (v := 62) (by decide) dX8_thinks_3 rfl ?_
      refine aw_icmp_ge (npc := 8) (tgt := 26) dX8_thinks_5 rfl (by decide) (fun hc => absurd hc (by decide)) (fun _ => ?_)
      refine aw_aload_n (npc := 9) rfl dX8_thinks_8 rfl ?_
      refine aw_get (npc := 12) dX8_thinks_9 rfl kf_X8_26 (am_ne (by decide) g69) rfl ?_
      refine aw_iload_n (npc := 13) rfl dX8_thinks_12 rfl ?_
      refine aw_aload_n (npc := 14) rfl dX8_thinks_13 rfl ?_
      refine aw_get (npc := 17) dX8_thinks_14 rfl kf_X8_9 (am_ne (by decide) g69) rfl ?_
      refine aw_iload_n (npc := 18) rfl dX8_thinks_17 rfl ?_
      refine aw_iald (npc := 19) (x := 5) (j := 9) dX8_thinks_18 rfl (am_ne (by decide) g70) ⟨by decide, by decide⟩ rfl ?_
      refine aw_iast (npc := 20) (j := 9) dX8_thinks_19 rfl am_eq ⟨by decide, by decide⟩ (Nat.le_of_ble_eq_true rfl) am_uu ?_
      refine aw_iinc (npc := 23) (v := 10) (L' := [some (.ref 69), some (.int 10)]) dX8_thinks_20 rfl rfl (by decide) (by decide) rfl rfl ?_
      refine aw_goto (npc := 2) dX8_thinks_23 (by decide) ?_
      refine aw_iload_n (npc := 3) rfl dX8_thinks_2 rfl ?_
      refine aw_bipush (npc := 5) (v := 62) (by decide) dX8_thinks_3 rfl ?_
      refine aw_icmp_ge (npc := 8) (tgt := 26) dX8_thinks_5 rfl (by decide) (fun hc => absurd hc (by decide)) (fun _ => ?_)
      refine aw_aload_n (npc := 9) rfl dX8_thinks_8 rfl ?_
      refine aw_get (npc := 12) dX8_thinks_9 rfl kf_X8_26 (am_ne (by decide) g69) rfl ?_
      refine aw_iload_n (npc := 13) rfl dX8_thinks_12 rfl ?_
      refine aw_aload_n (npc := 14) rfl dX8_thinks_13 rfl ?_
      refine aw_get (npc := 17) dX8_thinks_14 rfl kf_X8_9 (am_ne (by decide) g69) rfl ?_
      refine aw_iload_n (npc := 18) rfl dX8_thinks_17 rfl ?_
      refine aw_iald (npc := 19) (x := 5) (j := 10) dX8_thinks_18 rfl (am_ne (by decide) g70) ⟨by decide, by decide⟩ rfl ?_
      refine aw_iast (npc := 20) (j := 10) dX8_thinks_19 rfl am_eq ⟨by decide, by decide⟩ (Nat.le_of_ble_eq_true rfl) am_uu ?_
      refine aw_iinc (npc := 23) (v := 11) (L' := [some (.ref 69), some (.int 11)]) dX8_thinks_20 rfl rfl (by decide) (by decide) rfl rfl ?_
      refine aw_goto (npc := 2) dX8_thinks_23 (by decide) ?_
      refine aw_iload_n (npc := 3) rfl dX8_thinks_2 rfl ?_
      refine aw_bipush (npc := 5) (v := 62) (by decide) dX8_thinks_3 rfl ?_
      refine aw_icmp_ge (npc := 8) (tgt := 26) dX8_thinks_5 rfl (by decide) (fun hc => absurd hc (by decide)) (fun _ => ?_)
      refine aw_aload_n (npc := 9) rfl dX8_thinks_8 rfl ?_
      refine aw_get (npc := 12) dX8_thinks_9 rfl kf_X8_26 (am_ne (by decide) g69) rfl ?_
      refine aw_iload_n (npc := 13) rfl dX8_thinks_12 rfl ?_
      refine aw_aload_n (npc := 14) rfl dX8_thinks_13 rfl ?_
      refine aw_get (npc := 17) dX8_thinks_14 rfl kf_X8_9 (am_ne (by decide) g69) rfl ?_
      refine aw_iload_n (npc := 18) rfl dX8_thinks_17 rfl ?_
      refine aw_iald (npc := 19) (x := 5) (j := 11) dX8_thinks_18 rfl (am_ne (by decide) g70) ⟨by decide, by decide⟩ rfl ?_
      refine aw_iast (npc := 20) (j := 11) dX8_thinks_19 rfl am_eq ⟨by decide, by decide⟩ (Nat.le_of_ble_eq_true rfl) am_uu ?_
      refine aw_iinc (npc := 23) (v := 12) (L' := [some (.ref 69), some (.int 12)]) dX8_thinks_20 rfl rfl (by decide) (by decide) rfl rfl ?_
      refine aw_goto (npc := 2) dX8_thinks_23 (by decide) ?_
      refine aw_iload_n (npc := 3) rfl dX8_thinks_2 rfl ?_
      refine aw_bipush (npc := 5) (v := 62) (by decide) dX8_thinks_3 rfl ?_
      refine aw_icmp_ge (npc := 8) (tgt := 26) dX8_thinks_5 rfl (by decide) (fun hc => absurd hc (by decide)) (fun _ => ?_)
      refine aw_aload_n (npc := 9) rfl dX8_thinks_8 rfl ?_
      refine aw_get (npc := 12) dX8_thinks_9 rfl kf_X8_26 (am_ne (by decide) g69) rfl ?_
      refine aw_iload_n (npc := 13) rfl dX8_thinks_12 rfl ?_
      refine aw_aload_n (npc := 14) rfl dX8_thinks_13 rfl ?_
      refine aw_get (npc := 17) dX8_thinks_14 rfl kf_X8_9 (am_ne (by decide) g69) rfl ?_
      refine aw_iload_n (npc := 18) rfl dX8_thinks_17 rfl ?_
      refine aw_iald (npc := 19) (x := 1) (j := 12) dX8_thinks_18 rfl (am_ne (by decide) g70) ⟨by decide, by decide⟩ rfl ?_
      refine aw_iast (npc := 20) (j := 12) dX8_thinks_19 rfl am_eq ⟨by decide, by decide⟩ (Nat.le_of_ble_eq_true rfl) am_uu ?_
      refine aw_iinc (npc := 23) (v := 13) (L' := [some (.ref 69), some (.int 13)]) dX8_thinks_20 rfl rfl (by decide) (by decide) rfl rfl ?_
      refine aw_goto (npc := 2) dX8_thinks_23 (by decide) ?_
      refine aw_iload_n (npc := 3) rfl dX8_thinks_2 rfl ?_
      refine aw_bipush (npc := 5) (v := 62) (by decide) dX8_thinks_3 rfl ?_
      refine aw_icmp_ge (npc := 8) (tgt := 26) dX8_thinks_5 rfl (by decide) (fun hc => absurd hc (by decide)) (fun _ => ?_)
      refine aw_aload_n (npc := 9) rfl dX8_thinks_8 rfl ?_
      refine aw_get (npc := 12) dX8_thinks_9 rfl kf_X8_26 (am_ne (by decide) g69) rfl ?_
      refine aw_iload_n (npc := 13) rfl dX8_thinks_12 rfl ?_
      refine aw_aload_n (npc := 14) rfl dX8_thinks_13 rfl ?_
      refine aw_get (npc := 17) dX8_thinks_14 rfl kf_X8_9 (am_ne (by decide) g69) rfl ?_
      refine aw_iload_n (npc := 18) rfl dX8_thinks_17 rfl ?_
      refine aw_iald (npc := 19) (x := 1) (j := 13) dX8_thinks_18 rfl (am_ne (by decide) g70) ⟨by decide, by decide⟩ rfl ?_
      refine aw_iast (npc := 20) (j := 13) dX8_thinks_19 rfl am_eq ⟨by decide, by decide⟩ (Nat.le_of_ble_eq_true rfl) am_uu ?_
      refine aw_iinc (npc := 23) (v := 14) (L' := [some (.ref 69), some (.int 14)]) dX8_thinks_20 rfl rfl (by decide) (by decide) rfl rfl ?_
      refine aw_goto (npc := 2) dX8_thinks_23 (by decide) ?_
      refine aw_iload_n (npc := 3) rfl dX8_thinks_2 rfl ?_
      refine aw_bipush (npc := 5) (v := 62) (by decide) dX8_thinks_3 rfl ?_
      refine aw_icmp_ge (npc := 8) (tgt := 26) dX8_thinks_5 rfl (by decide) (fun hc => absurd hc (by decide)) (fun _ => ?_)
      refine aw_aload_n (npc := 9) rfl dX8_thinks_8 rfl ?_
      refine aw_get (npc := 12) dX8_thinks_9 rfl kf_X8_26 (am_ne (by decide) g69) rfl ?_
      refine aw_iload_n (npc := 13) rfl dX8_thinks_12 rfl ?_
      refine aw_aload_n (npc := 14) rfl dX8_thinks_13 rfl ?_
      refine aw_get (npc := 17) dX8_thinks_14 rfl kf_X8_9 (am_ne (by decide) g69) rfl ?_
      refine aw_iload_n (npc := 18) rfl dX8_thinks_17 rfl ?_
      refine aw_iald (npc := 19) (x := 1) (j := 14) dX8_thinks_18 rfl (am_ne (by decide) g70) ⟨by decide, by decide⟩ rfl ?_
      refine aw_iast (npc := 20) (j := 14) dX8_thinks_19 rfl am_eq ⟨by decide, by decide⟩ (Nat.le_of_ble_eq_true rfl) am_uu ?_
      refine aw_iinc (npc := 23) (v := 15) (L' := [some (.ref 69), some (.int 15)]) dX8_thinks_20 rfl rfl (by decide) (by decide) rfl rfl ?_
      refine aw_goto (npc := 2) dX8_thinks_23 (by decide) ?_
      refine aw_iload_n (npc := 3) rfl dX8_thinks_2 rfl ?_
      refine aw_bipush (npc := 5) (v := 62) (by decide) dX8_thinks_3 rfl ?_
      refine aw_icmp_ge (npc := 8) (tgt := 26) dX8_thinks_5 rfl (by decide) (fun hc => absurd hc (by decide)) (fun _ => ?_)
      refine aw_aload_n (npc := 9) rfl dX8_thinks_8 rfl ?_
      refine aw_get (npc := 12) dX8_thinks_9 rfl kf_X8_26 (am_ne (by decide) g69) rfl ?_
      refine aw_iload_n (npc := 13) rfl dX8_thinks_12 rfl ?_
      refine aw_aload_n (npc := 14) rfl dX8_thinks_13 rfl ?_
      refine aw_get (npc := 17) dX8_thinks_14 rfl kf_X8_9 (am_ne (by decide) g69) rfl ?_
      refine aw_iload_n (npc := 18) rfl dX8_thinks_17 rfl ?_
      refine aw_iald (npc := 19) (x := 1) (j := 15) dX8_thinks_18 rfl (am_ne (by decide) g70) ⟨by decide, by decide⟩ rfl ?_
      refine aw_iast (npc := 20) (j := 15) dX8_thinks_19 rfl am_eq ⟨by decide, by decide⟩ (Nat.le_of_ble_eq_true rfl) am_uu ?_
      refine aw_iinc (npc := 23) (v := 16) (L' := [some (.ref 69), some (.int 16)]) dX8_thinks_20 rfl rfl (by decide) (by decide) rfl rfl ?_
      refine aw_goto (npc := 2) dX8_thinks_23 (by decide) ?_
      refine aw_iload_n (npc := 3) rfl dX8_thinks_2 rfl ?_
      refine aw_bipush (npc := 5) (v := 62) (by decide) dX8_thinks_3 rfl ?_
      refine aw_icmp_ge (npc := 8) (tgt := 26) dX8_thinks_5 rfl (by decide) (fun hc => absurd hc (by decide)) (fun _ => ?_)
      refine aw_aload_n (npc := 9) rfl dX8_thinks_8 rfl ?_
      refine aw_get (npc := 12) dX8_thinks_9 rfl kf_X8_26 (am_ne (by decide) g69) rfl ?_
      refine aw_iload_n (npc := 13) rfl dX8_thinks_12 rfl ?_
      refine aw_aload_n (npc := 14) rfl dX8_thinks_13 rfl ?_
      refine aw_get (npc := 17) dX8_thinks_14 rfl kf_X8_9 (am_ne (by decide) g69) rfl ?_
      refine aw_iload_n (npc := 18) rfl dX8_thinks_17 rfl ?_
      refine aw_iald (npc := 19) (x := 1) (j := 16) dX8_thinks_18 rfl (am_ne (by decide) g70) ⟨by decide, by decide⟩ rfl ?_
      refine aw_iast (npc := 20) (j := 16) dX8_thinks_19 rfl am_eq ⟨by decide, by decide⟩ (Nat.le_of_ble_eq_true rfl) am_uu ?_
      refine aw_iinc (npc := 23) (v := 17) (L' := [some (.ref 69), some (.int 17)]) dX8_thinks_20 rfl rfl (by decide) (by decide) rfl rfl ?_
      refine aw_goto (npc := 2) dX8_thinks_23 (by decide) ?_
      refine aw_iload_n (npc := 3) rfl dX8_thinks_2 rfl ?_
      refine aw_bipush (npc := 5) (v := 62) (by decide) dX8_thinks_3 rfl ?_
      refine aw_icmp_ge (npc := 8) (tgt := 26) dX8_thinks_5 rfl (by decide) (fun hc => absurd hc (by decide)) (fun _ => ?_)
      refine aw_aload_n (npc := 9) rfl dX8_thinks_8 rfl ?_
      refine aw_get (npc := 12) dX8_thinks_9 rfl kf_X8_26 (am_ne (by decide) g69) rfl ?_
      refine aw_iload_n (npc := 13) rfl dX8_thinks_12 rfl ?_
      refine aw_aload_n (npc := 14) rfl dX8_thinks_13 rfl ?_
      refine aw_get (npc := 17) dX8_thinks_14 rfl kf_X8_9 (am_ne (by decide) g69) rfl ?_
      refine aw_iload_n (npc := 18) rfl dX8_thinks_17 rfl ?_
      refine aw_iald (npc := 19) (x := 1) (j := 17) dX8_thinks_18 rfl (am_ne (by decide) g70) ⟨by decide, by decide⟩ rfl ?_
      refine aw_iast (npc := 20) (j := 17) dX8_thinks_19 rfl am_eq ⟨by decide, by decide⟩ (Nat.le_of_ble_eq_true rfl) am_uu ?_
      refine aw_iinc (npc := 23) (v := 18) (L' := [some (.ref 69), some (.int 18)]) dX8_thinks_20 rfl rfl (by decide) (by decide) rfl rfl ?_
      refine aw_goto (npc := 2) dX8_thinks_23 (by decide) ?_
      refine aw_iload_n (npc := 3) rfl dX8_thinks_2 rfl ?_
      refine aw_bipush (npc := 5) (v := 62) (by decide) dX8_thinks_3 rfl ?_
      refine aw_icmp_ge (npc := 8) (tgt := 26) dX8_thinks_5 rfl (by decide) (fun hc => absurd hc (by decide)) (fun _ => ?_)
      refine aw_aload_n (npc := 9) rfl dX8_thinks_8 rfl ?_
      refine aw_get (npc := 12) dX8_thinks_9 rfl kf_X8_26 (am_ne (by decide) g69) rfl ?_
      refine aw_iload_n (npc := 13) rfl dX8_thinks_12 rfl ?_
      refine aw_aload_n (npc := 14) rfl dX8_thinks_13 rfl ?_
      refine aw_get (npc := 17) dX8_thinks_14 rfl kf_X8_9 (am_ne (by decide) g69) rfl ?_
      refine aw_iload_n (npc := 18) rfl dX8_thinks_17 rfl ?_
      refine aw_iald (npc := 19) (x := 1) (j := 18) dX8_thinks_18 rfl (am_ne (by decide) g70) ⟨by decide, by decide⟩ rfl ?_
      refine aw_iast (npc := 20) (j := 18) dX8_thinks_19 rfl am_eq ⟨by decide, by decide⟩ (Nat.le_of_ble_eq_true rfl) am_uu ?_
      refine aw_iinc (npc := 23) (v := 19) (L' := [some (.ref 69), some (.int 19)]) dX8_thinks_20 rfl rfl (by decide) (by decide) rfl rfl ?_
      refine aw_goto (npc := 2) dX8_thinks_23 (by decide) ?_
      refine aw_iload_n (npc := 3) rfl dX8_thinks_2 rfl ?_
      refine aw_bipush (npc := 5) (v := 62) (by decide) dX8_thinks_3 rfl ?_
      refine aw_icmp_ge (npc := 8) (tgt := 26) dX8_thinks_5 rfl (by decide) (fun hc => absurd hc (by decide)) (fun _ => ?_)
      refine aw_aload_n (npc := 9) rfl dX8_thinks_8 rfl ?_
      refine aw_get (npc := 12) dX8_thinks_9 rfl kf_X8_26 (am_ne (by decide) g69) rfl ?_
      refine aw_iload_n (npc := 13) rfl dX8_thinks_12 rfl ?_
      refine aw_aload_n (npc := 14) rfl dX8_thinks_13 rfl ?_
      refine aw_get (npc := 17) dX8_thinks_14 rfl kf_X8_9 (am_ne (by decide) g69) rfl ?_
      refine aw_iload_n (npc := 18) rfl dX8_thinks_17 rfl ?_
      refine aw_iald (npc := 19) (x := 1) (j := 19) dX8_thinks_18 rfl (am_ne (by decide) g70) ⟨by decide, by decide⟩ rfl ?_
      refine aw_iast (npc := 20) (j := 19) dX8_thinks_19 rfl am_eq ⟨by decide, by decide⟩ (Nat.le_of_ble_eq_true rfl) am_uu ?_
      refine aw_iinc (npc := 23) (v := 20) (L' := [some (.ref 69), some (.int 20)]) dX8_thinks_20 rfl rfl (by decide) (by decide) rfl rfl ?_
      refine aw_goto (npc := 2) dX8_thinks_23 (by decide) ?_
      refine aw_iload_n (npc := 3) rfl dX8_thinks_2 rfl ?_
      refine aw_bipush (npc := 5) (v := 62) (by decide) dX8_thinks_3 rfl ?_
      refine aw_icmp_ge (npc := 8) (tgt := 26) dX8_thinks_5 rfl (by decide) (fun hc => absurd hc (by decide)) (fun _ => ?_)
      refine aw_aload_n (npc := 9) rfl dX8_thinks_8 rfl ?_
      refine aw_get (npc := 12) dX8_thinks_9 rfl kf_X8_26 (am_ne (by decide) g69) rfl ?_
      refine aw_iload_n (npc := 13) rfl dX8_thinks_12 rfl ?_
      refine aw_aload_n (npc := 14) rfl dX8_thinks_13 rfl ?_
      refine aw_get (npc := 17) dX8_thinks_14 rfl kf_X8_9 (am_ne (by decide) g69) rfl ?_
      refine aw_iload_n (npc := 18) rfl dX8_thinks_17 rfl ?_
      refine aw_iald (npc := 19) (x := 20) (j := 20) dX8_thinks_18 rfl (am_ne (by decide) g70) ⟨by decide, by decide⟩ rfl ?_
      refine aw_iast (npc := 20) (j := 20) dX8_thinks_19 rfl am_eq ⟨by decide, by decide⟩ (Nat.le_of_ble_eq_true rfl) am_uu ?_
      refine aw_iinc (npc := 23) (v := 21) (L' := [some (.ref 69), some (.int 21)]) dX8_thinks_20 rfl rfl (by decide) (by decide) rfl rfl ?_
      refine aw_goto (npc := 2) dX8_thinks_23 (by decide) ?_
      refine aw_iload_n (npc := 3) rfl dX8_thinks_2 rfl ?_
      refine aw_bipush (npc := 5) (v := 62) (by decide) dX8_thinks_3 rfl ?_
      refine aw_icmp_ge (npc := 8) (tgt := 26) dX8_thinks_5 rfl (by decide) (fun hc => absurd hc (by decide)) (fun _ => ?_)
      refine aw_aload_n (npc := 9) rfl dX8_thinks_8 rfl ?_
      refine aw_get (npc := 12) dX8_thinks_9 rfl kf_X8_26 (am_ne (by decide) g69) rfl ?_
      refine aw_iload_n (npc := 13) rfl dX8_thinks_12 rfl ?_
      refine aw_aload_n (npc := 14) rfl dX8_thinks_13 rfl ?_
      refine aw_get (npc := 17) dX8_thinks_14 rfl kf_X8_9 (am_ne (by decide) g69) rfl ?_
      refine aw_iload_n (npc := 18) rfl dX8_thinks_17 rfl ?_
      refine aw_iald (npc := 19) (x := 20) (j := 21) dX8_thinks_18 rfl (am_ne (by decide) g70) ⟨by decide, by decide⟩ rfl ?_
      refine aw_iast (npc := 20) (j := 21) dX8_thinks_19 rfl am_eq ⟨by decide, by decide⟩ (Nat.le_of_ble_eq_true rfl) am_uu ?_
      refine aw_iinc (npc := 23) (v := 22) (L' := [some (.ref 69), some (.int 22)]) dX8_thinks_20 rfl rfl (by decide) (by decide) rfl rfl ?_
      refine aw_goto (npc := 2) dX8_thinks_23 (by decide) ?_
      refine aw_iload_n (npc := 3) rfl dX8_thinks_2 rfl ?_
      refine aw_bipush (npc := 5) (v := 62) (by decide) dX8_thinks_3 rfl ?_
      refine aw_icmp_ge (npc := 8) (tgt := 26) dX8_thinks_5 rfl (by decide) (fun hc => absurd hc (by decide)) (fun _ => ?_)
      refine aw_aload_n (npc := 9) rfl dX8_thinks_8 rfl ?_
      refine aw_get (npc := 12) dX8_thinks_9 rfl kf_X8_26 (am_ne (by decide) g69) rfl ?_
      refine aw_iload_n (npc := 13) rfl dX8_thinks_12 rfl ?_
      refine aw_aload_n (npc := 14) rfl dX8_thinks_13 rfl ?_
      refine aw_get (npc := 17) dX8_thinks_14 rfl kf_X8_9 (am_ne (by decide) g69) rfl ?_
      refine aw_iload_n (npc := 18) rfl dX8_thinks_17 rfl ?_
      refine aw_iald (npc := 19) (x := 0) (j := 22) dX8_thinks_18 rfl (am_ne (by decide) g70) ⟨by decide, by decide⟩ rfl ?_
      refine aw_iast (npc := 20) (j := 22) dX8_thinks_19 rfl am_eq ⟨by decide, by decide⟩ (Nat.le_of_ble_eq_true rfl) am_uu ?_
      refine aw_iinc (npc := 23) (v := 23) (L' := [some (.ref 69), some (.int 23)]) dX8_thinks_20 rfl rfl (by decide) (by decide) rfl rfl ?_
      refine aw_goto (npc := 2) dX8_thinks_23 (by decide) ?_
      refine aw_iload_n (npc := 3) rfl dX8_thinks_2 rfl ?_
      refine aw_bipush (npc := 5) (v := 62) (by decide) dX8_thinks_3 rfl ?_
      refine aw_icmp_ge (npc := 8) (tgt := 26) dX8_thinks_5 rfl (by decide) (fun hc => absurd hc (by decide)) (fun _ => ?_)
      refine aw_aload_n (npc := 9) rfl dX8_thinks_8 rfl ?_
      refine aw_get (npc := 12) dX8_thinks_9 rfl kf_X8_26 (am_ne (by decide) g69) rfl ?_
      refine aw_iload_n (npc := 13) rfl dX8_thinks_12 rfl ?_
      refine aw_aload_n (npc := 14) rfl dX8_thinks_13 rfl ?_
      refine aw_get (npc := 17) dX8_thinks_14 rfl kf_X8_9 (am_ne (by decide) g69) rfl ?_
      refine aw_iload_n (npc := 18) rfl dX8_thinks_17 rfl ?_
      refine aw_iald (npc := 19) (x := 0) (j := 23) dX8_thinks_18 rfl (am_ne (by decide) g70) ⟨by decide, by decide⟩ rfl ?_
      refine aw_iast (npc := 20) (j := 23) dX8_thinks_19 rfl am_eq ⟨by decide, by decide⟩ (Nat.le_of_ble_eq_true rfl) am_uu ?_
      refine aw_iinc (npc := 23) (v := 24) (L' := [some (.ref 69), some (.int 24)]) dX8_thinks_20 rfl rfl (by decide) (by decide) rfl rfl ?_
      refine aw_goto (npc := 2) dX8_thinks_23 (by decide) ?_
      refine aw_iload_n (npc := 3) rfl dX8_thinks_2 rfl ?_
      refine aw_bipush (npc := 5) (v := 62) (by decide) dX8_thinks_3 rfl ?_
      refine aw_icmp_ge (npc := 8) (tgt := 26) dX8_thinks_5 rfl (by decide) (fun hc => absurd hc (by decide)) (fun _ => ?_)
      refine aw_aload_n (npc := 9) rfl dX8_thinks_8 rfl ?_
      refine aw_get (npc := 12) dX8_thinks_9 rfl kf_X8_26 (am_ne (by decide) g69) rfl ?_
      refine aw_iload_n (npc := 13) rfl dX8_thinks_12 rfl ?_
      refine aw_aload_n (npc := 14) rfl dX8_thinks_13 rfl ?_
      refine aw_get (npc := 17) dX8_thinks_14 rfl kf_X8_9 (am_ne (by decide) g69) rfl ?_
      refine aw_iload_n (npc := 18) rfl dX8_thinks_17 rfl ?_
      refine aw_iald (npc := 19) (x := 0) (j := 24) dX8_thinks_18 rfl (am_ne (by decide) g70) ⟨by decide, by decide⟩ rfl ?_
      refine aw_iast (npc := 20) (j := 24) dX8_thinks_19 rfl am_eq ⟨by decide, by decide⟩ (Nat.le_of_ble_eq_true rfl) am_uu ?_
      refine aw_iinc (npc := 23) (v := 25) (L' := [some (.ref 69), some (.int 25)]) dX8_thinks_20 rfl rfl (by decide) (by decide) rfl rfl ?_
      refine aw_goto (npc := 2) dX8_thinks_23 (by decide) ?_
      refine aw_iload_n (npc := 3) rfl dX8_thinks_2 rfl ?_
      refine aw_bipush (npc := 5) (v := 62) (by decide) dX8_thinks_3 rfl ?_
      refine aw_icmp_ge (npc := 8) (tgt := 26) dX8_thinks_5 rfl (by decide) (fun hc => absurd hc (by decide)) (fun _ => ?_)
      refine aw_aload_n (npc := 9) rfl dX8_thinks_8 rfl ?_
      refine aw_get (npc := 12) dX8_thinks_9 rfl kf_X8_26 (am_ne (by decide) g69) rfl ?_
      refine aw_iload_n (npc := 13) rfl dX8_thinks_12 rfl ?_
      refine aw_aload_n (npc := 14) rfl dX8_thinks_13 rfl ?_
      refine aw_get (npc := 17) dX8_thinks_14 rfl kf_X8_9 (am_ne (by decide) g69) rfl ?_
      refine aw_iload_n (npc := 18) rfl dX8_thinks_17 rfl ?_
      refine aw_iald (npc := 19) (x := 0) (j := 25) dX8_thinks_18 rfl (am_ne (by decide) g70) ⟨by decide, by decide⟩ rfl ?_
      refine aw_iast (npc := 20) (j := 25) dX8_thinks_19 rfl am_eq ⟨by decide, by decide⟩ (Nat.le_of_ble_eq_true rfl) am_uu ?_
      refine aw_iinc (npc := 23) (v := 26) (L' := [some (.ref 69), some (.int 26)]) dX8_thinks_20 rfl rfl (by decide) (by decide) rfl rfl ?_
      refine aw_goto (npc := 2) dX8_thinks_23 (by decide) ?_
      refine aw_iload_n (npc := 3) rfl dX8_thinks_2 rfl ?_
      refine aw_bipush (npc := 5) (v := 62) (by decide) dX8_thinks_3 rfl ?_
      refine aw_icmp_ge (npc := 8) (tgt := 26) dX8_thinks_5 rfl (by decide) (fun hc => absurd hc (by decide)) (fun _ => ?_)
      refine aw_aload_n (npc := 9) rfl dX8_thinks_8 rfl ?_
      refine aw_get (npc := 12) dX8_thinks_9 rfl kf_X8_26 (am_ne (by decide) g69) rfl ?_
      refine aw_iload_n (npc := 13) rfl dX8_thinks_12 rfl ?_
      refine aw_aload_n (npc := 14) rfl dX8_thinks_13 rfl ?_
      refine aw_get (npc := 17) dX8_thinks_14 rfl kf_X8_9 (am_ne (by decide) g69) rfl ?_
      refine aw_iload_n (npc := 18) rfl dX8_thinks_17 rfl ?_
      refine aw_iald (npc := 19) (x := 0) (j := 26) dX8_thinks_18 rfl (am_ne (by decide) g70) ⟨by decide, by decide⟩ rfl ?_
      refine aw_iast (npc := 20) (j := 26) dX8_thinks_19 rfl am_eq ⟨by decide, by decide⟩ (Nat.le_of_ble_eq_true rfl) am_uu ?_
      refine aw_iinc (npc := 23) (v := 27) (L' := [some (.ref 69), some (.int 27)]) dX8_thinks_20 rfl rfl (by decide) (by decide) rfl rfl ?_
      refine aw_goto (npc := 2) dX8_thinks_23 (by decide) ?_
      refine aw_iload_n (npc := 3) rfl dX8_thinks_2 rfl ?_
      refine aw_bipush (npc := 5) (v := 62) (by decide) dX8_thinks_3 rfl ?_
      refine aw_icmp_ge (npc := 8) (tgt := 26) dX8_thinks_5 rfl (by decide) (fun hc => absurd hc (by decide)) (fun _ => ?_)
      refine aw_aload_n (npc := 9) rfl dX8_thinks_8 rfl ?_
      refine aw_get (npc := 12) dX8_thinks_9 rfl kf_X8_26 (am_ne (by decide) g69) rfl ?_
      refine aw_iload_n (npc := 13) rfl dX8_thinks_12 rfl ?_
      refine aw_aload_n (npc := 14) rfl dX8_thinks_13 rfl ?_
      refine aw_get (npc := 17) dX8_thinks_14 rfl kf_X8_9 (am_ne (by decide) g69) rfl ?_
      refine aw_iload_n (npc := 18) rfl dX8_thinks_17 rfl ?_
      refine aw_iald (npc := 19) (x := 0) (j := 27) dX8_thinks_18 rfl (am_ne (by decide) g70) ⟨by decide, by decide⟩ rfl ?_
      refine aw_iast (npc := 20) (j := 27) dX8_thinks_19 rfl am_eq ⟨by decide, by decide⟩ (Nat.le_of_ble_eq_true rfl) am_uu ?_
      refine aw_iinc (npc := 23) (v := 28) (L' := [some (.ref 69), some (.int 28)]) dX8_thinks_20 rfl rfl (by decide) (by decide) rfl rfl ?_
      refine aw_goto (npc := 2) dX8_thinks_23 (by decide) ?_
      refine aw_iload_n (npc := 3) rfl dX8_thinks_2 rfl ?_
      refine aw_bipush (npc := 5) (v := 62) (by decide) dX8_thinks_3 rfl ?_
      refine aw_icmp_ge (npc := 8) (tgt := 26) dX8_thinks_5 rfl (by decide) (fun hc => absurd hc (by decide)) (fun _ => ?_)
      refine aw_aload_n (npc := 9) rfl dX8_thinks_8 rfl ?_
      refine aw_get (npc := 12) dX8_thinks_9 rfl kf_X8_26 (am_ne (by decide) g69) rfl ?_
      refine aw_iload_n (npc := 13) rfl dX8_thinks_12 rfl ?_
      refine aw_aload_n (npc := 14) rfl dX8_thinks_13 rfl ?_
      refine aw_get (npc := 17) dX8_thinks_14 rfl kf_X8_9 (am_ne (by decide) g69) rfl ?_
      refine aw_iload_n (npc := 18) rfl dX8_thinks_17 rfl ?_
      refine aw_iald (npc := 19) (x := 0) (j := 28) dX8_thinks_18 rfl (am_ne (by decide) g70) ⟨by decide, by decide⟩ rfl ?_
      refine aw_iast (npc := 20) (j := 28) dX8_thinks_19 rfl am_eq ⟨by decide, by decide⟩ (Nat.le_of_ble_eq_true rfl) am_uu ?_
      refine aw_iinc (npc := 23) (v := 29) (L' := [some (.ref 69), some (.int 29)]) dX8_thinks_20 rfl rfl (by decide) (by decide) rfl rfl ?_
      refine aw_goto (npc := 2) dX8_thinks_23 (by decide) ?_
      refine aw_iload_n (npc := 3) rfl dX8_thinks_2 rfl ?_
      refine aw_bipush (npc := 5) (v := 62) (by decide) dX8_thinks_3 rfl ?_
      refine aw_icmp_ge (npc := 8) (tgt := 26) dX8_thinks_5 rfl (by decide) (fun hc => absurd hc (by decide)) (fun _ => ?_)
      refine aw_aload_n (npc := 9) rfl dX8_thinks_8 rfl ?_
      refine aw_get (npc := 12) dX8_thinks_9 rfl kf_X8_26 (am_ne (by decide) g69) rfl ?_
      refine aw_iload_n (npc := 13) rfl dX8_thinks_12 rfl ?_
      refine aw_aload_n (npc := 14) rfl dX8_thinks_13 rfl ?_
      refine aw_get (npc := 17) dX8_thinks_14 rfl kf_X8_9 (am_ne (by decide) g69) rfl ?_
      refine aw_iload_n (npc := 18) rfl dX8_thinks_17 rfl ?_
      refine aw_iald (npc := 19) (x := 0) (j := 29) dX8_thinks_18 rfl (am_ne (by decide) g70) ⟨by decide, by decide⟩ rfl ?_
      refine aw_iast (npc := 20) (j := 29) dX8_thinks_19 rfl am_eq ⟨by decide, by decide⟩ (Nat.le_of_ble_eq_true rfl) am_uu ?_
      refine aw_iinc (npc := 23) (v := 30) (L' := [some (.ref 69), some (.int 30)]) dX8_thinks_20 rfl rfl (by decide) (by decide) rfl rfl ?_
      refine aw_goto (npc := 2) dX8_thinks_23 (by decide) ?_
      refine aw_iload_n (npc := 3) rfl dX8_thinks_2 rfl ?_
      refine aw_bipush (npc := 5) (v := 62) (by decide) dX8_thinks_3 rfl ?_
      refine aw_icmp_ge (npc := 8) (tgt := 26) dX8_thinks_5 rfl (by decide) (fun hc => absurd hc (by decide)) (fun _ => ?_)
      refine aw_aload_n (npc := 9) rfl dX8_thinks_8 rfl ?_
      refine aw_get (npc := 12) dX8_thinks_9 rfl kf_X8_26 (am_ne (by decide) g69) rfl ?_
      refine aw_iload_n (npc := 13) rfl dX8_thinks_12 rfl ?_
      refine aw_aload_n (npc := 14) rfl dX8_thinks_13 rfl ?_
      refine aw_get (npc := 17) dX8_thinks_14 rfl kf_X8_9 (am_ne (by decide) g69) rfl ?_
      refine aw_iload_n (npc := 18) rfl dX8_thinks_17 rfl ?_
      refine aw_iald (npc := 19) (x := 0) (j := 30) dX8_thinks_18 rfl (am_ne (by decide) g70) ⟨by decide, by decide⟩ rfl ?_
      refine aw_iast (npc := 20) (j := 30) dX8_thinks_19 rfl am_eq ⟨by decide, by decide⟩ (Nat.le_of_ble_eq_true rfl) am_uu ?_
      refine aw_iinc (npc := 23) (v := 31) (L' := [some (.ref 69), some (.int 31)]) dX8_thinks_20 rfl rfl (by decide) (by decide) rfl rfl ?_
      refine aw_goto (npc := 2) dX8_thinks_23 (by decide) ?_
      refine aw_iload_n (npc := 3) rfl dX8_thinks_2 rfl ?_
      refine aw_bipush (npc := 5) (v := 62) (by decide) dX8_thinks_3 rfl ?_
      refine aw_icmp_ge (npc := 8) (tgt := 26) dX8_thinks_5 rfl (by decide) (fun hc => absurd hc (by decide)) (fun _ => ?_)
      refine aw_aload_n (npc := 9) rfl dX8_thinks_8 rfl ?_
      refine aw_get (npc := 12) dX8_thinks_9 rfl kf_X8_26 (am_ne (by decide) g69) rfl ?_
      refine aw_iload_n (npc := 13) rfl dX8_thinks_12 rfl ?_
      refine aw_aload_n (npc := 14) rfl dX8_thinks_13 rfl ?_
      refine aw_get (npc := 17) dX8_thinks_14 rfl kf_X8_9 (am_ne (by decide) g69) rfl ?_
      refine aw_iload_n (npc := 18) rfl dX8_thinks_17 rfl ?_
      refine aw_iald (npc := 19) (x := 0) (j := 31) dX8_thinks_18 rfl (am_ne (by decide) g70) ⟨by decide, by decide⟩ rfl ?_
      refine aw_iast (npc := 20) (j := 31) dX8_thinks_19 rfl am_eq ⟨by decide, by decide⟩ (Nat.le_of_ble_eq_true rfl) am_uu ?_
      refine aw_iinc (npc := 23) (v := 32) (L' := [some (.ref 69), some (.int 32)]) dX8_thinks_20 rfl rfl (by decide) (by decide) rfl rfl ?_
      refine aw_goto (npc := 2) dX8_thinks_23 (by decide) ?_
      refine aw_iload_n (npc := 3) rfl dX8_thinks_2 rfl ?_
      refine aw_bipush (npc := 5) (v := 62) (by decide) dX8_thinks_3 rfl ?_
      refine aw_icmp_ge (npc := 8) (tgt := 26) dX8_thinks_5 rfl (by decide) (fun hc => absurd hc (by decide)) (fun _ => ?_)
      refine aw_aload_n (npc := 9) rfl dX8_thinks_8 rfl ?_
      refine aw_get (npc := 12) dX8_thinks_9 rfl kf_X8_26 (am_ne (by decide) g69) rfl ?_
      refine aw_iload_n (npc := 13) rfl dX8_thinks_12 rfl ?_
      refine aw_aload_n (npc := 14) rfl dX8_thinks_13 rfl ?_
      refine aw_get (npc := 17) dX8_thinks_14 rfl kf_X8_9 (am_ne (by decide) g69) rfl ?_
      refine aw_iload_n (npc := 18) rfl dX8_thinks_17 rfl ?_
      refine aw_iald (npc := 19) (x := 0) (j := 32) dX8_thinks_18 rfl (am_ne (by decide) g70) ⟨by decide, by decide⟩ rfl ?_
      refine aw_iast (npc := 20) (j := 32) dX8_thinks_19 rfl am_eq ⟨by decide, by decide⟩ (Nat.le_of_ble_eq_true rfl) am_uu ?_
      refine aw_iinc (npc := 23) (v := 33) (L' := [some (.ref 69), some (.int 33)]) dX8_thinks_20 rfl rfl (by decide) (by decide) rfl rfl ?_
      refine aw_goto (npc := 2) dX8_thinks_23 (by decide) ?_
      refine aw_iload_n (npc := 3) rfl dX8_thinks_2 rfl ?_
      refine aw_bipush (npc := 5) (v := 62) (by decide) dX8_thinks_3 rfl ?_
      refine aw_icmp_ge (npc := 8) (tgt := 26) dX8_thinks_5 rfl (by decide) (fun hc => absurd hc (by decide)) (fun _ => ?_)
      refine aw_aload_n (npc := 9) rfl dX8_thinks_8 rfl ?_
      refine aw_get (npc := 12) dX8_thinks_9 rfl kf_X8_26 (am_ne (by decide) g69) rfl ?_
      refine aw_iload_n (npc := 13) rfl dX8_thinks_12 rfl ?_
      refine aw_aload_n (npc := 14) rfl dX8_thinks_13 rfl ?_
      refine aw_get (npc := 17) dX8_thinks_14 rfl kf_X8_9 (am_ne (by decide) g69) rfl ?_
      refine aw_iload_n (npc := 18) rfl dX8_thinks_17 rfl ?_
      refine aw_iald (npc := 19) (x := 0) (j := 33) dX8_thinks_18 rfl (am_ne (by decide) g70) ⟨by decide, by decide⟩ rfl ?_
      refine aw_iast (npc := 20) (j := 33) dX8_thinks_19 rfl am_eq ⟨by decide, by decide⟩ (Nat.le_of_ble_eq_true rfl) am_uu ?_
      refine aw_iinc (npc := 23) (v := 34) (L' := [some (.ref 69), some (.int 34)]) dX8_thinks_20 rfl rfl (by decide) (by decide) rfl rfl ?_
      refine aw_goto (npc := 2) dX8_thinks_23 (by decide) ?_
      refine aw_iload_n (npc := 3) rfl dX8_thinks_2 rfl ?_
      refine aw_bipush (npc := 5) (v := 62) (by decide) dX8_thinks_3 rfl ?_
      refine aw_icmp_ge (npc := 8) (tgt := 26) dX8_thinks_5 rfl (by decide) (fun hc => absurd hc (by decide)) (fun _ => ?_)
      refine aw_aload_n (npc := 9) rfl dX8_thinks_8 rfl ?_
      refine aw_get (npc := 12) dX8_thinks_9 rfl kf_X8_26 (am_ne (by decide) g69) rfl ?_
      refine aw_iload_n (npc := 13) rfl dX8_thinks_12 rfl ?_
      refine aw_aload_n (npc := 14) rfl dX8_thinks_13 rfl ?_
      refine aw_get (npc := 17) dX8_thinks_14 rfl kf_X8_9 (am_ne (by decide) g69) rfl ?_
      refine aw_iload_n (npc := 18) rfl dX8_thinks_17 rfl ?_
      refine aw_iald (npc := 19) (x := 0) (j := 34) dX8_thinks_18 rfl (am_ne (by decide) g70) ⟨by decide, by decide⟩ rfl ?_
      refine aw_iast (npc := 20) (j := 34) dX8_thinks_19 rfl am_eq ⟨by decide, by decide⟩ (Nat.le_of_ble_eq_true rfl) am_uu ?_
      refine aw_iinc (npc := 23) (v := 35) (L' := [some (.ref 69), some (.int 35)]) dX8_thinks_20 rfl rfl (by decide) (by decide) rfl rfl ?_
      refine aw_goto (npc := 2) dX8_thinks_23 (by decide) ?_
      refine aw_iload_n (npc := 3) rfl dX8_thinks_2 rfl ?_
      refine aw_bipush (npc := 5) (v := 62) (by decide) dX8_thinks_3 rfl ?_
      refine aw_icmp_ge (npc := 8) (tgt := 26) dX8_thinks_5 rfl (by decide) (fun hc => absurd hc (by decide)) (fun _ => ?_)
      refine aw_aload_n (npc := 9) rfl dX8_thinks_8 rfl ?_
      refine aw_get (npc := 12) dX8_thinks_9 rfl kf_X8_26 (am_ne (by decide) g69) rfl ?_
      refine aw_iload_n (npc := 13) rfl dX8_thinks_12 rfl ?_
      refine aw_aload_n (npc := 14) rfl dX8_thinks_13 rfl ?_
      refine aw_get (npc := 17) dX8_thinks_14 rfl kf_X8_9 (am_ne (by decide) g69) rfl ?_
      refine aw_iload_n (npc := 18) rfl dX8_thinks_17 rfl ?_
      refine aw_iald (npc := 19) (x := 0) (j := 35) dX8_thinks_18 rfl (am_ne (by decide) g70) ⟨by decide, by decide⟩ rfl ?_
      refine aw_iast (npc := 20) (j := 35) dX8_thinks_19 rfl am_eq ⟨by decide, by decide⟩ (Nat.le_of_ble_eq_true rfl) am_uu ?_
      refine aw_iinc (npc := 23) (v := 36) (L' := [some (.ref 69), some (.int 36)]) dX8_thinks_20 rfl rfl (by decide) (by decide) rfl rfl ?_
      refine aw_goto (npc := 2) dX8_thinks_23 (by decide) ?_
      refine aw_iload_n (npc := 3) rfl dX8_thinks_2 rfl ?_
      refine aw_bipush (npc := 5) (v := 62) (by decide) dX8_thinks_3 rfl ?_
      refine aw_icmp_ge (npc := 8) (tgt := 26) dX8_thinks_5 rfl (by decide) (fun hc => absurd hc (by decide)) (fun _ => ?_)
      refine aw_aload_n (npc := 9) rfl dX8_thinks_8 rfl ?_
      refine aw_get (npc := 12) dX8_thinks_9 rfl kf_X8_26 (am_ne (by decide) g69) rfl ?_
      refine aw_iload_n (npc := 13) rfl dX8_thinks_12 rfl ?_
      refine aw_aload_n (npc := 14) rfl dX8_thinks_13 rfl ?_
      refine aw_get (npc := 17) dX8_thinks_14 rfl kf_X8_9 (am_ne (by decide) g69) rfl ?_
      refine aw_iload_n (npc := 18) rfl dX8_thinks_17 rfl ?_
      refine aw_iald (npc := 19) (x := 0) (j := 36) dX8_thinks_18 rfl (am_ne (by decide) g70) ⟨by decide, by decide⟩ rfl ?_
      refine aw_iast (npc := 20) (j := 36) dX8_thinks_19 rfl am_eq ⟨by decide, by decide⟩ (Nat.le_of_ble_eq_true rfl) am_uu ?_
      refine aw_iinc (npc := 23) (v := 37) (L' := [some (.ref 69), some (.int 37)]) dX8_thinks_20 rfl rfl (by decide) (by decide) rfl rfl ?_
      refine aw_goto (npc := 2) dX8_thinks_23 (by decide) ?_
      refine aw_iload_n (npc := 3) rfl dX8_thinks_2 rfl ?_
      refine aw_bipush (npc := 5) (v := 62) (by decide) dX8_thinks_3 rfl ?_
      refine aw_icmp_ge (npc := 8) (tgt := 26) dX8_thinks_5 rfl (by decide) (fun hc => absurd hc (by decide)) (fun _ => ?_)
      refine aw_aload_n (npc := 9) rfl dX8_thinks_8 rfl ?_
      refine aw_get (npc := 12) dX8_thinks_9 rfl kf_X8_26 (am_ne (by decide) g69) rfl ?_
      refine aw_iload_n (npc := 13) rfl dX8_thinks_12 rfl ?_
      refine aw_aload_n (npc := 14) rfl dX8_thinks_13 rfl ?_
      refine aw_get (npc := 17) dX8_thinks_14 rfl kf_X8_9 (am_ne (by decide) g69) rfl ?_
      refine aw_iload_n (npc := 18) rfl dX8_thinks_17 rfl ?_
      refine aw_iald (npc := 19) (x := 0) (j := 37) dX8_thinks_18 rfl (am_ne (by decide) g70) ⟨by decide, by decide⟩ rfl ?_
      refine aw_iast (npc := 20) (j := 37) dX8_thinks_19 rfl am_eq ⟨by decide, by decide⟩ (Nat.le_of_ble_eq_true rfl) am_uu ?_
      refine aw_iinc (npc := 23) (v := 38) (L' := [some (.ref 69), some (.int 38)]) dX8_thinks_20 rfl rfl (by decide) (by decide) rfl rfl ?_
      refine aw_goto (npc := 2) dX8_thinks_23 (by decide) ?_
      refine aw_iload_n (npc := 3) rfl dX8_thinks_2 rfl ?_
      refine aw_bipush (npc := 5) (v := 62) (by decide) dX8_thinks_3 rfl ?_
      refine aw_icmp_ge (npc := 8) (tgt := 26) dX8_thinks_5 rfl (by decide) (fun hc => absurd hc (by decide)) (fun _ => ?_)
      refine aw_aload_n (npc := 9) rfl dX8_thinks_8 rfl ?_
      refine aw_get (npc := 12) dX8_thinks_9 rfl kf_X8_26 (am_ne (by decide) g69) rfl ?_
      refine aw_iload_n (npc := 13) rfl dX8_thinks_12 rfl ?_
      refine aw_aload_n (npc := 14) rfl dX8_thinks_13 rfl ?_
      refine aw_get (npc := 17) dX8_thinks_14 rfl kf_X8_9 (am_ne (by decide) g69) rfl ?_
      refine aw_iload_n (npc := 18) rfl dX8_thinks_17 rfl ?_
      refine aw_iald (npc := 19) (x := 0) (j := 38) dX8_thinks_18 rfl (am_ne (by decide) g70) ⟨by decide, by decide⟩ rfl ?_
      refine aw_iast (npc := 20) (j := 38) dX8_thinks_19 rfl am_eq ⟨by decide, by decide⟩ (Nat.le_of_ble_eq_true rfl) am_uu ?_
      refine aw_iinc (npc := 23) (v := 39) (L' := [some (.ref 69), some (.int 39)]) dX8_thinks_20 rfl rfl (by decide) (by decide) rfl rfl ?_
      refine aw_goto (npc := 2) dX8_thinks_23 (by decide) ?_
      refine aw_iload_n (npc := 3) rfl dX8_thinks_2 rfl ?_
      refine aw_bipush (npc := 5) (v := 62) (by decide) dX8_thinks_3 rfl ?_
      refine aw_icmp_ge (npc := 8) (tgt := 26) dX8_thinks_5 rfl (by decide) (fun hc => absurd hc (by decide)) (fun _ => ?_)
      refine aw_aload_n (npc := 9) rfl dX8_thinks_8 rfl ?_
      refine aw_get (npc := 12) dX8_thinks_9 rfl kf_X8_26 (am_ne (by decide) g69) rfl ?_
      refine aw_iload_n (npc := 13) rfl dX8_thinks_12 rfl ?_
      refine aw_aload_n (npc := 14) rfl dX8_thinks_13 rfl ?_
      refine aw_get (npc := 17) dX8_thinks_14 rfl kf_X8_9 (am_ne (by decide) g69) rfl ?_
      refine aw_iload_n (npc := 18) rfl dX8_thinks_17 rfl ?_
      refine aw_iald (npc := 19) (x := 0) (j := 39) dX8_thinks_18 rfl (am_ne (by decide) g70) ⟨by decide, by decide⟩ rfl ?_
      refine aw_iast (npc := 20) (j := 39) dX8_thinks_19 rfl am_eq ⟨by decide, by decide⟩ (Nat.le_of_ble_eq_true rfl) am_uu ?_
      refine aw_iinc (npc := 23) (v := 40) (L' := [some (.ref 69), some (.int 40)]) dX8_thinks_20 rfl rfl (by decide) (by decide) rfl rfl ?_
      refine aw_goto (npc := 2) dX8_thinks_23 (by decide) ?_
      refine aw_iload_n (npc := 3) rfl dX8_thinks_2 rfl ?_
      refine aw_bipush (npc := 5) (v := 62) (by decide) dX8_thinks_3 rfl ?_
      refine aw_icmp_ge (npc := 8) (tgt := 26) dX8_thinks_5 rfl (by decide) (fun hc => absurd hc (by decide)) (fun _ => ?_)
      refine aw_aload_n (npc := 9) rfl dX8_thinks_8 rfl ?_
      refine aw_get (npc := 12) dX8_thinks_9 rfl kf_X8_26 (am_ne (by decide) g69) rfl ?_
      refine aw_iload_n (npc := 13) rfl dX8_thinks_12 rfl ?_
      refine aw_aload_n (npc := 14) rfl dX8_thinks_13 rfl ?_
      refine aw_get (npc := 17) dX8_thinks_14 rfl kf_X8_9 (am_ne (by decide) g69) rfl ?_
      refine aw_iload_n (npc := 18) rfl dX8_thinks_17 rfl ?_
      refine aw_iald (npc := 19) (x := 0) (j := 40) dX8_thinks_18 rfl (am_ne (by decide) g70) ⟨by decide, by decide⟩ rfl ?_
      refine aw_iast (npc := 20) (j := 40) dX8_thinks_19 rfl am_eq ⟨by decide, by decide⟩ (Nat.le_of_ble_eq_true rfl) am_uu ?_
      refine aw_iinc (npc := 23) (v := 41) (L' := [some (.ref 69), some (.int 41)]) dX8_thinks_20 rfl rfl (by decide) (by decide) rfl rfl ?_
      refine aw_goto (npc := 2) dX8_thinks_23 (by decide) ?_
      refine aw_iload_n (npc := 3) rfl dX8_thinks_2 rfl ?_
      refine aw_bipush (npc := 5) (v := 62) (by decide) dX8_thinks_3 rfl ?_
      refine aw_icmp_ge (npc := 8) (tgt := 26) dX8_thinks_5 rfl (by decide) (fun hc => absurd hc (by decide)) (fun _ => ?_)
      refine aw_aload_n (npc := 9) rfl dX8_thinks_8 rfl ?_
      refine aw_get (npc := 12) dX8_thinks_9 rfl kf_X8_26 (am_ne (by decide) g69) rfl ?_
      refine aw_iload_n (npc := 13) rfl dX8_thinks_12 rfl ?_
      refine aw_aload_n (npc := 14) rfl dX8_thinks_13 rfl ?_
      refine aw_get (npc := 17) dX8_thinks_14 rfl kf_X8_9 (am_ne (by decide) g69) rfl ?_
      refine aw_iload_n (npc := 18) rfl dX8_thinks_17 rfl ?_
      refine aw_iald (npc := 19) (x := 0) (j := 41) dX8_thinks_18 rfl (am_ne (by decide) g70) ⟨by decide, by decide⟩ rfl ?_
      refine aw_iast (npc := 20) (j := 41) dX8_thinks_19 rfl am_eq ⟨by decide, by decide⟩ (Nat.le_of_ble_eq_true rfl) am_uu ?_
      refine aw_iinc (npc := 23) (v := 42) (L' := [some (.ref 69), some (.int 42)]) dX8_thinks_20 rfl rfl (by decide) (by decide) rfl rfl ?_
      refine aw_goto (npc := 2) dX8_thinks_23 (by decide) ?_
      refine aw_iload_n (npc := 3) rfl dX8_thinks_2 rfl ?_
      refine aw_bipush (npc := 5) (v := 62) (by decide) dX8_thinks_3 rfl ?_
      refine aw_icmp_ge (npc := 8) (tgt := 26) dX8_thinks_5 rfl (by decide) (fun hc => absurd hc (by decide)) (fun _ => ?_)
      refine aw_aload_n (npc := 9) rfl dX8_thinks_8 rfl ?_
      refine aw_get (npc := 12) dX8_thinks_9 rfl kf_X8_26 (am_ne (by decide) g69) rfl ?_
      refine aw_iload_n (npc := 13) rfl dX8_thinks_12 rfl ?_
      refine aw_aload_n (npc := 14) rfl dX8_thinks_13 rfl ?_
      refine aw_get (npc := 17) dX8_thinks_14 rfl kf_X8_9 (am_ne (by decide) g69) rfl ?_
      refine aw_iload_n (npc := 18) rfl dX8_thinks_17 rfl ?_
      refine aw_iald (npc := 19) (x := 0) (j := 42) dX8_thinks_18 rfl (am_ne (by decide) g70) ⟨by decide, by decide⟩ rfl ?_
      refine aw_iast (npc := 20) (j := 42) dX8_thinks_19 rfl am_eq ⟨by decide, by decide⟩ (Nat.le_of_ble_eq_true rfl) am_uu ?_
      refine aw_iinc (npc := 23) (v := 43) (L' := [some (.ref 69), some (.int 43)]) dX8_thinks_20 rfl rfl (by decide) (by decide) rfl rfl ?_
      refine aw_goto (npc := 2) dX8_thinks_23 (by decide) ?_
      refine aw_iload_n (npc := 3) rfl dX8_thinks_2 rfl ?_
      refine aw_bipush (npc := 5) (v := 62) (by decide) dX8_thinks_3 rfl ?_
      refine aw_icmp_ge (npc := 8) (tgt := 26) dX8_thinks_5 rfl (by decide) (fun hc => absurd hc (by decide)) (fun _ => ?_)
      refine aw_aload_n (npc := 9) rfl dX8_thinks_8 rfl ?_
      refine aw_get (npc := 12) dX8_thinks_9 rfl kf_X8_26 (am_ne (by decide) g69) rfl ?_
      refine aw_iload_n (npc := 13) rfl dX8_thinks_12 rfl ?_
      refine aw_aload_n (npc := 14) rfl dX8_thinks_13 rfl ?_
      refine aw_get (npc := 17) dX8_thinks_14 rfl kf_X8_9 (am_ne (by decide) g69) rfl ?_
      refine aw_iload_n (npc := 18) rfl dX8_thinks_17 rfl ?_
      refine aw_iald (npc := 19) (x := 0) (j := 43) dX8_thinks_18 rfl (am_ne (by decide) g70) ⟨by decide, by decide⟩ rfl ?_
      refine aw_iast (npc := 20) (j := 43) dX8_thinks_19 rfl am_eq ⟨by decide, by decide⟩ (Nat.le_of_ble_eq_true rfl) am_uu ?_
      refine aw_iinc (npc := 23) (v := 44) (L' := [some (.ref 69), some (.int 44)]) dX8_thinks_20 rfl rfl (by decide) (by decide) rfl rfl ?_
      refine aw_goto (npc := 2) dX8_thinks_23 (by decide) ?_
      refine aw_iload_n (npc := 3) rfl dX8_thinks_2 rfl ?_
      refine aw_bipush (npc := 5) (v := 62) (by decide) dX8_thinks_3 rfl ?_
      refine aw_icmp_ge (npc := 8) (tgt := 26) dX8_thinks_5 rfl (by decide) (fun hc => absurd hc (by decide)) (fun _ => ?_)
      refine aw_aload_n (npc := 9) rfl dX8_thinks_8 rfl ?_
      refine aw_get (npc := 12) dX8_thinks_9 rfl kf_X8_26 (am_ne (by decide) g69) rfl ?_
      refine aw_iload_n (npc := 13) rfl dX8_thinks_12 rfl ?_
      refine aw_aload_n (npc := 14) rfl dX8_thinks_13 rfl ?_
      refine aw_get (npc := 17) dX8_thinks_14 rfl kf_X8_9 (am_ne (by decide) g69) rfl ?_
      refine aw_iload_n (npc := 18) rfl dX8_thinks_17 rfl ?_
      refine aw_iald (npc := 19) (x := 0) (j := 44) dX8_thinks_18 rfl (am_ne (by decide) g70) ⟨by decide, by decide⟩ rfl ?_
      refine aw_iast (npc := 20) (j := 44) dX8_thinks_19 rfl am_eq ⟨by decide, by decide⟩ (Nat.le_of_ble_eq_true rfl) am_uu ?_
      refine aw_iinc (npc := 23) (v := 45) (L' := [some (.ref 69), some (.int 45)]) dX8_thinks_20 rfl rfl (by decide) (by decide) rfl rfl ?_
      refine aw_goto (npc := 2) dX8_thinks_23 (by decide) ?_
      refine aw_iload_n (npc := 3) rfl dX8_thinks_2 rfl ?_
      refine aw_bipush (npc := 5) (v := 62) (by decide) dX8_thinks_3 rfl ?_
      refine aw_icmp_ge (npc := 8) (tgt := 26) dX8_thinks_5 rfl (by decide) (fun hc => absurd hc (by decide)) (fun _ => ?_)
      refine aw_aload_n (npc := 9) rfl dX8_thinks_8 rfl ?_
      refine aw_get (npc := 12) dX8_thinks_9 rfl kf_X8_26 (am_ne (by decide) g69) rfl ?_
      refine aw_iload_n (npc := 13) rfl dX8_thinks_12 rfl ?_
      refine aw_aload_n (npc := 14) rfl dX8_thinks_13 rfl ?_
      refine aw_get (npc := 17) dX8_thinks_14 rfl kf_X8_9 (am_ne (by decide) g69) rfl ?_
      refine aw_iload_n (npc := 18) rfl dX8_thinks_17 rfl ?_
      refine aw_iald (npc := 19) (x := 0) (j := 45) dX8_thinks_18 rfl (am_ne (by decide) g70) ⟨by decide, by decide⟩ rfl ?_
      refine aw_iast (npc := 20) (j := 45) dX8_thinks_19 rfl am_eq ⟨by decide, by decide⟩ (Nat.le_of_ble_eq_true rfl) am_uu ?_
      refine aw_iinc (npc := 23) (v := 46) (L' := [some (.ref 69), some (.int 46)]) dX8_thinks_20 rfl rfl (by decide) (by decide) rfl rfl ?_
      refine aw_goto (npc := 2) dX8_thinks_23 (by decide) ?_
      refine aw_iload_n (npc := 3) rfl dX8_thinks_2 rfl ?_
      refine aw_bipush (npc := 5) (v := 62) (by decide) dX8_thinks_3 rfl ?_
      refine aw_icmp_ge (npc := 8) (tgt := 26) dX8_thinks_5 rfl (by decide) (fun hc => absurd hc (by decide)) (fun _ => ?_)
      refine aw_aload_n (npc := 9) rfl dX8_thinks_8 rfl ?_
      refine aw_get (npc := 12) dX8_thinks_9 rfl kf_X8_26 (am_ne (by decide) g69) rfl ?_
      refine aw_iload_n (npc := 13) rfl dX8_thinks_12 rfl ?_
      refine aw_aload_n (npc := 14) rfl dX8_thinks_13 rfl ?_
      refine aw_get (npc := 17) dX8_thinks_14 rfl kf_X8_9 (am_ne (by decide) g69) rfl ?_
      refine aw_iload_n (npc := 18) rfl dX8_thinks_17 rfl ?_
      refine aw_iald (npc := 19) (x := 0) (j := 46) dX8_thinks_18 rfl (am_ne (by decide) g70) ⟨by decide, by decide⟩ rfl ?_
      refine aw_iast (npc := 20) (j := 46) dX8_thinks_19 rfl am_eq ⟨by decide, by decide⟩ (Nat.le_of_ble_eq_true rfl) am_uu ?_
      refine aw_iinc (npc := 23) (v := 47) (L' := [some (.ref 69), some (.int 47)]) dX8_thinks_20 rfl rfl (by decide) (by decide) rfl rfl ?_
      refine aw_goto (npc := 2) dX8_thinks_23 (by decide) ?_
      refine aw_iload_n (npc := 3) rfl dX8_thinks_2 rfl ?_
      refine aw_bipush (npc := 5) (v := 62) (by decide) dX8_thinks_3 rfl ?_
      refine aw_icmp_ge (npc := 8) (tgt := 26) dX8_thinks_5 rfl (by decide) (fun hc => absurd hc (by decide)) (fun _ => ?_)
      refine aw_aload_n (npc := 9) rfl dX8_thinks_8 rfl ?_
      refine aw_get (npc := 12) dX8_thinks_9 rfl kf_X8_26 (am_ne (by decide) g69) rfl ?_
      refine aw_iload_n (npc := 13) rfl dX8_thinks_12 rfl ?_
      refine aw_aload_n (npc := 14) rfl dX8_thinks_13 rfl ?_
      refine aw_get (npc := 17) dX8_thinks_14 rfl kf_X8_9 (am_ne (by decide) g69) rfl ?_
      refine aw_iload_n (npc := 18) rfl dX8_thinks_17 rfl ?_
      refine aw_iald (npc := 19) (x := 0) (j := 47) dX8_thinks_18 rfl (am_ne (by decide) g70) ⟨by decide, by decide⟩ rfl ?_
      refine aw_iast (npc := 20) (j := 47) dX8_thinks_19 rfl am_eq ⟨by decide, by decide⟩ (Nat.le_of_ble_eq_true rfl) am_uu ?_
      refine aw_iinc (npc := 23) (v := 48) (L' := [some (.ref 69), some (.int 48)]) dX8_thinks_20 rfl rfl (by decide) (by decide) rfl rfl ?_
      refine aw_goto (npc := 2) dX8_thinks_23 (by decide) ?_
      refine aw_iload_n (npc := 3) rfl dX8_thinks_2 rfl ?_
      refine aw_bipush (npc := 5) (v := 62) (by decide) dX8_thinks_3 rfl ?_
      refine aw_icmp_ge (npc := 8) (tgt := 26) dX8_thinks_5 rfl (by decide) (fun hc => absurd hc (by decide)) (fun _ => ?_)
      refine aw_aload_n (npc := 9) rfl dX8_thinks_8 rfl ?_
      refine aw_get (npc := 12) dX8_thinks_9 rfl kf_X8_26 (am_ne (by decide) g69) rfl ?_
      refine aw_iload_n (npc := 13) rfl dX8_thinks_12 rfl ?_
      refine aw_aload_n (npc := 14) rfl dX8_thinks_13 rfl ?_
      refine aw_get (npc := 17) dX8_thinks_14 rfl kf_X8_9 (am_ne (by decide) g69) rfl ?_
      refine aw_iload_n (npc := 18) rfl dX8_thinks_17 rfl ?_
      refine aw_iald (npc := 19) (x := 0) (j := 48) dX8_thinks_18 rfl (am_ne (by decide) g70) ⟨by decide, by decide⟩ rfl ?_
      refine aw_iast (npc := 20) (j := 48) dX8_thinks_19 rfl am_eq ⟨by decide, by decide⟩ (Nat.le_of_ble_eq_true rfl) am_uu ?_
      refine aw_iinc (npc := 23) (v := 49) (L' := [some (.ref 69), some (.int 49)]) dX8_thinks_20 rfl rfl (by decide) (by decide) rfl rfl ?_
      refine aw_goto (npc := 2) dX8_thinks_23 (by decide) ?_
      refine aw_iload_n (npc := 3) rfl dX8_thinks_2 rfl ?_
      refine aw_bipush (npc := 5) (v := 62) (by decide) dX8_thinks_3 rfl ?_
      refine aw_icmp_ge (npc := 8) (tgt := 26) dX8_thinks_5 rfl (by decide) (fun hc => absurd hc (by decide)) (fun _ => ?_)
      refine aw_aload_n (npc := 9) rfl dX8_thinks_8 rfl ?_
      refine aw_get (npc := 12) dX8_thinks_9 rfl kf_X8_26 (am_ne (by decide) g69) rfl ?_
      refine aw_iload_n (npc := 13) rfl dX8_thinks_12 rfl ?_
      refine aw_aload_n (npc := 14) rfl dX8_thinks_13 rfl ?_
      refine aw_get (npc := 17) dX8_thinks_14 rfl kf_X8_9 (am_ne (by decide) g69) rfl ?_
      refine aw_iload_n (npc := 18) rfl dX8_thinks_17 rfl ?_
      refine aw_iald (npc := 19) (x := 0) (j := 49) dX8_thinks_18 rfl (am_ne (by decide) g70) ⟨by decide, by decide⟩ rfl ?_
      refine aw_iast (npc := 20) (j := 49) dX8_thinks_19 rfl am_eq ⟨by decide, by decide⟩ (Nat.le_of_ble_eq_true rfl) am_uu ?_
      refine aw_iinc (npc := 23) (v := 50) (L' := [some (.ref 69), some (.int 50)]) dX8_thinks_20 rfl rfl (by decide) (by decide) rfl rfl ?_
      refine aw_goto (npc := 2) dX8_thinks_23 (by decide) ?_
      refine aw_iload_n (npc := 3) rfl dX8_thinks_2 rfl ?_
      refine aw_bipush (npc := 5) (v := 62) (by decide) dX8_thinks_3 rfl ?_
      refine aw_icmp_ge (npc := 8) (tgt := 26) dX8_thinks_5 rfl (by decide) (fun hc => absurd hc (by decide)) (fun _ => ?_)
      refine aw_aload_n (npc := 9) rfl dX8_thinks_8 rfl ?_
      refine aw_get (npc := 12) dX8_thinks_9 rfl kf_X8_26 (am_ne (by decide) g69) rfl ?_
      refine aw_iload_n (npc := 13) rfl dX8_thinks_12 rfl ?_
      refine aw_aload_n (npc := 14) rfl dX8_thinks_13 rfl ?_
      refine aw_get (npc := 17) dX8_thinks_14 rfl kf_X8_9 (am_ne (by decide) g69) rfl ?_
      refine aw_iload_n (npc := 18) rfl dX8_thinks_17 rfl ?_
      refine aw_iald (npc := 19) (x := 0) (j := 50) dX8_thinks_18 rfl (am_ne (by decide) g70) ⟨by decide, by decide⟩ rfl ?_
      refine aw_iast (npc := 20) (j := 50) dX8_thinks_19 rfl am_eq ⟨by decide, by decide⟩ (Nat.le_of_ble_eq_true rfl) am_uu ?_
      refine aw_iinc (npc := 23) (v := 51) (L' := [some (.ref 69), some (.int 51)]) dX8_thinks_20 rfl rfl (by decide) (by decide) rfl rfl ?_
      refine aw_goto (npc := 2) dX8_thinks_23 (by decide) ?_
      refine aw_iload_n (npc := 3) rfl dX8_thinks_2 rfl ?_
      refine aw_bipush (npc := 5) (v := 62) (by decide) dX8_thinks_3 rfl ?_
      refine aw_icmp_ge (npc := 8) (tgt := 26) dX8_thinks_5 rfl (by decide) (fun hc => absurd hc (by decide)) (fun _ => ?_)
      refine aw_aload_n (npc := 9) rfl dX8_thinks_8 rfl ?_
      refine aw_get (npc := 12) dX8_thinks_9 rfl kf_X8_26 (am_ne (by decide) g69) rfl ?_
      refine aw_iload_n (npc := 13) rfl dX8_thinks_12 rfl ?_
      refine aw_aload_n (npc := 14) rfl dX8_thinks_13 rfl ?_
      refine aw_get (npc := 17) dX8_thinks_14 rfl kf_X8_9 (am_ne (by decide) g69) rfl ?_
      refine aw_iload_n (npc := 18) rfl dX8_thinks_17 rfl ?_
      refine aw_iald (npc := 19) (x := 0) (j := 51) dX8_thinks_18 rfl (am_ne (by decide) g70) ⟨by decide, by decide⟩ rfl ?_
      refine aw_iast (npc := 20) (j := 51) dX8_thinks_19 rfl am_eq ⟨by decide, by decide⟩ (Nat.le_of_ble_eq_true rfl) am_uu ?_
      refine aw_iinc (npc := 23) (v := 52) (L' := [some (.ref 69), some (.int 52)]) dX8_thinks_20 rfl rfl (by decide) (by decide) rfl rfl ?_
      refine aw_goto (npc := 2) dX8_thinks_23 (by decide) ?_
      refine aw_iload_n (npc := 3) rfl dX8_thinks_2 rfl ?_
      refine aw_bipush (npc := 5) (v := 62) (by decide) dX8_thinks_3 rfl ?_
      refine aw_icmp_ge (npc := 8) (tgt := 26) dX8_thinks_5 rfl (by decide) (fun hc => absurd hc (by decide)) (fun _ => ?_)
      refine aw_aload_n (npc := 9) rfl dX8_thinks_8 rfl ?_
      refine aw_get (npc := 12) dX8_thinks_9 rfl kf_X8_26 (am_ne (by decide) g69) rfl ?_
      refine aw_iload_n (npc := 13) rfl dX8_thinks_12 rfl ?_
      refine aw_aload_n (npc := 14) rfl dX8_thinks_13 rfl ?_
      refine aw_get (npc := 17) dX8_thinks_14 rfl kf_X8_9 (am_ne (by decide) g69) rfl ?_
      refine aw_iload_n (npc := 18) rfl dX8_thinks_17 rfl ?_
      refine aw_iald (npc := 19) (x := 0) (j := 52) dX8_thinks_18 rfl (am_ne (by decide) g70) ⟨by decide, by decide⟩ rfl ?_
      refine aw_iast (npc := 20) (j := 52) dX8_thinks_19 rfl am_eq ⟨by decide, by decide⟩ (Nat.le_of_ble_eq_true rfl) am_uu ?_
      refine aw_iinc (npc := 23) (v := 53) (L' := [some (.ref 69), some (.int 53)]) dX8_thinks_20 rfl rfl (by decide) (by decide) rfl rfl ?_
      refine aw_goto (npc := 2) dX8_thinks_23 (by decide) ?_
      refine aw_iload_n (npc := 3) rfl dX8_thinks_2 rfl ?_
      refine aw_bipush (npc := 5) (v := 62) (by decide) dX8_thinks_3 rfl ?_
      refine aw_icmp_ge (npc := 8) (tgt := 26) dX8_thinks_5 rfl (by decide) (fun hc => absurd hc (by decide)) (fun _ => ?_)
      refine aw_aload_n (npc := 9) rfl dX8_thinks_8 rfl ?_
      refine aw_get (npc := 12) dX8_thinks_9 rfl kf_X8_26 (am_ne (by decide) g69) rfl ?_
      refine aw_iload_n (npc := 13) rfl dX8_thinks_12 rfl ?_
      refine aw_aload_n (npc := 14) rfl dX8_thinks_13 rfl ?_
      refine aw_get (npc := 17) dX8_thinks_14 rfl kf_X8_9 (am_ne (by decide) g69) rfl ?_
      refine aw_iload_n (npc := 18) rfl dX8_thinks_17 rfl ?_
      refine aw_iald (npc := 19) (x := 0) (j := 53) dX8_thinks_18 rfl (am_ne (by decide) g70) ⟨by decide, by decide⟩ rfl ?_
      refine aw_iast (npc := 20) (j := 53) dX8_thinks_19 rfl am_eq ⟨by decide, by decide⟩ (Nat.le_of_ble_eq_true rfl) am_uu ?_
      refine aw_iinc (npc := 23) (v := 54) (L' := [some (.ref 69), some (.int 54)]) dX8_thinks_20 rfl rfl (by decide) (by decide) rfl rfl ?_
      refine aw_goto (npc := 2) dX8_thinks_23 (by decide) ?_
      refine aw_iload_n (npc := 3) rfl dX8_thinks_2 rfl ?_
      refine aw_bipush (npc := 5) (v := 62) (by decide) dX8_thinks_3 rfl ?_
      refine aw_icmp_ge (npc := 8) (tgt := 26) dX8_thinks_5 rfl (by decide) (fun hc => absurd hc (by decide)) (fun _ => ?_)
      refine aw_aload_n (npc := 9) rfl dX8_thinks_8 rfl ?_
      refine aw_get (npc := 12) dX8_thinks_9 rfl kf_X8_26 (am_ne (by decide) g69) rfl ?_
      refine aw_iload_n (npc := 13) rfl dX8_thinks_12 rfl ?_
      refine aw_aload_n (npc := 14) rfl dX8_thinks_13 rfl ?_
      refine aw_get (npc := 17) dX8_thinks_14 rfl kf_X8_9 (am_ne (by decide) g69) rfl ?_
      refine aw_iload_n (npc := 18) rfl dX8_thinks_17 rfl ?_
      refine aw_iald (npc := 19) (x := 0) (j := 54) dX8_thinks_18 rfl (am_ne (by decide) g70) ⟨by decide, by decide⟩ rfl ?_
      refine aw_iast (npc := 20) (j := 54) dX8_thinks_19 rfl am_eq ⟨by decide, by decide⟩ (Nat.le_of_ble_eq_true rfl) am_uu ?_
      refine aw_iinc (npc := 23) (v := 55) (L' := [some (.ref 69), some (.int 55)]) dX8_thinks_20 rfl rfl (by decide) (by decide) rfl rfl ?_
      refine aw_goto (npc := 2) dX8_thinks_23 (by decide) ?_
      refine aw_iload_n (npc := 3) rfl dX8_thinks_2 rfl ?_
      refine aw_bipush (npc := 5) (v := 62) (by decide) dX8_thinks_3 rfl ?_
      refine aw_icmp_ge (npc := 8) (tgt := 26) dX8_thinks_5 rfl (by decide) (fun hc => absurd hc (by decide)) (fun _ => ?_)
      refine aw_aload_n (npc := 9) rfl dX8_thinks_8 rfl ?_
      refine aw_get (npc := 12) dX8_thinks_9 rfl kf_X8_26 (am_ne (by decide) g69) rfl ?_
      refine aw_iload_n (npc := 13) rfl dX8_thinks_12 rfl ?_
      refine aw_aload_n (npc := 14) rfl dX8_thinks_13 rfl ?_
      refine aw_get (npc := 17) dX8_thinks_14 rfl kf_X8_9 (am_ne (by decide) g69) rfl ?_
      refine aw_iload_n (npc := 18) rfl dX8_thinks_17 rfl ?_
      refine aw_iald (npc := 19) (x := 0) (j := 55) dX8_thinks_18 rfl (am_ne (by decide) g70) ⟨by decide, by decide⟩ rfl ?_
      refine aw_iast (npc := 20) (j := 55) dX8_thinks_19 rfl am_eq ⟨by decide, by decide⟩ (Nat.le_of_ble_eq_true rfl) am_uu ?_
      refine aw_iinc (npc := 23) (v := 56) (L' := [some (.ref 69), some (.int 56)]) dX8_thinks_20 rfl rfl (by decide) (by decide) rfl rfl ?_
      refine aw_goto (npc := 2) dX8_thinks_23 (by decide) ?_
      refine aw_iload_n (npc := 3) rfl dX8_thinks_2 rfl ?_
      refine aw_bipush (npc := 5) (v := 62) (by decide) dX8_thinks_3 rfl ?_
      refine aw_icmp_ge (npc := 8) (tgt := 26) dX8_thinks_5 rfl (by decide) (fun hc => absurd hc (by decide)) (fun _ => ?_)
      refine aw_aload_n (npc := 9) rfl dX8_thinks_8 rfl ?_
      refine aw_get (npc := 12) dX8_thinks_9 rfl kf_X8_26 (am_ne (by decide) g69) rfl ?_
      refine aw_iload_n (npc := 13) rfl dX8_thinks_12 rfl ?_
      refine aw_aload_n (npc := 14) rfl dX8_thinks_13 rfl ?_
      refine aw_get (npc := 17) dX8_thinks_14 rfl kf_X8_9 (am_ne (by decide) g69) rfl ?_
      refine aw_iload_n (npc := 18) rfl dX8_thinks_17 rfl ?_
      refine aw_iald (npc := 19) (x := 0) (j := 56) dX8_thinks_18 rfl (am_ne (by decide) g70) ⟨by decide, by decide⟩ rfl ?_
      refine aw_iast (npc := 20) (j := 56) dX8_thinks_19 rfl am_eq ⟨by decide, by decide⟩ (Nat.le_of_ble_eq_true rfl) am_uu ?_
      refine aw_iinc (npc := 23) (v := 57) (L' := [some (.ref 69), some (.int 57)]) dX8_thinks_20 rfl rfl (by decide) (by decide) rfl rfl ?_
      refine aw_goto (npc := 2) dX8_thinks_23 (by decide) ?_
      refine aw_iload_n (npc := 3) rfl dX8_thinks_2 rfl ?_
      refine aw_bipush (npc := 5) (v := 62) (by decide) dX8_thinks_3 rfl ?_
      refine aw_icmp_ge (npc := 8) (tgt := 26) dX8_thinks_5 rfl (by decide) (fun hc => absurd hc (by decide)) (fun _ => ?_)
      refine aw_aload_n (npc := 9) rfl dX8_thinks_8 rfl ?_
      refine aw_get (npc := 12) dX8_thinks_9 rfl kf_X8_26 (am_ne (by decide) g69) rfl ?_
      refine aw_iload_n (npc := 13) rfl dX8_thinks_12 rfl ?_
      refine aw_aload_n (npc := 14) rfl dX8_thinks_13 rfl ?_
      refine aw_get (npc := 17) dX8_thinks_14 rfl kf_X8_9 (am_ne (by decide) g69) rfl ?_
      refine aw_iload_n (npc := 18) rfl dX8_thinks_17 rfl ?_
      refine aw_iald (npc := 19) (x := 0) (j := 57) dX8_thinks_18 rfl (am_ne (by decide) g70) ⟨by decide, by decide⟩ rfl ?_
      refine aw_iast (npc := 20) (j := 57) dX8_thinks_19 rfl am_eq ⟨by decide, by decide⟩ (Nat.le_of_ble_eq_true rfl) am_uu ?_
      refine aw_iinc (npc := 23) (v := 58) (L' := [some (.ref 69), some (.int 58)]) dX8_thinks_20 rfl rfl (by decide) (by decide) rfl rfl ?_
      refine aw_goto (npc := 2) dX8_thinks_23 (by decide) ?_
      refine aw_iload_n (npc := 3) rfl dX8_thinks_2 rfl ?_
      refine aw_bipush (npc := 5) (v := 62) (by decide) dX8_thinks_3 rfl ?_
      refine aw_icmp_ge (npc := 8) (tgt := 26) dX8_thinks_5 rfl (by decide) (fun hc => absurd hc (by decide)) (fun _ => ?_)
      refine aw_aload_n (npc := 9) rfl dX8_thinks_8 rfl ?_
      refine aw_get (npc := 12) dX8_thinks_9 rfl kf_X8_26 (am_ne (by decide) g69) rfl ?_
      refine aw_iload_n (npc := 13) rfl dX8_thinks_12 rfl ?_
      refine aw_aload_n (npc := 14) rfl dX8_thinks_13 rfl ?_
      refine aw_get (npc := 17) dX8_thinks_14 rfl kf_X8_9 (am_ne (by decide) g69) rfl ?_
      refine aw_iload_n (npc := 18) rfl dX8_thinks_17 rfl ?_
      refine aw_iald (npc := 19) (x := 0) (j := 58) dX8_thinks_18 rfl (am_ne (by decide) g70) ⟨by decide, by decide⟩ rfl ?_
      refine aw_iast (npc := 20) (j := 58) dX8_thinks_19 rfl am_eq ⟨by decide, by decide⟩ (Nat.le_of_ble_eq_true rfl) am_uu ?_
      refine aw_iinc (npc := 23) (v := 59) (L' := [some (.ref 69), some (.int 59)]) dX8_thinks_20 rfl rfl (by decide) (by decide) rfl rfl ?_
      refine aw_goto (npc := 2) dX8_thinks_23 (by decide) ?_
      refine aw_iload_n (npc := 3) rfl dX8_thinks_2 rfl ?_
      refine aw_bipush (npc := 5) (v := 62) (by decide) dX8_thinks_3 rfl ?_
      refine aw_icmp_ge (npc := 8) (tgt := 26) dX8_thinks_5 rfl (by decide) (fun hc => absurd hc (by decide)) (fun _ => ?_)
      refine aw_aload_n (npc := 9) rfl dX8_thinks_8 rfl ?_
      refine aw_get (npc := 12) dX8_thinks_9 rfl kf_X8_26 (am_ne (by decide) g69) rfl ?_
      refine aw_iload_n (npc := 13) rfl dX8_thinks_12 rfl ?_
      refine aw_aload_n (npc := 14) rfl dX8_thinks_13 rfl ?_
      refine aw_get (npc := 17) dX8_thinks_14 rfl kf_X8_9 (am_ne (by decide) g69) rfl ?_
      refine aw_iload_n (npc := 18) rfl dX8_thinks_17 rfl ?_
      refine aw_iald (npc := 19) (x := 0) (j := 59) dX8_thinks_18 rfl (am_ne (by decide) g70) ⟨by decide, by decide⟩ rfl ?_
      refine aw_iast (npc := 20) (j := 59) dX8_thinks_19 rfl am_eq ⟨by decide, by decide⟩ (Nat.le_of_ble_eq_true rfl) am_uu ?_
      refine aw_iinc (npc := 23) (v := 60) (L' := [some (.ref 69), some (.int 60)]) dX8_thinks_20 rfl rfl (by decide) (by decide) rfl rfl ?_
      refine aw_goto (npc := 2) dX8_thinks_23 (by decide) ?_
      refine aw_iload_n (npc := 3) rfl dX8_thinks_2 rfl ?_
      refine aw_bipush (npc := 5) (v := 62) (by decide) dX8_thinks_3 rfl ?_
      refine aw_icmp_ge (npc := 8) (tgt := 26) dX8_thinks_5 rfl (by decide) (fun hc => absurd hc (by decide)) (fun _ => ?_)
      refine aw_aload_n (npc := 9) rfl dX8_thinks_8 rfl ?_
      refine aw_get (npc := 12) dX8_thinks_9 rfl kf_X8_26 (am_ne (by decide) g69) rfl ?_
      refine aw_iload_n (npc := 13) rfl dX8_thinks_12 rfl ?_
      refine aw_aload_n (npc := 14) rfl dX8_thinks_13 rfl ?_
      refine aw_get (npc := 17) dX8_thinks_14 rfl kf_X8_9 (am_ne (by decide) g69) rfl ?_
      refine aw_iload_n (npc := 18) rfl dX8_thinks_17 rfl ?_
      refine aw_iald (npc := 19) (x := 0) (j := 60) dX8_thinks_18 rfl (am_ne (by decide) g70) ⟨by decide, by decide⟩ rfl ?_
      refine aw_iast (npc := 20) (j := 60) dX8_thinks_19 rfl am_eq ⟨by decide, by decide⟩ (Nat.le_of_ble_eq_true rfl) am_uu ?_
      refine aw_iinc (npc := 23) (v := 61) (L' := [some (.ref 69), some (.int 61)]) dX8_thinks_20 rfl rfl (by decide) (by decide) rfl rfl ?_
      refine aw_goto (npc := 2) dX8_thinks_23 (by decide) ?_
      refine aw_iload_n (npc := 3) rfl dX8_thinks_2 rfl ?_
      refine aw_bipush (npc := 5) (v := 62) (by decide) dX8_thinks_3 rfl ?_
      refine aw_icmp_ge (npc := 8) (tgt := 26) dX8_thinks_5 rfl (by decide) (fun hc => absurd hc (by decide)) (fun _ => ?_)
      refine aw_aload_n (npc := 9) rfl dX8_thinks_8 rfl ?_
      refine aw_get (npc := 12) dX8_thinks_9 rfl kf_X8_26 (am_ne (by decide) g69) rfl ?_
      refine aw_iload_n (npc := 13) rfl dX8_thinks_12 rfl ?_
      refine aw_aload_n (npc := 14) rfl dX8_thinks_13 rfl ?_
      refine aw_get (npc := 17) dX8_thinks_14 rfl kf_X8_9 (am_ne (by decide) g69) rfl ?_
      refine aw_iload_n (npc := 18) rfl dX8_thinks_17 rfl ?_
      refine aw_iald (npc := 19) (x := 0) (j := 61) dX8_thinks_18 rfl (am_ne (by decide) g70) ⟨by decide, by decide⟩ rfl ?_
      refine aw_iast (npc := 20) (j := 61) dX8_thinks_19 rfl am_eq ⟨by decide, by decide⟩ (Nat.le_of_ble_eq_true rfl) am_uu ?_
      refine aw_iinc (npc := 23) (v := 62) (L' := [some (.ref 69), some (.int 62)]) dX8_thinks_20 rfl rfl (by decide) (by decide) rfl rfl ?_
      refine aw_goto (npc := 2) dX8_thinks_23 (by decide) ?_
      refine aw_iload_n (npc := 3) rfl dX8_thinks_2 rfl ?_
      refine aw_bipush (npc := 5) (v := 62) (by decide) dX8_thinks_3 rfl ?_
      refine aw_icmp_ge (npc := 8) (tgt := 26) dX8_thinks_5 rfl (by decide) (fun _ => ?_) (fun hc => absurd (by decide) hc)
      refine aw_vret rfl dX8_thinks_26 ?_
      refine aw_iconst (npc := 27) (v := -1) (by decide) dX8_bought_26 rfl ?_
      refine aw_istore_n (npc := 28) (L' := [some (.ref 69), some (.int n), some (.int w), some (.int (-1)), none, none, none]) dX8_bought_27 rfl (by decide) rfl rfl ?_
      refine aw_iconst (npc := 29) (v := 0) (by decide) dX8_bought_28 rfl ?_
      refine aw_istore (npc := 31) (L' := [some (.ref 69), some (.int n), some (.int w), some (.int (-1)), some (.int 0), none, none]) dX8_bought_29 rfl (by decide) rfl rfl ?_
      refine aw_iconst (npc := 32) (v := 0) (by decide) dX8_bought_31 rfl ?_
      refine aw_istore (npc := 34) (L' := [some (.ref 69), some (.int n), some (.int w), some (.int (-1)), some (.int 0), some (.int 0), none]) dX8_bought_32 rfl (by decide) rfl rfl ?_
      refine aw_iload (npc := 36) rfl dX8_bought_34 rfl ?_
      refine aw_aload_n (npc := 37) rfl dX8_bought_36 rfl ?_
      refine aw_get (npc := 40) dX8_bought_37 rfl kf_X8_9 (am_ne (by decide) g69) rfl ?_
      refine aw_iconst (npc := 41) (v := 1) (by decide) dX8_bought_40 rfl ?_
      refine aw_iald (npc := 42) (x := 0) (j := 1) dX8_bought_41 rfl (am_ne (by decide) g70) ⟨by decide, by decide⟩ rfl ?_
      refine aw_icmp_ge (npc := 45) (tgt := 99) dX8_bought_42 rfl (by decide) (fun _ => ?_) (fun hc => absurd (by decide) hc)
      refine aw_iload_n (npc := 100) rfl dX8_bought_99 rfl ?_
      refine aw_if_ge (npc := 103) (tgt := 108) dX8_bought_100 rfl (by decide) (fun hc => absurd hc (by decide)) (fun _ => ?_)
      refine aw_ldc (npc := 105) kc_X8_82 dX8_bought_103 rfl ?_
      refine aw_goto (npc := 118) dX8_bought_105 (by decide) ?_
      refine aw_iret rfl dX8_bought_118 ?_
      exact fin_m hq (show sp_bought n w = (-1000000005) from (by unfold sp_bought; first | rfl | (simp only [wif_t hw1, wif_t hw2, wif_same, ite_self]; done) | (simp only [wif_t hw1, wif_t hw2, wif_same, ite_self]; rfl) | (simp [wif_t hw1, wif_t hw2, wif_same]; done)))
    · refine aw_re (S' := [.int 0]) rfl ?_
      refine aw_if_ne (npc := 19) (tgt := 22) dX8_bought_16 rfl (by decide) (fun hc => absurd (by decide) hc) (fun _ => ?_)
      refine aw_ldc (npc := 21) kc_X8_91 dX8_bought_19 rfl ?_
      refine aw_iret rfl dX8_bought_21 ?_
      exact fin_m hq (show sp_bought n w = (-1000000001) from (by unfold sp_bought; first | rfl | (simp only [wif_t hw1, wif_f hw2, wif_same, ite_self]; done) | (simp only [wif_t hw1, wif_f hw2, wif_same, ite_self]; rfl) | (simp [wif_t hw1, wif_f hw2, wif_same]; done)))
  · refine aw_re (S' := [.int 0]) rfl ?_
    refine aw_if_eq (npc := 10) (tgt := 19) dX8_bought_7 rfl (by decide) (fun _ => ?_) (fun hc => absurd (by decide) hc)
    refine aw_ldc (npc := 21) kc_X8_91 dX8_bought_19 rfl ?_
    refine aw_iret rfl dX8_bought_21 ?_
    exact fin_m hq (show sp_bought n w = (-1000000001) from (by unfold sp_bought; first | rfl | (simp only [wif_f hw1, wif_same, ite_self]; done) | (simp only [wif_f hw1, wif_same, ite_self]; rfl) | (simp [wif_f hw1, wif_same]; done)))
noncomputable def sp_cared (s : Int32) (t : Int32) (w : Int32) : Int32 := wif s 0 3 (wif t 0 1 (wif w 0 1 ((-1000000011)) (-1000000001)) (-1000000001)) (-1000000001)
set_option maxHeartbeats 40000000 in
set_option maxRecDepth 100000 in
theorem p_X7_cared {X : List Int32} {d rc rs : Nat} {h : am_H} {Q : am_Q} {s : Int32} {t : Int32} {w : Int32} (F : f0_X7 h) (hq : ∀ h9, am_fr 69 h9 h → Q (some (.int (sp_cared s t w))) 92 h9) : AW X mX7_cared (d + 12) rc rs 0 [some (.ref 0), some (.int s), some (.int t), some (.int w), none, none, none, none, none] [] 92 h Q := by
  obtain ⟨f0, -, -, -, -, -, -, -, -, -, -, -, -, -, -, -, -, -, -, -, -, -, -, -, -, -, -, -, -, -, -, -, -, -, -, -, -, -, -, -, -, -, -, f43, -, -, f46, -, f48, -, f50, -, f52, -, -, -, -, -, -, -, -, -, -, -, -, -, -, -, -⟩ := F
  refine aw_iload_n (npc := 1) rfl dX7_cared_0 rfl ?_
  refine aw_callS (npc := 4) (N := mX7_isSheet) (mc := 0) (ms := 0) (A := [.int s]) (S := []) (L0 := [some (.int s)]) dX7_cared_1 rfl km_X7_isSheet kk_X7_204 rfl ⟨rfl, by decide⟩ rfl (Nat.le_of_ble_eq_true rfl) (Nat.zero_add _) (Nat.zero_add _) rfl ?_
  refine c_X7_isSheet (fun hw1 => ?_) (fun hw1 => ?_)
  · rcases wi_c0_3 hw1 with rfl | rfl | rfl | rfl
    · refine aw_re (S' := [.int 1]) rfl ?_
      refine aw_if_eq (npc := 7) (tgt := 23) dX7_cared_4 rfl (by decide) (fun hc => absurd hc (by decide)) (fun _ => ?_)
      refine aw_iload_n (npc := 8) rfl dX7_cared_7 rfl ?_
      refine aw_callS (npc := 11) (N := mX7_isSide) (mc := 0) (ms := 0) (A := [.int t]) (S := []) (L0 := [some (.int t)]) dX7_cared_8 rfl km_X7_isSide kk_X7_71 rfl ⟨rfl, by decide⟩ rfl (Nat.le_of_ble_eq_true rfl) (Nat.zero_add _) (Nat.zero_add _) rfl ?_
      refine c_X7_isSide (fun hw2 => ?_) (fun hw2 => ?_)
      · refine aw_re (S' := [.int 1]) rfl ?_
        refine aw_if_eq (npc := 14) (tgt := 23) dX7_cared_11 rfl (by decide) (fun hc => absurd hc (by decide)) (fun _ => ?_)
        refine aw_iload_n (npc := 15) rfl dX7_cared_14 rfl ?_
        refine aw_iconst (npc := 16) (v := 0) (by decide) dX7_cared_15 rfl ?_
        refine aw_iconst (npc := 17) (v := 1) (by decide) dX7_cared_16 rfl ?_
        refine aw_callS (npc := 20) (N := mX7_within) (mc := 0) (ms := 0) (A := [.int w, .int 0, .int 1]) (S := []) (L0 := [some (.int w), some (.int 0), some (.int 1)]) dX7_cared_17 rfl km_X7_within kk_X7_74 rfl ⟨rfl, by decide⟩ rfl (Nat.le_of_ble_eq_true rfl) (Nat.zero_add _) (Nat.zero_add _) rfl ?_
        refine c_X7_within (fun hw3 => ?_) (fun hw3 => ?_)
        · refine aw_re (S' := [.int 1]) rfl ?_
          refine aw_if_ne (npc := 23) (tgt := 26) dX7_cared_20 rfl (by decide) (fun _ => ?_) (fun hc => absurd hc (by decide))
          refine aw_aload_n (npc := 27) rfl dX7_cared_26 rfl ?_
          refine aw_get (npc := 30) dX7_cared_27 rfl kf_X7_47 f0 rfl ?_
          refine aw_iload_n (npc := 31) rfl dX7_cared_30 rfl ?_
          refine aw_aald (npc := 32) (j := 0) dX7_cared_31 rfl (by decide) f43 ⟨by decide, by decide⟩ rfl ?_
          refine aw_astore (npc := 34) (L' := [some (.ref 0), some (.int 0), some (.int t), some (.int w), some (.ref 46), none, none, none, none]) dX7_cared_32 rfl (by decide) rfl rfl ?_
          refine aw_aload (npc := 36) rfl dX7_cared_34 rfl ?_
          refine aw_callV (npc := 39) (N := mX2_isMissing) (b := 46) (mc := 0) (ms := 0) (A := []) (S := []) (L0 := [some (.ref 46)]) dX7_cared_36 rfl km_X2_isMissing kk_X7_207 f46 ⟨by decide, rfl⟩ rfl ⟨rfl, by decide⟩ rfl (Nat.le_of_ble_eq_true rfl) (Nat.zero_add _) (Nat.zero_add _) rfl ?_
          refine aw_aload_n (npc := 1) rfl dX2_isMissing_0 rfl ?_
          refine aw_get (npc := 4) dX2_isMissing_1 rfl kf_X2_9 f46 rfl ?_
          refine aw_iconst (npc := 5) (v := -1) (by decide) dX2_isMissing_4 rfl ?_
          refine aw_icmp_ne (npc := 8) (tgt := 12) dX2_isMissing_5 rfl (by decide) (fun hc => absurd (by decide) hc) (fun _ => ?_)
          refine aw_iconst (npc := 9) (v := 1) (by decide) dX2_isMissing_8 rfl ?_
          refine aw_goto (npc := 13) dX2_isMissing_9 (by decide) ?_
          refine aw_zret rfl rfl dX2_isMissing_13 ?_
          refine aw_re (S' := [.int 1]) rfl ?_
          refine aw_if_eq (npc := 42) (tgt := 45) dX7_cared_39 rfl (by decide) (fun hc => absurd hc (by decide)) (fun _ => ?_)
          refine aw_ldc (npc := 44) kc_X7_210 dX7_cared_42 rfl ?_
          refine aw_iret rfl dX7_cared_44 ?_
          exact fin_c hq am_fr0 (show sp_cared 0 t w = (-1000000011) from (by unfold sp_cared; first | rfl | (simp only [wif_t hw1, wif_t hw2, wif_t hw3, wif_same, ite_self]; done) | (simp only [wif_t hw1, wif_t hw2, wif_t hw3, wif_same, ite_self]; rfl) | (simp [wif_t hw1, wif_t hw2, wif_t hw3, wif_same]; done)))
        · refine aw_re (S' := [.int 0]) rfl ?_
          refine aw_if_ne (npc := 23) (tgt := 26) dX7_cared_20 rfl (by decide) (fun hc => absurd (by decide) hc) (fun _ => ?_)
          refine aw_ldc (npc := 25) kc_X7_78 dX7_cared_23 rfl ?_
          refine aw_iret rfl dX7_cared_25 ?_
          exact fin_c hq am_fr0 (show sp_cared 0 t w = (-1000000001) from (by unfold sp_cared; first | rfl | (simp only [wif_t hw1, wif_t hw2, wif_f hw3, wif_same, ite_self]; done) | (simp only [wif_t hw1, wif_t hw2, wif_f hw3, wif_same, ite_self]; rfl) | (simp [wif_t hw1, wif_t hw2, wif_f hw3, wif_same]; done)))
      · refine aw_re (S' := [.int 0]) rfl ?_
        refine aw_if_eq (npc := 14) (tgt := 23) dX7_cared_11 rfl (by decide) (fun _ => ?_) (fun hc => absurd (by decide) hc)
        refine aw_ldc (npc := 25) kc_X7_78 dX7_cared_23 rfl ?_
        refine aw_iret rfl dX7_cared_25 ?_
        exact fin_c hq am_fr0 (show sp_cared 0 t w = (-1000000001) from (by unfold sp_cared; first | rfl | (simp only [wif_t hw1, wif_f hw2, wif_same, ite_self]; done) | (simp only [wif_t hw1, wif_f hw2, wif_same, ite_self]; rfl) | (simp [wif_t hw1, wif_f hw2, wif_same]; done)))
    · refine aw_re (S' := [.int 1]) rfl ?_
      refine aw_if_eq (npc := 7) (tgt := 23) dX7_cared_4 rfl (by decide) (fun hc => absurd hc (by decide)) (fun _ => ?_)
      refine aw_iload_n (npc := 8) rfl dX7_cared_7 rfl ?_
      refine aw_callS (npc := 11) (N := mX7_isSide) (mc := 0) (ms := 0) (A := [.int t]) (S := []) (L0 := [some (.int t)]) dX7_cared_8 rfl km_X7_isSide kk_X7_71 rfl ⟨rfl, by decide⟩ rfl (Nat.le_of_ble_eq_true rfl) (Nat.zero_add _) (Nat.zero_add _) rfl ?_
      refine c_X7_isSide (fun hw4 => ?_) (fun hw4 => ?_)
      · refine aw_re (S' := [.int 1]) rfl ?_
        refine aw_if_eq (npc := 14) (tgt := 23) dX7_cared_11 rfl (by decide) (fun hc => absurd hc (by decide)) (fun _ => ?_)
        refine aw_iload_n (npc := 15) rfl dX7_cared_14 rfl ?_
        refine aw_iconst (npc := 16) (v := 0) (by decide) dX7_cared_15 rfl ?_
        refine aw_iconst (npc := 17) (v := 1) (by decide) dX7_cared_16 rfl ?_
        refine aw_callS (npc := 20) (N := mX7_within) (mc := 0) (ms := 0) (A := [.int w, .int 0, .int 1]) (S := []) (L0 := [some (.int w), some (.int 0), some (.int 1)]) dX7_cared_17 rfl km_X7_within kk_X7_74 rfl ⟨rfl, by decide⟩ rfl (Nat.le_of_ble_eq_true rfl) (Nat.zero_add _) (Nat.zero_add _) rfl ?_
        refine c_X7_within (fun hw5 => ?_) (fun hw5 => ?_)
        · refine aw_re (S' := [.int 1]) rfl ?_
          refine aw_if_ne (npc := 23) (tgt := 26) dX7_cared_20 rfl (by decide) (fun _ => ?_) (fun hc => absurd hc (by decide))
          refine aw_aload_n (npc := 27) rfl dX7_cared_26 rfl ?_
          refine aw_get (npc := 30) dX7_cared_27 rfl kf_X7_47 f0 rfl ?_
          refine aw_iload_n (npc := 31) rfl dX7_cared_30 rfl ?_
          refine aw_aald (npc := 32) (j := 1) dX7_cared_31 rfl (by decide) f43 ⟨by decide, by decide⟩ rfl ?_
          refine aw_astore (npc := 34) (L' := [some (.ref 0), some (.int 1), some (.int t), some (.int w), some (.ref 48), none, none, none, none]) dX7_cared_32 rfl (by decide) rfl rfl ?_
          refine aw_aload (npc := 36) rfl dX7_cared_34 rfl ?_
          refine aw_callV (npc := 39) (N := mX2_isMissing) (b := 48) (mc := 0) (ms := 0) (A := []) (S := []) (L0 := [some (.ref 48)]) dX7_cared_36 rfl km_X2_isMissing kk_X7_207 f48 ⟨by decide, rfl⟩ rfl ⟨rfl, by decide⟩ rfl (Nat.le_of_ble_eq_true rfl) (Nat.zero_add _) (Nat.zero_add _) rfl ?_
          refine aw_aload_n (npc := 1) rfl dX2_isMissing_0 rfl ?_
          refine aw_get (npc := 4) dX2_isMissing_1 rfl kf_X2_9 f48 rfl ?_
          refine aw_iconst (npc := 5) (v := -1) (by decide) dX2_isMissing_4 rfl ?_
          refine aw_icmp_ne (npc := 8) (tgt := 12) dX2_isMissing_5 rfl (by decide) (fun hc => absurd (by decide) hc) (fun _ => ?_)
          refine aw_iconst (npc := 9) (v := 1) (by decide) dX2_isMissing_8 rfl ?_
          refine aw_goto (npc := 13) dX2_isMissing_9 (by decide) ?_
          refine aw_zret rfl rfl dX2_isMissing_13 ?_
          refine aw_re (S' := [.int 1]) rfl ?_
          refine aw_if_eq (npc := 42) (tgt := 45) dX7_cared_39 rfl (by decide) (fun hc => absurd hc (by decide)) (fun _ => ?_)
          refine aw_ldc (npc := 44) kc_X7_210 dX7_cared_42 rfl ?_
          refine aw_iret rfl dX7_cared_44 ?_
          exact fin_c hq am_fr0 (show sp_cared 1 t w = (-1000000011) from (by unfold sp_cared; first | rfl | (simp only [wif_t hw1, wif_t hw4, wif_t hw5, wif_same, ite_self]; done) | (simp only [wif_t hw1, wif_t hw4, wif_t hw5, wif_same, ite_self]; rfl) | (simp [wif_t hw1, wif_t hw4, wif_t hw5, wif_same]; done)))
        · refine aw_re (S' := [.int 0]) rfl ?_
          refine aw_if_ne (npc := 23) (tgt := 26) dX7_cared_20 rfl (by decide) (fun hc => absurd (by decide) hc) (fun _ => ?_)
          refine aw_ldc (npc := 25) kc_X7_78 dX7_cared_23 rfl ?_
          refine aw_iret rfl dX7_cared_25 ?_
          exact fin_c hq am_fr0 (show sp_cared 1 t w = (-1000000001) from (by unfold sp_cared; first | rfl | (simp only [wif_t hw1, wif_t hw4, wif_f hw5, wif_same, ite_self]; done) | (simp only [wif_t hw1, wif_t hw4, wif_f hw5, wif_same, ite_self]; rfl) | (simp [wif_t hw1, wif_t hw4, wif_f hw5, wif_same]; done)))
      · refine aw_re (S' := [.int 0]) rfl ?_
        refine aw_if_eq (npc := 14) (tgt := 23) dX7_cared_11 rfl (by decide) (fun _ => ?_) (fun hc => absurd (by decide) hc)
        refine aw_ldc (npc := 25) kc_X7_78 dX7_cared_23 rfl ?_
        refine aw_iret rfl dX7_cared_25 ?_
        exact fin_c hq am_fr0 (show sp_cared 1 t w = (-1000000001) from (by unfold sp_cared; first | rfl | (simp only [wif_t hw1, wif_f hw4, wif_same, ite_self]; done) | (simp only [wif_t hw1, wif_f hw4, wif_same, ite_self]; rfl) | (simp [wif_t hw1, wif_f hw4, wif_same]; done)))
    · refine aw_re (S' := [.int 1]) rfl ?_
      refine aw_if_eq (npc := 7) (tgt := 23) dX7_cared_4 rfl (by decide) (fun hc => absurd hc (by decide)) (fun _ => ?_)
      refine aw_iload_n (npc := 8) rfl dX7_cared_7 rfl ?_
      refine aw_callS (npc := 11) (N := mX7_isSide) (mc := 0) (ms := 0) (A := [.int t]) (S := []) (L0 := [some (.int t)]) dX7_cared_8 rfl km_X7_isSide kk_X7_71 rfl ⟨rfl, by decide⟩ rfl (Nat.le_of_ble_eq_true rfl) (Nat.zero_add _) (Nat.zero_add _) rfl ?_
      refine c_X7_isSide (fun hw6 => ?_) (fun hw6 => ?_)
      · refine aw_re (S' := [.int 1]) rfl ?_
        refine aw_if_eq (npc := 14) (tgt := 23) dX7_cared_11 rfl (by decide) (fun hc => absurd hc (by decide)) (fun _ => ?_)
        refine aw_iload_n (npc := 15) rfl dX7_cared_14 rfl ?_
        refine aw_iconst (npc := 16) (v := 0) (by decide) dX7_cared_15 rfl ?_
        refine aw_iconst (npc := 17) (v := 1) (by decide) dX7_cared_16 rfl ?_
        refine aw_callS (npc := 20) (N := mX7_within) (mc := 0) (ms := 0) (A := [.int w, .int 0, .int 1]) (S := []) (L0 := [some (.int w), some (.int 0), some (.int 1)]) dX7_cared_17 rfl km_X7_within kk_X7_74 rfl ⟨rfl, by decide⟩ rfl (Nat.le_of_ble_eq_true rfl) (Nat.zero_add _) (Nat.zero_add _) rfl ?_
        refine c_X7_within (fun hw7 => ?_) (fun hw7 => ?_)
        · refine aw_re (S' := [.int 1]) rfl ?_
          refine aw_if_ne (npc := 23) (tgt := 26) dX7_cared_20 rfl (by decide) (fun _ => ?_) (fun hc => absurd hc (by decide))
          refine aw_aload_n (npc := 27) rfl dX7_cared_26 rfl ?_
          refine aw_get (npc := 30) dX7_cared_27 rfl kf_X7_47 f0 rfl ?_
          refine aw_iload_n (npc := 31) rfl dX7_cared_30 rfl ?_
          refine aw_aald (npc := 32) (j := 2) dX7_cared_31 rfl (by decide) f43 ⟨by decide, by decide⟩ rfl ?_
          refine aw_astore (npc := 34) (L' := [some (.ref 0), some (.int 2), some (.int t), some (.int w), some (.ref 50), none, none, none, none]) dX7_cared_32 rfl (by decide) rfl rfl ?_
          refine aw_aload (npc := 36) rfl dX7_cared_34 rfl ?_
          refine aw_callV (npc := 39) (N := mX2_isMissing) (b := 50) (mc := 0) (ms := 0) (A := []) (S := []) (L0 := [some (.ref 50)]) dX7_cared_36 rfl km_X2_isMissing kk_X7_207 f50 ⟨by decide, rfl⟩ rfl ⟨rfl, by decide⟩ rfl (Nat.le_of_ble_eq_true rfl) (Nat.zero_add _) (Nat.zero_add _) rfl ?_
          refine aw_aload_n (npc := 1) rfl dX2_isMissing_0 rfl ?_
          refine aw_get (npc := 4) dX2_isMissing_1 rfl kf_X2_9 f50 rfl ?_
          refine aw_iconst (npc := 5) (v := -1) (by decide) dX2_isMissing_4 rfl ?_
          refine aw_icmp_ne (npc := 8) (tgt := 12) dX2_isMissing_5 rfl (by decide) (fun hc => absurd (by decide) hc) (fun _ => ?_)
          refine aw_iconst (npc := 9) (v := 1) (by decide) dX2_isMissing_8 rfl ?_
          refine aw_goto (npc := 13) dX2_isMissing_9 (by decide) ?_
          refine aw_zret rfl rfl dX2_isMissing_13 ?_
          refine aw_re (S' := [.int 1]) rfl ?_
          refine aw_if_eq (npc := 42) (tgt := 45) dX7_cared_39 rfl (by decide) (fun hc => absurd hc (by decide)) (fun _ => ?_)
          refine aw_ldc (npc := 44) kc_X7_210 dX7_cared_42 rfl ?_
          refine aw_iret rfl dX7_cared_44 ?_
          exact fin_c hq am_fr0 (show sp_cared 2 t w = (-1000000011) from (by unfold sp_cared; first | rfl | (simp only [wif_t hw1, wif_t hw6, wif_t hw7, wif_same, ite_self]; done) | (simp only [wif_t hw1, wif_t hw6, wif_t hw7, wif_same, ite_self]; rfl) | (simp [wif_t hw1, wif_t hw6, wif_t hw7, wif_same]; done)))
        · refine aw_re (S' := [.int 0]) rfl ?_
          refine aw_if_ne (npc := 23) (tgt := 26) dX7_cared_20 rfl (by decide) (fun hc => absurd (by decide) hc) (fun _ => ?_)
          refine aw_ldc (npc := 25) kc_X7_78 dX7_cared_23 rfl ?_
          refine aw_iret rfl dX7_cared_25 ?_
          exact fin_c hq am_fr0 (show sp_cared 2 t w = (-1000000001) from (by unfold sp_cared; first | rfl | (simp only [wif_t hw1, wif_t hw6, wif_f hw7, wif_same, ite_self]; done) | (simp only [wif_t hw1, wif_t hw6, wif_f hw7, wif_same, ite_self]; rfl) | (simp [wif_t hw1, wif_t hw6, wif_f hw7, wif_same]; done)))
      · refine aw_re (S' := [.int 0]) rfl ?_
        refine aw_if_eq (npc := 14) (tgt := 23) dX7_cared_11 rfl (by decide) (fun _ => ?_) (fun hc => absurd (by decide) hc)
        refine aw_ldc (npc := 25) kc_X7_78 dX7_cared_23 rfl ?_
        refine aw_iret rfl dX7_cared_25 ?_
        exact fin_c hq am_fr0 (show sp_cared 2 t w = (-1000000001) from (by unfold sp_cared; first | rfl | (simp only [wif_t hw1, wif_f hw6, wif_same, ite_self]; done) | (simp only [wif_t hw1, wif_f hw6, wif_same, ite_self]; rfl) | (simp [wif_t hw1, wif_f hw6, wif_same]; done)))
    · refine aw_re (S' := [.int 1]) rfl ?_
      refine aw_if_eq (npc := 7) (tgt := 23) dX7_cared_4 rfl (by decide) (fun hc => absurd hc (by decide)) (fun _ => ?_)
      refine aw_iload_n (npc := 8) rfl dX7_cared_7 rfl ?_
      refine aw_callS (npc := 11) (N := mX7_isSide) (mc := 0) (ms := 0) (A := [.int t]) (S := []) (L0 := [some (.int t)]) dX7_cared_8 rfl km_X7_isSide kk_X7_71 rfl ⟨rfl, by decide⟩ rfl (Nat.le_of_ble_eq_true rfl) (Nat.zero_add _) (Nat.zero_add _) rfl ?_
      refine c_X7_isSide (fun hw8 => ?_) (fun hw8 => ?_)
      · refine aw_re (S' := [.int 1]) rfl ?_
        refine aw_if_eq (npc := 14) (tgt := 23) dX7_cared_11 rfl (by decide) (fun hc => absurd hc (by decide)) (fun _ => ?_)
        refine aw_iload_n (npc := 15) rfl dX7_cared_14 rfl ?_
        refine aw_iconst (npc := 16) (v := 0) (by decide) dX7_cared_15 rfl ?_
        refine aw_iconst (npc := 17) (v := 1) (by decide) dX7_cared_16 rfl ?_
        refine aw_callS (npc := 20) (N := mX7_within) (mc := 0) (ms := 0) (A := [.int w, .int 0, .int 1]) (S := []) (L0 := [some (.int w), some (.int 0), some (.int 1)]) dX7_cared_17 rfl km_X7_within kk_X7_74 rfl ⟨rfl, by decide⟩ rfl (Nat.le_of_ble_eq_true rfl) (Nat.zero_add _) (Nat.zero_add _) rfl ?_
        refine c_X7_within (fun hw9 => ?_) (fun hw9 => ?_)
        · refine aw_re (S' := [.int 1]) rfl ?_
          refine aw_if_ne (npc := 23) (tgt := 26) dX7_cared_20 rfl (by decide) (fun _ => ?_) (fun hc => absurd hc (by decide))
          refine aw_aload_n (npc := 27) rfl dX7_cared_26 rfl ?_
          refine aw_get (npc := 30) dX7_cared_27 rfl kf_X7_47 f0 rfl ?_
          refine aw_iload_n (npc := 31) rfl dX7_cared_30 rfl ?_
          refine aw_aald (npc := 32) (j := 3) dX7_cared_31 rfl (by decide) f43 ⟨by decide, by decide⟩ rfl ?_
          refine aw_astore (npc := 34) (L' := [some (.ref 0), some (.int 3), some (.int t), some (.int w), some (.ref 52), none, none, none, none]) dX7_cared_32 rfl (by decide) rfl rfl ?_
          refine aw_aload (npc := 36) rfl dX7_cared_34 rfl ?_
          refine aw_callV (npc := 39) (N := mX2_isMissing) (b := 52) (mc := 0) (ms := 0) (A := []) (S := []) (L0 := [some (.ref 52)]) dX7_cared_36 rfl km_X2_isMissing kk_X7_207 f52 ⟨by decide, rfl⟩ rfl ⟨rfl, by decide⟩ rfl (Nat.le_of_ble_eq_true rfl) (Nat.zero_add _) (Nat.zero_add _) rfl ?_
          refine aw_aload_n (npc := 1) rfl dX2_isMissing_0 rfl ?_
          refine aw_get (npc := 4) dX2_isMissing_1 rfl kf_X2_9 f52 rfl ?_
          refine aw_iconst (npc := 5) (v := -1) (by decide) dX2_isMissing_4 rfl ?_
          refine aw_icmp_ne (npc := 8) (tgt := 12) dX2_isMissing_5 rfl (by decide) (fun hc => absurd (by decide) hc) (fun _ => ?_)
          refine aw_iconst (npc := 9) (v := 1) (by decide) dX2_isMissing_8 rfl ?_
          refine aw_goto (npc := 13) dX2_isMissing_9 (by decide) ?_
          refine aw_zret rfl rfl dX2_isMissing_13 ?_
          refine aw_re (S' := [.int 1]) rfl ?_
          refine aw_if_eq (npc := 42) (tgt := 45) dX7_cared_39 rfl (by decide) (fun hc => absurd hc (by decide)) (fun _ => ?_)
          refine aw_ldc (npc := 44) kc_X7_210 dX7_cared_42 rfl ?_
          refine aw_iret rfl dX7_cared_44 ?_
          exact fin_c hq am_fr0 (show sp_cared 3 t w = (-1000000011) from (by unfold sp_cared; first | rfl | (simp only [wif_t hw1, wif_t hw8, wif_t hw9, wif_same, ite_self]; done) | (simp only [wif_t hw1, wif_t hw8, wif_t hw9, wif_same, ite_self]; rfl) | (simp [wif_t hw1, wif_t hw8, wif_t hw9, wif_same]; done)))
        · refine aw_re (S' := [.int 0]) rfl ?_
          refine aw_if_ne (npc := 23) (tgt := 26) dX7_cared_20 rfl (by decide) (fun hc => absurd (by decide) hc) (fun _ => ?_)
          refine aw_ldc (npc := 25) kc_X7_78 dX7_cared_23 rfl ?_
          refine aw_iret rfl dX7_cared_25 ?_
          exact fin_c hq am_fr0 (show sp_cared 3 t w = (-1000000001) from (by unfold sp_cared; first | rfl | (simp only [wif_t hw1, wif_t hw8, wif_f hw9, wif_same, ite_self]; done) | (simp only [wif_t hw1, wif_t hw8, wif_f hw9, wif_same, ite_self]; rfl) | (simp [wif_t hw1, wif_t hw8, wif_f hw9, wif_same]; done)))
      · refine aw_re (S' := [.int 0]) rfl ?_
        refine aw_if_eq (npc := 14) (tgt := 23) dX7_cared_11 rfl (by decide) (fun _ => ?_) (fun hc => absurd (by decide) hc)
        refine aw_ldc (npc := 25) kc_X7_78 dX7_cared_23 rfl ?_
        refine aw_iret rfl dX7_cared_25 ?_
        exact fin_c hq am_fr0 (show sp_cared 3 t w = (-1000000001) from (by unfold sp_cared; first | rfl | (simp only [wif_t hw1, wif_f hw8, wif_same, ite_self]; done) | (simp only [wif_t hw1, wif_f hw8, wif_same, ite_self]; rfl) | (simp [wif_t hw1, wif_f hw8, wif_same]; done)))
  · refine aw_re (S' := [.int 0]) rfl ?_
    refine aw_if_eq (npc := 7) (tgt := 23) dX7_cared_4 rfl (by decide) (fun _ => ?_) (fun hc => absurd (by decide) hc)
    refine aw_ldc (npc := 25) kc_X7_78 dX7_cared_23 rfl ?_
    refine aw_iret rfl dX7_cared_25 ?_
    exact fin_c hq am_fr0 (show sp_cared s t w = (-1000000001) from (by unfold sp_cared; first | rfl | (simp only [wif_f hw1, wif_same, ite_self]; done) | (simp only [wif_f hw1, wif_same, ite_self]; rfl) | (simp [wif_f hw1, wif_same]; done)))
set_option maxHeartbeats 40000000 in
set_option maxRecDepth 100000 in
theorem p_X8_cared {X : List Int32} {d rc rs : Nat} {h : am_H} {Q : am_Q} {s : Int32} {t : Int32} {w : Int32} (F : f0_X8 h) (hq : ∀ n9 h9, Q (some (.int (sp_cared s t w))) n9 h9) : AW X mX8_cared (d + 12) rc rs 0 [some (.ref 69), some (.int s), some (.int t), some (.int w), none, none, none, none, none, none] [] 92 h Q := by
  obtain ⟨g69, -, -, -, -, -, -, -, -, -, -, -, -, -, g83, -, -, -, -, -, -, -, -⟩ := F
  refine aw_iload_n (npc := 1) rfl dX8_cared_0 rfl ?_
  refine aw_callS (npc := 4) (N := mX8_isSheet) (mc := 0) (ms := 0) (A := [.int s]) (S := []) (L0 := [some (.int s)]) dX8_cared_1 rfl km_X8_isSheet kk_X8_184 rfl ⟨rfl, by decide⟩ rfl (Nat.le_of_ble_eq_true rfl) (Nat.zero_add _) (Nat.zero_add _) rfl ?_
  refine c_X8_isSheet (fun hw1 => ?_) (fun hw1 => ?_)
  · rcases wi_c0_3 hw1 with rfl | rfl | rfl | rfl
    · refine aw_re (S' := [.int 1]) rfl ?_
      refine aw_if_eq (npc := 7) (tgt := 25) dX8_cared_4 rfl (by decide) (fun hc => absurd hc (by decide)) (fun _ => ?_)
      refine aw_iload_n (npc := 8) rfl dX8_cared_7 rfl ?_
      refine aw_iconst (npc := 9) (v := 0) (by decide) dX8_cared_8 rfl ?_
      refine aw_iconst (npc := 10) (v := 1) (by decide) dX8_cared_9 rfl ?_
      refine aw_callS (npc := 13) (N := mX8_in) (mc := 0) (ms := 0) (A := [.int t, .int 0, .int 1]) (S := []) (L0 := [some (.int t), some (.int 0), some (.int 1)]) dX8_cared_10 rfl km_X8_in kk_X8_83 rfl ⟨rfl, by decide⟩ rfl (Nat.le_of_ble_eq_true rfl) (Nat.zero_add _) (Nat.zero_add _) rfl ?_
      refine c_X8_in (fun hw2 => ?_) (fun hw2 => ?_)
      · refine aw_re (S' := [.int 1]) rfl ?_
        refine aw_if_eq (npc := 16) (tgt := 25) dX8_cared_13 rfl (by decide) (fun hc => absurd hc (by decide)) (fun _ => ?_)
        refine aw_iload_n (npc := 17) rfl dX8_cared_16 rfl ?_
        refine aw_iconst (npc := 18) (v := 0) (by decide) dX8_cared_17 rfl ?_
        refine aw_iconst (npc := 19) (v := 1) (by decide) dX8_cared_18 rfl ?_
        refine aw_callS (npc := 22) (N := mX8_in) (mc := 0) (ms := 0) (A := [.int w, .int 0, .int 1]) (S := []) (L0 := [some (.int w), some (.int 0), some (.int 1)]) dX8_cared_19 rfl km_X8_in kk_X8_83 rfl ⟨rfl, by decide⟩ rfl (Nat.le_of_ble_eq_true rfl) (Nat.zero_add _) (Nat.zero_add _) rfl ?_
        refine c_X8_in (fun hw3 => ?_) (fun hw3 => ?_)
        · refine aw_re (S' := [.int 1]) rfl ?_
          refine aw_if_ne (npc := 25) (tgt := 28) dX8_cared_22 rfl (by decide) (fun _ => ?_) (fun hc => absurd hc (by decide))
          refine aw_aload_n (npc := 29) rfl dX8_cared_28 rfl ?_
          refine aw_get (npc := 32) dX8_cared_29 rfl kf_X8_55 g69 rfl ?_
          refine aw_iload_n (npc := 33) rfl dX8_cared_32 rfl ?_
          refine aw_iald (npc := 34) (x := (-1)) (j := 0) dX8_cared_33 rfl g83 ⟨by decide, by decide⟩ rfl ?_
          refine aw_if_ge (npc := 37) (tgt := 40) dX8_cared_34 rfl (by decide) (fun hc => absurd hc (by decide)) (fun _ => ?_)
          refine aw_ldc (npc := 39) kc_X8_187 dX8_cared_37 rfl ?_
          refine aw_iret rfl dX8_cared_39 ?_
          exact fin_m hq (show sp_cared 0 t w = (-1000000011) from (by unfold sp_cared; first | rfl | (simp only [wif_t hw1, wif_t hw2, wif_t hw3, wif_same, ite_self]; done) | (simp only [wif_t hw1, wif_t hw2, wif_t hw3, wif_same, ite_self]; rfl) | (simp [wif_t hw1, wif_t hw2, wif_t hw3, wif_same]; done)))
        · refine aw_re (S' := [.int 0]) rfl ?_
          refine aw_if_ne (npc := 25) (tgt := 28) dX8_cared_22 rfl (by decide) (fun hc => absurd (by decide) hc) (fun _ => ?_)
          refine aw_ldc (npc := 27) kc_X8_91 dX8_cared_25 rfl ?_
          refine aw_iret rfl dX8_cared_27 ?_
          exact fin_m hq (show sp_cared 0 t w = (-1000000001) from (by unfold sp_cared; first | rfl | (simp only [wif_t hw1, wif_t hw2, wif_f hw3, wif_same, ite_self]; done) | (simp only [wif_t hw1, wif_t hw2, wif_f hw3, wif_same, ite_self]; rfl) | (simp [wif_t hw1, wif_t hw2, wif_f hw3, wif_same]; done)))
      · refine aw_re (S' := [.int 0]) rfl ?_
        refine aw_if_eq (npc := 16) (tgt := 25) dX8_cared_13 rfl (by decide) (fun _ => ?_) (fun hc => absurd (by decide) hc)
        refine aw_ldc (npc := 27) kc_X8_91 dX8_cared_25 rfl ?_
        refine aw_iret rfl dX8_cared_27 ?_
        exact fin_m hq (show sp_cared 0 t w = (-1000000001) from (by unfold sp_cared; first | rfl | (simp only [wif_t hw1, wif_f hw2, wif_same, ite_self]; done) | (simp only [wif_t hw1, wif_f hw2, wif_same, ite_self]; rfl) | (simp [wif_t hw1, wif_f hw2, wif_same]; done)))
    · refine aw_re (S' := [.int 1]) rfl ?_
      refine aw_if_eq (npc := 7) (tgt := 25) dX8_cared_4 rfl (by decide) (fun hc => absurd hc (by decide)) (fun _ => ?_)
      refine aw_iload_n (npc := 8) rfl dX8_cared_7 rfl ?_
      refine aw_iconst (npc := 9) (v := 0) (by decide) dX8_cared_8 rfl ?_
      refine aw_iconst (npc := 10) (v := 1) (by decide) dX8_cared_9 rfl ?_
      refine aw_callS (npc := 13) (N := mX8_in) (mc := 0) (ms := 0) (A := [.int t, .int 0, .int 1]) (S := []) (L0 := [some (.int t), some (.int 0), some (.int 1)]) dX8_cared_10 rfl km_X8_in kk_X8_83 rfl ⟨rfl, by decide⟩ rfl (Nat.le_of_ble_eq_true rfl) (Nat.zero_add _) (Nat.zero_add _) rfl ?_
      refine c_X8_in (fun hw4 => ?_) (fun hw4 => ?_)
      · refine aw_re (S' := [.int 1]) rfl ?_
        refine aw_if_eq (npc := 16) (tgt := 25) dX8_cared_13 rfl (by decide) (fun hc => absurd hc (by decide)) (fun _ => ?_)
        refine aw_iload_n (npc := 17) rfl dX8_cared_16 rfl ?_
        refine aw_iconst (npc := 18) (v := 0) (by decide) dX8_cared_17 rfl ?_
        refine aw_iconst (npc := 19) (v := 1) (by decide) dX8_cared_18 rfl ?_
        refine aw_callS (npc := 22) (N := mX8_in) (mc := 0) (ms := 0) (A := [.int w, .int 0, .int 1]) (S := []) (L0 := [some (.int w), some (.int 0), some (.int 1)]) dX8_cared_19 rfl km_X8_in kk_X8_83 rfl ⟨rfl, by decide⟩ rfl (Nat.le_of_ble_eq_true rfl) (Nat.zero_add _) (Nat.zero_add _) rfl ?_
        refine c_X8_in (fun hw5 => ?_) (fun hw5 => ?_)
        · refine aw_re (S' := [.int 1]) rfl ?_
          refine aw_if_ne (npc := 25) (tgt := 28) dX8_cared_22 rfl (by decide) (fun _ => ?_) (fun hc => absurd hc (by decide))
          refine aw_aload_n (npc := 29) rfl dX8_cared_28 rfl ?_
          refine aw_get (npc := 32) dX8_cared_29 rfl kf_X8_55 g69 rfl ?_
          refine aw_iload_n (npc := 33) rfl dX8_cared_32 rfl ?_
          refine aw_iald (npc := 34) (x := (-1)) (j := 1) dX8_cared_33 rfl g83 ⟨by decide, by decide⟩ rfl ?_
          refine aw_if_ge (npc := 37) (tgt := 40) dX8_cared_34 rfl (by decide) (fun hc => absurd hc (by decide)) (fun _ => ?_)
          refine aw_ldc (npc := 39) kc_X8_187 dX8_cared_37 rfl ?_
          refine aw_iret rfl dX8_cared_39 ?_
          exact fin_m hq (show sp_cared 1 t w = (-1000000011) from (by unfold sp_cared; first | rfl | (simp only [wif_t hw1, wif_t hw4, wif_t hw5, wif_same, ite_self]; done) | (simp only [wif_t hw1, wif_t hw4, wif_t hw5, wif_same, ite_self]; rfl) | (simp [wif_t hw1, wif_t hw4, wif_t hw5, wif_same]; done)))
        · refine aw_re (S' := [.int 0]) rfl ?_
          refine aw_if_ne (npc := 25) (tgt := 28) dX8_cared_22 rfl (by decide) (fun hc => absurd (by decide) hc) (fun _ => ?_)
          refine aw_ldc (npc := 27) kc_X8_91 dX8_cared_25 rfl ?_
          refine aw_iret rfl dX8_cared_27 ?_
          exact fin_m hq (show sp_cared 1 t w = (-1000000001) from (by unfold sp_cared; first | rfl | (simp only [wif_t hw1, wif_t hw4, wif_f hw5, wif_same, ite_self]; done) | (simp only [wif_t hw1, wif_t hw4, wif_f hw5, wif_same, ite_self]; rfl) | (simp [wif_t hw1, wif_t hw4, wif_f hw5, wif_same]; done)))
      · refine aw_re (S' := [.int 0]) rfl ?_
        refine aw_if_eq (npc := 16) (tgt := 25) dX8_cared_13 rfl (by decide) (fun _ => ?_) (fun hc => absurd (by decide) hc)
        refine aw_ldc (npc := 27) kc_X8_91 dX8_cared_25 rfl ?_
        refine aw_iret rfl dX8_cared_27 ?_
        exact fin_m hq (show sp_cared 1 t w = (-1000000001) from (by unfold sp_cared; first | rfl | (simp only [wif_t hw1, wif_f hw4, wif_same, ite_self]; done) | (simp only [wif_t hw1, wif_f hw4, wif_same, ite_self]; rfl) | (simp [wif_t hw1, wif_f hw4, wif_same]; done)))
    · refine aw_re (S' := [.int 1]) rfl ?_
      refine aw_if_eq (npc := 7) (tgt := 25) dX8_cared_4 rfl (by decide) (fun hc => absurd hc (by decide)) (fun _ => ?_)
      refine aw_iload_n (npc := 8) rfl dX8_cared_7 rfl ?_
      refine aw_iconst (npc := 9) (v := 0) (by decide) dX8_cared_8 rfl ?_
      refine aw_iconst (npc := 10) (v := 1) (by decide) dX8_cared_9 rfl ?_
      refine aw_callS (npc := 13) (N := mX8_in) (mc := 0) (ms := 0) (A := [.int t, .int 0, .int 1]) (S := []) (L0 := [some (.int t), some (.int 0), some (.int 1)]) dX8_cared_10 rfl km_X8_in kk_X8_83 rfl ⟨rfl, by decide⟩ rfl (Nat.le_of_ble_eq_true rfl) (Nat.zero_add _) (Nat.zero_add _) rfl ?_
      refine c_X8_in (fun hw6 => ?_) (fun hw6 => ?_)
      · refine aw_re (S' := [.int 1]) rfl ?_
        refine aw_if_eq (npc := 16) (tgt := 25) dX8_cared_13 rfl (by decide) (fun hc => absurd hc (by decide)) (fun _ => ?_)
        refine aw_iload_n (npc := 17) rfl dX8_cared_16 rfl ?_
        refine aw_iconst (npc := 18) (v := 0) (by decide) dX8_cared_17 rfl ?_
        refine aw_iconst (npc := 19) (v := 1) (by decide) dX8_cared_18 rfl ?_
        refine aw_callS (npc := 22) (N := mX8_in) (mc := 0) (ms := 0) (A := [.int w, .int 0, .int 1]) (S := []) (L0 := [some (.int w), some (.int 0), some (.int 1)]) dX8_cared_19 rfl km_X8_in kk_X8_83 rfl ⟨rfl, by decide⟩ rfl (Nat.le_of_ble_eq_true rfl) (Nat.zero_add _) (Nat.zero_add _) rfl ?_
        refine c_X8_in (fun hw7 => ?_) (fun hw7 => ?_)
        · refine aw_re (S' := [.int 1]) rfl ?_
          refine aw_if_ne (npc := 25) (tgt := 28) dX8_cared_22 rfl (by decide) (fun _ => ?_) (fun hc => absurd hc (by decide))
          refine aw_aload_n (npc := 29) rfl dX8_cared_28 rfl ?_
          refine aw_get (npc := 32) dX8_cared_29 rfl kf_X8_55 g69 rfl ?_
          refine aw_iload_n (npc := 33) rfl dX8_cared_32 rfl ?_
          refine aw_iald (npc := 34) (x := (-1)) (j := 2) dX8_cared_33 rfl g83 ⟨by decide, by decide⟩ rfl ?_
          refine aw_if_ge (npc := 37) (tgt := 40) dX8_cared_34 rfl (by decide) (fun hc => absurd hc (by decide)) (fun _ => ?_)
          refine aw_ldc (npc := 39) kc_X8_187 dX8_cared_37 rfl ?_
          refine aw_iret rfl dX8_cared_39 ?_
          exact fin_m hq (show sp_cared 2 t w = (-1000000011) from (by unfold sp_cared; first | rfl | (simp only [wif_t hw1, wif_t hw6, wif_t hw7, wif_same, ite_self]; done) | (simp only [wif_t hw1, wif_t hw6, wif_t hw7, wif_same, ite_self]; rfl) | (simp [wif_t hw1, wif_t hw6, wif_t hw7, wif_same]; done)))
        · refine aw_re (S' := [.int 0]) rfl ?_
          refine aw_if_ne (npc := 25) (tgt := 28) dX8_cared_22 rfl (by decide) (fun hc => absurd (by decide) hc) (fun _ => ?_)
          refine aw_ldc (npc := 27) kc_X8_91 dX8_cared_25 rfl ?_
          refine aw_iret rfl dX8_cared_27 ?_
          exact fin_m hq (show sp_cared 2 t w = (-1000000001) from (by unfold sp_cared; first | rfl | (simp only [wif_t hw1, wif_t hw6, wif_f hw7, wif_same, ite_self]; done) | (simp only [wif_t hw1, wif_t hw6, wif_f hw7, wif_same, ite_self]; rfl) | (simp [wif_t hw1, wif_t hw6, wif_f hw7, wif_same]; done)))
      · refine aw_re (S' := [.int 0]) rfl ?_
        refine aw_if_eq (npc := 16) (tgt := 25) dX8_cared_13 rfl (by decide) (fun _ => ?_) (fun hc => absurd (by decide) hc)
        refine aw_ldc (npc := 27) kc_X8_91 dX8_cared_25 rfl ?_
        refine aw_iret rfl dX8_cared_27 ?_
        exact fin_m hq (show sp_cared 2 t w = (-1000000001) from (by unfold sp_cared; first | rfl | (simp only [wif_t hw1, wif_f hw6, wif_same, ite_self]; done) | (simp only [wif_t hw1, wif_f hw6, wif_same, ite_self]; rfl) | (simp [wif_t hw1, wif_f hw6, wif_same]; done)))
    · refine aw_re (S' := [.int 1]) rfl ?_
      refine aw_if_eq (npc := 7) (tgt := 25) dX8_cared_4 rfl (by decide) (fun hc => absurd hc (by decide)) (fun _ => ?_)
      refine aw_iload_n (npc := 8) rfl dX8_cared_7 rfl ?_
      refine aw_iconst (npc := 9) (v := 0) (by decide) dX8_cared_8 rfl ?_
      refine aw_iconst (npc := 10) (v := 1) (by decide) dX8_cared_9 rfl ?_
      refine aw_callS (npc := 13) (N := mX8_in) (mc := 0) (ms := 0) (A := [.int t, .int 0, .int 1]) (S := []) (L0 := [some (.int t), some (.int 0), some (.int 1)]) dX8_cared_10 rfl km_X8_in kk_X8_83 rfl ⟨rfl, by decide⟩ rfl (Nat.le_of_ble_eq_true rfl) (Nat.zero_add _) (Nat.zero_add _) rfl ?_
      refine c_X8_in (fun hw8 => ?_) (fun hw8 => ?_)
      · refine aw_re (S' := [.int 1]) rfl ?_
        refine aw_if_eq (npc := 16) (tgt := 25) dX8_cared_13 rfl (by decide) (fun hc => absurd hc (by decide)) (fun _ => ?_)
        refine aw_iload_n (npc := 17) rfl dX8_cared_16 rfl ?_
        refine aw_iconst (npc := 18) (v := 0) (by decide) dX8_cared_17 rfl ?_
        refine aw_iconst (npc := 19) (v := 1) (by decide) dX8_cared_18 rfl ?_
        refine aw_callS (npc := 22) (N := mX8_in) (mc := 0) (ms := 0) (A := [.int w, .int 0, .int 1]) (S := []) (L0 := [some (.int w), some (.int 0), some (.int 1)]) dX8_cared_19 rfl km_X8_in kk_X8_83 rfl ⟨rfl, by decide⟩ rfl (Nat.le_of_ble_eq_true rfl) (Nat.zero_add _) (Nat.zero_add _) rfl ?_
        refine c_X8_in (fun hw9 => ?_) (fun hw9 => ?_)
        · refine aw_re (S' := [.int 1]) rfl ?_
          refine aw_if_ne (npc := 25) (tgt := 28) dX8_cared_22 rfl (by decide) (fun _ => ?_) (fun hc => absurd hc (by decide))
          refine aw_aload_n (npc := 29) rfl dX8_cared_28 rfl ?_
          refine aw_get (npc := 32) dX8_cared_29 rfl kf_X8_55 g69 rfl ?_
          refine aw_iload_n (npc := 33) rfl dX8_cared_32 rfl ?_
          refine aw_iald (npc := 34) (x := (-1)) (j := 3) dX8_cared_33 rfl g83 ⟨by decide, by decide⟩ rfl ?_
          refine aw_if_ge (npc := 37) (tgt := 40) dX8_cared_34 rfl (by decide) (fun hc => absurd hc (by decide)) (fun _ => ?_)
          refine aw_ldc (npc := 39) kc_X8_187 dX8_cared_37 rfl ?_
          refine aw_iret rfl dX8_cared_39 ?_
          exact fin_m hq (show sp_cared 3 t w = (-1000000011) from (by unfold sp_cared; first | rfl | (simp only [wif_t hw1, wif_t hw8, wif_t hw9, wif_same, ite_self]; done) | (simp only [wif_t hw1, wif_t hw8, wif_t hw9, wif_same, ite_self]; rfl) | (simp [wif_t hw1, wif_t hw8, wif_t hw9, wif_same]; done)))
        · refine aw_re (S' := [.int 0]) rfl ?_
          refine aw_if_ne (npc := 25) (tgt := 28) dX8_cared_22 rfl (by decide) (fun hc => absurd (by decide) hc) (fun _ => ?_)
          refine aw_ldc (npc := 27) kc_X8_91 dX8_cared_25 rfl ?_
          refine aw_iret rfl dX8_cared_27 ?_
          exact fin_m hq (show sp_cared 3 t w = (-1000000001) from (by unfold sp_cared; first | rfl | (simp only [wif_t hw1, wif_t hw8, wif_f hw9, wif_same, ite_self]; done) | (simp only [wif_t hw1, wif_t hw8, wif_f hw9, wif_same, ite_self]; rfl) | (simp [wif_t hw1, wif_t hw8, wif_f hw9, wif_same]; done)))
      · refine aw_re (S' := [.int 0]) rfl ?_
        refine aw_if_eq (npc := 16) (tgt := 25) dX8_cared_13 rfl (by decide) (fun _ => ?_) (fun hc => absurd (by decide) hc)
        refine aw_ldc (npc := 27) kc_X8_91 dX8_cared_25 rfl ?_
        refine aw_iret rfl dX8_cared_27 ?_
        exact fin_m hq (show sp_cared 3 t w = (-1000000001) from (by unfold sp_cared; first | rfl | (simp only [wif_t hw1, wif_f hw8, wif_same, ite_self]; done) | (simp only [wif_t hw1, wif_f hw8, wif_same, ite_self]; rfl) | (simp [wif_t hw1, wif_f hw8, wif_same]; done)))
  · refine aw_re (S' := [.int 0]) rfl ?_
    refine aw_if_eq (npc := 7) (tgt := 25) dX8_cared_4 rfl (by decide) (fun _ => ?_) (fun hc => absurd (by decide) hc)
    refine aw_ldc (npc := 27) kc_X8_91 dX8_cared_25 rfl ?_
    refine aw_iret rfl dX8_cared_27 ?_
    exact fin_m hq (show sp_cared s t w = (-1000000001) from (by unfold sp_cared; first | rfl | (simp only [wif_f hw1, wif_same, ite_self]; done) | (simp only [wif_f hw1, wif_same, ite_self]; rfl) | (simp [wif_f hw1, wif_same]; done)))
noncomputable def sp_fee : Int32 := 0
set_option maxHeartbeats 40000000 in
set_option maxRecDepth 100000 in
theorem p_X7_fee {X : List Int32} {d rc rs : Nat} {h : am_H} {Q : am_Q} (F : f0_X7 h) (hq : ∀ h9, am_fr 69 h9 h → Q (some (.int (sp_fee))) 92 h9) : AW X mX7_fee (d + 12) rc rs 0 [some (.ref 0), none] [] 92 h Q := by
  obtain ⟨f0, f1, -, -, -, -, -, -, -, -, -, f11, -, -, -, -, -, -, -, -, -, -, -, -, -, -, -, -, -, -, -, -, -, -, -, -, -, -, -, -, -, -, -, -, -, -, -, -, -, -, -, -, -, -, -, -, -, -, -, -, -, -, -, -, -, -, -, -, -⟩ := F
  refine aw_aload_n (npc := 1) rfl dX7_fee_0 rfl ?_
  refine aw_get (npc := 4) dX7_fee_1 rfl kf_X7_10 f0 rfl ?_
  refine aw_iconst (npc := 5) (v := 1) (by decide) dX7_fee_4 rfl ?_
  refine aw_callV (npc := 8) (N := mX0_textFor) (b := 1) (mc := 0) (ms := 0) (A := [.int 1]) (S := []) (L0 := [some (.ref 1), some (.int 1), none]) dX7_fee_5 rfl km_X0_textFor kk_X7_224 f1 ⟨by decide, rfl⟩ rfl ⟨rfl, by decide⟩ rfl (Nat.le_of_ble_eq_true rfl) (Nat.zero_add _) (Nat.zero_add _) rfl ?_
  refine aw_aload_n (npc := 1) rfl dX0_textFor_0 rfl ?_
  refine aw_get (npc := 4) dX0_textFor_1 rfl kf_X0_67 f1 rfl ?_
  refine aw_iload_n (npc := 5) rfl dX0_textFor_4 rfl ?_
  refine aw_iald (npc := 6) (x := (-1)) (j := 1) dX0_textFor_5 rfl f11 ⟨by decide, by decide⟩ rfl ?_
  refine aw_istore_n (npc := 7) (L' := [some (.ref 1), some (.int 1), some (.int (-1))]) dX0_textFor_6 rfl (by decide) rfl rfl ?_
  refine aw_iload_n (npc := 8) rfl dX0_textFor_7 rfl ?_
  refine aw_iconst (npc := 9) (v := 0) (by decide) dX0_textFor_8 rfl ?_
  refine aw_aload_n (npc := 10) rfl dX0_textFor_9 rfl ?_
  refine aw_get (npc := 13) dX0_textFor_10 rfl kf_X0_64 f1 rfl ?_
  refine aw_iconst (npc := 14) (v := 1) (by decide) dX0_textFor_13 rfl ?_
  refine aw_isubV (npc := 15) (v := -1) dX0_textFor_14 rfl (by decide) ?_
  refine aw_callSN (npc := 18) (N := mX7_within) (mc := 0) (ms := 0) (A := [.int (-1), .int 0, .int (-1)]) (S := []) (L0 := [some (.int (-1)), some (.int 0), some (.int (-1))]) dX0_textFor_15 rfl km_X7_within kk_X0_79 rfl ⟨rfl, by decide⟩ rfl (Nat.le_of_ble_eq_true rfl) (Nat.zero_add _) (Nat.zero_add _) rfl ?_
  refine c_X7_within (fun hw1 => absurd hw1 (wi_no (by decide))) (fun _ => ?_)
  refine aw_re (S' := [.int 0]) rfl ?_
  refine aw_if_eq (npc := 21) (tgt := 30) dX0_textFor_18 rfl (by decide) (fun _ => ?_) (fun hc => absurd (by decide) hc)
  refine aw_null (npc := 31) dX0_textFor_30 rfl ?_
  refine aw_aretN rfl (Or.inl ⟨_, rfl⟩) dX0_textFor_31 ?_
  refine aw_re (S' := [.null]) rfl ?_
  refine aw_astore_nN (npc := 9) (L' := [some (.ref 0), some (.null)]) dX7_fee_8 rfl (by decide) rfl rfl ?_
  refine aw_aload_nN (npc := 10) rfl dX7_fee_9 rfl ?_
  refine aw_ifnonnullN (npc := 13) dX7_fee_10 rfl ?_
  refine aw_aload_n (npc := 14) rfl dX7_fee_13 rfl ?_
  refine aw_get (npc := 17) dX7_fee_14 rfl kf_X7_10 f0 rfl ?_
  refine aw_get (npc := 20) dX7_fee_17 rfl kf_X7_176 f1 rfl ?_
  refine aw_goto (npc := 42) dX7_fee_20 (by decide) ?_
  refine aw_iret rfl dX7_fee_42 ?_
  exact fin_c hq am_fr0 (show sp_fee = 0 from (by unfold sp_fee; first | rfl | (simp only [wif_same, ite_self]; done) | (simp only [wif_same, ite_self]; rfl) | (simp [wif_same]; done)))
set_option maxHeartbeats 40000000 in
set_option maxRecDepth 100000 in
theorem p_X8_fee {X : List Int32} {d rc rs : Nat} {h : am_H} {Q : am_Q} (F : f0_X8 h) (hq : ∀ n9 h9, Q (some (.int (sp_fee))) n9 h9) : AW X mX8_fee (d + 12) rc rs 0 [some (.ref 69), none] [] 92 h Q := by
  obtain ⟨g69, g70, -, -, -, -, -, -, -, -, -, -, -, g82, -, -, -, -, -, -, -, -, -⟩ := F
  refine aw_aload_n (npc := 1) rfl dX8_fee_0 rfl ?_
  refine aw_iconst (npc := 2) (v := 1) (by decide) dX8_fee_1 rfl ?_
  refine aw_callV (npc := 5) (N := mX8_counts) (b := 69) (mc := 0) (ms := 0) (A := [.int 1]) (S := []) (L0 := [some (.ref 69), some (.int 1), none]) dX8_fee_2 rfl km_X8_counts kk_X8_97 g69 ⟨by decide, rfl⟩ rfl ⟨rfl, by decide⟩ rfl (Nat.le_of_ble_eq_true rfl) (Nat.zero_add _) (Nat.zero_add _) rfl ?_
  refine aw_aload_n (npc := 1) rfl dX8_counts_0 rfl ?_
  refine aw_get (npc := 4) dX8_counts_1 rfl kf_X8_9 g69 rfl ?_
  refine aw_bipush (npc := 6) (v := 7) (by decide) dX8_counts_4 rfl ?_
  refine aw_iald (npc := 7) (x := 0) (j := 7) dX8_counts_6 rfl g70 ⟨by decide, by decide⟩ rfl ?_
  refine aw_iconst (npc := 8) (v := 1) (by decide) dX8_counts_7 rfl ?_
  refine aw_isubV (npc := 9) (v := -1) dX8_counts_8 rfl (by decide) ?_
  refine aw_istore_n (npc := 10) (L' := [some (.ref 69), some (.int 1), some (.int (-1))]) dX8_counts_9 rfl (by decide) rfl rfl ?_
  refine aw_iload_n (npc := 11) rfl dX8_counts_10 rfl ?_
  refine aw_if_lt (npc := 14) (tgt := 41) dX8_counts_11 rfl (by decide) (fun _ => ?_) (fun hc => absurd (by decide) hc)
  refine aw_iconst (npc := 42) (v := -1) (by decide) dX8_counts_41 rfl ?_
  refine aw_iret rfl dX8_counts_42 ?_
  refine aw_re (S' := [.int (-1)]) rfl ?_
  refine aw_istore_n (npc := 6) (L' := [some (.ref 69), some (.int (-1))]) dX8_fee_5 rfl (by decide) rfl rfl ?_
  refine aw_aload_n (npc := 7) rfl dX8_fee_6 rfl ?_
  refine aw_get (npc := 10) dX8_fee_7 rfl kf_X8_52 g69 rfl ?_
  refine aw_iconst (npc := 11) (v := 0) (by decide) dX8_fee_10 rfl ?_
  refine aw_aload_n (npc := 12) rfl dX8_fee_11 rfl ?_
  refine aw_get (npc := 15) dX8_fee_12 rfl kf_X8_9 g69 rfl ?_
  refine aw_bipush (npc := 17) (v := 6) (by decide) dX8_fee_15 rfl ?_
  refine aw_iald (npc := 18) (x := 0) (j := 6) dX8_fee_17 rfl g70 ⟨by decide, by decide⟩ rfl ?_
  refine aw_iast (npc := 19) (j := 0) dX8_fee_18 rfl g82 ⟨by decide, by decide⟩ (Nat.le_of_ble_eq_true rfl) (show _ = am_up _ 82 (.inl (0, [0, 0, 0, 0])) from rfl) ?_
  refine aw_aload_n (npc := 20) rfl dX8_fee_19 rfl ?_
  refine aw_get (npc := 23) dX8_fee_20 rfl kf_X8_52 (am_ne (by decide) g69) rfl ?_
  refine aw_iconst (npc := 24) (v := 1) (by decide) dX8_fee_23 rfl ?_
  refine aw_aload_n (npc := 25) rfl dX8_fee_24 rfl ?_
  refine aw_get (npc := 28) dX8_fee_25 rfl kf_X8_9 (am_ne (by decide) g69) rfl ?_
  refine aw_iconst (npc := 29) (v := 2) (by decide) dX8_fee_28 rfl ?_
  refine aw_iald (npc := 30) (x := 0) (j := 2) dX8_fee_29 rfl (am_ne (by decide) g70) ⟨by decide, by decide⟩ rfl ?_
  refine aw_iast (npc := 31) (j := 1) dX8_fee_30 rfl am_eq ⟨by decide, by decide⟩ (Nat.le_of_ble_eq_true rfl) (show _ = am_up _ 82 (.inl (0, [0, 0, 0, 0])) from am_uu) ?_
  refine aw_iload_n (npc := 32) rfl dX8_fee_31 rfl ?_
  refine aw_if_ge (npc := 35) (tgt := 45) dX8_fee_32 rfl (by decide) (fun hc => absurd hc (by decide)) (fun _ => ?_)
  refine aw_aload_n (npc := 36) rfl dX8_fee_35 rfl ?_
  refine aw_get (npc := 39) dX8_fee_36 rfl kf_X8_9 (am_ne (by decide) g69) rfl ?_
  refine aw_bipush (npc := 41) (v := 6) (by decide) dX8_fee_39 rfl ?_
  refine aw_iald (npc := 42) (x := 0) (j := 6) dX8_fee_41 rfl (am_ne (by decide) g70) ⟨by decide, by decide⟩ rfl ?_
  refine aw_goto (npc := 50) dX8_fee_42 (by decide) ?_
  refine aw_iret rfl dX8_fee_50 ?_
  exact fin_m hq (show sp_fee = 0 from (by unfold sp_fee; first | rfl | (simp only [wif_same, ite_self]; done) | (simp only [wif_same, ite_self]; rfl) | (simp [wif_same]; done)))
noncomputable def sp_textTold (t : Int32) (w : Int32) : Int32 := -1000000001
set_option maxHeartbeats 40000000 in
set_option maxRecDepth 100000 in
theorem p_X7_textTold {X : List Int32} {d rc rs : Nat} {h : am_H} {Q : am_Q} {t : Int32} {w : Int32} (F : f0_X7 h) (hq : ∀ h9, am_fr 69 h9 h → Q (some (.int (sp_textTold t w))) 92 h9) : AW X mX7_textTold (d + 12) rc rs 0 [some (.ref 0), some (.int t), some (.int w), none] [] 92 h Q := by
  obtain ⟨f0, f1, -, -, -, -, -, -, -, -, -, -, -, -, -, -, -, -, -, -, -, -, -, -, -, -, -, -, -, -, -, -, -, -, -, -, -, -, -, -, -, -, -, -, -, -, -, -, -, -, -, -, -, -, -, -, -, -, -, -, -, -, -, -, -, -, -, -, -⟩ := F
  refine aw_iload_n (npc := 1) rfl dX7_textTold_0 rfl ?_
  refine aw_iconst (npc := 2) (v := 0) (by decide) dX7_textTold_1 rfl ?_
  refine aw_aload_n (npc := 3) rfl dX7_textTold_2 rfl ?_
  refine aw_get (npc := 6) dX7_textTold_3 rfl kf_X7_10 f0 rfl ?_
  refine aw_get (npc := 9) dX7_textTold_6 rfl kf_X7_246 f1 rfl ?_
  refine aw_iconst (npc := 10) (v := 1) (by decide) dX7_textTold_9 rfl ?_
  refine aw_isubV (npc := 11) (v := -1) dX7_textTold_10 rfl (by decide) ?_
  refine aw_callS (npc := 14) (N := mX7_within) (mc := 0) (ms := 0) (A := [.int t, .int 0, .int (-1)]) (S := []) (L0 := [some (.int t), some (.int 0), some (.int (-1))]) dX7_textTold_11 rfl km_X7_within kk_X7_74 rfl ⟨rfl, by decide⟩ rfl (Nat.le_of_ble_eq_true rfl) (Nat.zero_add _) (Nat.zero_add _) rfl ?_
  refine c_X7_within (fun hw1 => absurd hw1 (wi_no (by decide))) (fun _ => ?_)
  refine aw_re (S' := [.int 0]) rfl ?_
  refine aw_if_eq (npc := 17) (tgt := 26) dX7_textTold_14 rfl (by decide) (fun _ => ?_) (fun hc => absurd (by decide) hc)
  refine aw_ldc (npc := 28) kc_X7_78 dX7_textTold_26 rfl ?_
  refine aw_iret rfl dX7_textTold_28 ?_
  exact fin_c hq am_fr0 (show sp_textTold t w = (-1000000001) from (by unfold sp_textTold; first | rfl | (simp only [wif_same, ite_self]; done) | (simp only [wif_same, ite_self]; rfl) | (simp [wif_same]; done)))
set_option maxHeartbeats 40000000 in
set_option maxRecDepth 100000 in
theorem p_X8_textTold {X : List Int32} {d rc rs : Nat} {h : am_H} {Q : am_Q} {t : Int32} {w : Int32} (F : f0_X8 h) (hq : ∀ n9 h9, Q (some (.int (sp_textTold t w))) n9 h9) : AW X mX8_textTold (d + 12) rc rs 0 [some (.ref 69), some (.int t), some (.int w)] [] 92 h Q := by
  obtain ⟨g69, g70, -, -, -, -, -, -, -, -, -, -, -, -, -, -, -, -, -, -, -, -, -⟩ := F
  refine aw_iload_n (npc := 1) rfl dX8_textTold_0 rfl ?_
  refine aw_iconst (npc := 2) (v := 0) (by decide) dX8_textTold_1 rfl ?_
  refine aw_aload_n (npc := 3) rfl dX8_textTold_2 rfl ?_
  refine aw_get (npc := 6) dX8_textTold_3 rfl kf_X8_9 g69 rfl ?_
  refine aw_bipush (npc := 8) (v := 7) (by decide) dX8_textTold_6 rfl ?_
  refine aw_iald (npc := 9) (x := 0) (j := 7) dX8_textTold_8 rfl g70 ⟨by decide, by decide⟩ rfl ?_
  refine aw_iconst (npc := 10) (v := 1) (by decide) dX8_textTold_9 rfl ?_
  refine aw_isubV (npc := 11) (v := -1) dX8_textTold_10 rfl (by decide) ?_
  refine aw_callS (npc := 14) (N := mX8_in) (mc := 0) (ms := 0) (A := [.int t, .int 0, .int (-1)]) (S := []) (L0 := [some (.int t), some (.int 0), some (.int (-1))]) dX8_textTold_11 rfl km_X8_in kk_X8_83 rfl ⟨rfl, by decide⟩ rfl (Nat.le_of_ble_eq_true rfl) (Nat.zero_add _) (Nat.zero_add _) rfl ?_
  refine c_X8_in (fun hw1 => absurd hw1 (wi_no (by decide))) (fun _ => ?_)
  refine aw_re (S' := [.int 0]) rfl ?_
  refine aw_if_eq (npc := 17) (tgt := 26) dX8_textTold_14 rfl (by decide) (fun _ => ?_) (fun hc => absurd (by decide) hc)
  refine aw_ldc (npc := 28) kc_X8_91 dX8_textTold_26 rfl ?_
  refine aw_iret rfl dX8_textTold_28 ?_
  exact fin_m hq (show sp_textTold t w = (-1000000001) from (by unfold sp_textTold; first | rfl | (simp only [wif_same, ite_self]; done) | (simp only [wif_same, ite_self]; rfl) | (simp [wif_same]; done)))
noncomputable def sp_why (k : Int32) : Int32 := wif k 0 2 ((-1000000005)) (-1000000001)
set_option maxHeartbeats 40000000 in
set_option maxRecDepth 100000 in
theorem p_X7_why {X : List Int32} {d rc rs : Nat} {h : am_H} {Q : am_Q} {k : Int32} (F : f0_X7 h) (hq : ∀ h9, am_fr 69 h9 h → Q (some (.int (sp_why k))) 92 h9) : AW X mX7_why (d + 12) rc rs 0 [some (.ref 0), some (.int k)] [] 92 h Q := by
  obtain ⟨f0, f1, -, -, -, -, -, -, -, -, -, f11, -, -, -, -, -, -, -, -, -, -, -, -, -, -, -, -, -, -, -, -, -, -, -, -, -, -, -, -, -, -, -, -, -, -, -, -, -, -, -, -, -, -, -, -, -, -, -, -, -, -, -, -, -, -, -, -, -⟩ := F
  refine aw_iload_n (npc := 1) rfl dX7_why_0 rfl ?_
  refine aw_iconst (npc := 2) (v := 0) (by decide) dX7_why_1 rfl ?_
  refine aw_iconst (npc := 3) (v := 2) (by decide) dX7_why_2 rfl ?_
  refine aw_callS (npc := 6) (N := mX7_within) (mc := 0) (ms := 0) (A := [.int k, .int 0, .int 2]) (S := []) (L0 := [some (.int k), some (.int 0), some (.int 2)]) dX7_why_3 rfl km_X7_within kk_X7_74 rfl ⟨rfl, by decide⟩ rfl (Nat.le_of_ble_eq_true rfl) (Nat.zero_add _) (Nat.zero_add _) rfl ?_
  refine c_X7_within (fun hw1 => ?_) (fun hw1 => ?_)
  · rcases wi_c0_2 hw1 with rfl | rfl | rfl
    · refine aw_re (S' := [.int 1]) rfl ?_
      refine aw_if_ne (npc := 9) (tgt := 12) dX7_why_6 rfl (by decide) (fun _ => ?_) (fun hc => absurd hc (by decide))
      refine aw_aload_n (npc := 13) rfl dX7_why_12 rfl ?_
      refine aw_get (npc := 16) dX7_why_13 rfl kf_X7_10 f0 rfl ?_
      refine aw_get (npc := 19) dX7_why_16 rfl kf_X7_267 f1 rfl ?_
      refine aw_iload_n (npc := 20) rfl dX7_why_19 rfl ?_
      refine aw_iald (npc := 21) (x := (-1)) (j := 0) dX7_why_20 rfl f11 ⟨by decide, by decide⟩ rfl ?_
      refine aw_callS (npc := 24) (N := mX7_orNone) (mc := 0) (ms := 0) (A := [.int (-1)]) (S := []) (L0 := [some (.int (-1))]) dX7_why_21 rfl km_X7_orNone kk_X7_112 rfl ⟨rfl, by decide⟩ rfl (Nat.le_of_ble_eq_true rfl) (Nat.zero_add _) (Nat.zero_add _) rfl ?_
      refine aw_iload_n (npc := 1) rfl dX7_orNone_0 rfl ?_
      refine aw_if_ge (npc := 4) (tgt := 9) dX7_orNone_1 rfl (by decide) (fun hc => absurd hc (by decide)) (fun _ => ?_)
      refine aw_ldc (npc := 6) kc_X7_200 dX7_orNone_4 rfl ?_
      refine aw_goto (npc := 10) dX7_orNone_6 (by decide) ?_
      refine aw_iret rfl dX7_orNone_10 ?_
      refine aw_re (S' := [.int (-1000000005)]) rfl ?_
      refine aw_iret rfl dX7_why_24 ?_
      exact fin_c hq am_fr0 (show sp_why 0 = (-1000000005) from (by unfold sp_why; first | rfl | (simp only [wif_t hw1, wif_same, ite_self]; done) | (simp only [wif_t hw1, wif_same, ite_self]; rfl) | (simp [wif_t hw1, wif_same]; done)))
    · refine aw_re (S' := [.int 1]) rfl ?_
      refine aw_if_ne (npc := 9) (tgt := 12) dX7_why_6 rfl (by decide) (fun _ => ?_) (fun hc => absurd hc (by decide))
      refine aw_aload_n (npc := 13) rfl dX7_why_12 rfl ?_
      refine aw_get (npc := 16) dX7_why_13 rfl kf_X7_10 f0 rfl ?_
      refine aw_get (npc := 19) dX7_why_16 rfl kf_X7_267 f1 rfl ?_
      refine aw_iload_n (npc := 20) rfl dX7_why_19 rfl ?_
      refine aw_iald (npc := 21) (x := (-1)) (j := 1) dX7_why_20 rfl f11 ⟨by decide, by decide⟩ rfl ?_
      refine aw_callS (npc := 24) (N := mX7_orNone) (mc := 0) (ms := 0) (A := [.int (-1)]) (S := []) (L0 := [some (.int (-1))]) dX7_why_21 rfl km_X7_orNone kk_X7_112 rfl ⟨rfl, by decide⟩ rfl (Nat.le_of_ble_eq_true rfl) (Nat.zero_add _) (Nat.zero_add _) rfl ?_
      refine aw_iload_n (npc := 1) rfl dX7_orNone_0 rfl ?_
      refine aw_if_ge (npc := 4) (tgt := 9) dX7_orNone_1 rfl (by decide) (fun hc => absurd hc (by decide)) (fun _ => ?_)
      refine aw_ldc (npc := 6) kc_X7_200 dX7_orNone_4 rfl ?_
      refine aw_goto (npc := 10) dX7_orNone_6 (by decide) ?_
      refine aw_iret rfl dX7_orNone_10 ?_
      refine aw_re (S' := [.int (-1000000005)]) rfl ?_
      refine aw_iret rfl dX7_why_24 ?_
      exact fin_c hq am_fr0 (show sp_why 1 = (-1000000005) from (by unfold sp_why; first | rfl | (simp only [wif_t hw1, wif_same, ite_self]; done) | (simp only [wif_t hw1, wif_same, ite_self]; rfl) | (simp [wif_t hw1, wif_same]; done)))
    · refine aw_re (S' := [.int 1]) rfl ?_
      refine aw_if_ne (npc := 9) (tgt := 12) dX7_why_6 rfl (by decide) (fun _ => ?_) (fun hc => absurd hc (by decide))
      refine aw_aload_n (npc := 13) rfl dX7_why_12 rfl ?_
      refine aw_get (npc := 16) dX7_why_13 rfl kf_X7_10 f0 rfl ?_
      refine aw_get (npc := 19) dX7_why_16 rfl kf_X7_267 f1 rfl ?_
      refine aw_iload_n (npc := 20) rfl dX7_why_19 rfl ?_
      refine aw_iald (npc := 21) (x := (-1)) (j := 2) dX7_why_20 rfl f11 ⟨by decide, by decide⟩ rfl ?_
      refine aw_callS (npc := 24) (N := mX7_orNone) (mc := 0) (ms := 0) (A := [.int (-1)]) (S := []) (L0 := [some (.int (-1))]) dX7_why_21 rfl km_X7_orNone kk_X7_112 rfl ⟨rfl, by decide⟩ rfl (Nat.le_of_ble_eq_true rfl) (Nat.zero_add _) (Nat.zero_add _) rfl ?_
      refine aw_iload_n (npc := 1) rfl dX7_orNone_0 rfl ?_
      refine aw_if_ge (npc := 4) (tgt := 9) dX7_orNone_1 rfl (by decide) (fun hc => absurd hc (by decide)) (fun _ => ?_)
      refine aw_ldc (npc := 6) kc_X7_200 dX7_orNone_4 rfl ?_
      refine aw_goto (npc := 10) dX7_orNone_6 (by decide) ?_
      refine aw_iret rfl dX7_orNone_10 ?_
      refine aw_re (S' := [.int (-1000000005)]) rfl ?_
      refine aw_iret rfl dX7_why_24 ?_
      exact fin_c hq am_fr0 (show sp_why 2 = (-1000000005) from (by unfold sp_why; first | rfl | (simp only [wif_t hw1, wif_same, ite_self]; done) | (simp only [wif_t hw1, wif_same, ite_self]; rfl) | (simp [wif_t hw1, wif_same]; done)))
  · refine aw_re (S' := [.int 0]) rfl ?_
    refine aw_if_ne (npc := 9) (tgt := 12) dX7_why_6 rfl (by decide) (fun hc => absurd (by decide) hc) (fun _ => ?_)
    refine aw_ldc (npc := 11) kc_X7_78 dX7_why_9 rfl ?_
    refine aw_iret rfl dX7_why_11 ?_
    exact fin_c hq am_fr0 (show sp_why k = (-1000000001) from (by unfold sp_why; first | rfl | (simp only [wif_f hw1, wif_same, ite_self]; done) | (simp only [wif_f hw1, wif_same, ite_self]; rfl) | (simp [wif_f hw1, wif_same]; done)))
set_option maxHeartbeats 40000000 in
set_option maxRecDepth 100000 in
theorem p_X8_why {X : List Int32} {d rc rs : Nat} {h : am_H} {Q : am_Q} {k : Int32} (F : f0_X8 h) (hq : ∀ n9 h9, Q (some (.int (sp_why k))) n9 h9) : AW X mX8_why (d + 12) rc rs 0 [some (.ref 69), some (.int k), none] [] 92 h Q := by
  obtain ⟨g69, g70, -, -, -, -, -, -, -, -, -, -, -, -, -, -, -, -, -, -, -, -, -⟩ := F
  refine aw_iload_n (npc := 1) rfl dX8_why_0 rfl ?_
  refine aw_iconst (npc := 2) (v := 0) (by decide) dX8_why_1 rfl ?_
  refine aw_iconst (npc := 3) (v := 2) (by decide) dX8_why_2 rfl ?_
  refine aw_callS (npc := 6) (N := mX8_in) (mc := 0) (ms := 0) (A := [.int k, .int 0, .int 2]) (S := []) (L0 := [some (.int k), some (.int 0), some (.int 2)]) dX8_why_3 rfl km_X8_in kk_X8_83 rfl ⟨rfl, by decide⟩ rfl (Nat.le_of_ble_eq_true rfl) (Nat.zero_add _) (Nat.zero_add _) rfl ?_
  refine c_X8_in (fun hw1 => ?_) (fun hw1 => ?_)
  · rcases wi_c0_2 hw1 with rfl | rfl | rfl
    · refine aw_re (S' := [.int 1]) rfl ?_
      refine aw_if_ne (npc := 9) (tgt := 12) dX8_why_6 rfl (by decide) (fun _ => ?_) (fun hc => absurd hc (by decide))
      refine aw_aload_n (npc := 13) rfl dX8_why_12 rfl ?_
      refine aw_iload_n (npc := 14) rfl dX8_why_13 rfl ?_
      refine aw_callV (npc := 17) (N := mX8_counts) (b := 69) (mc := 0) (ms := 0) (A := [.int 0]) (S := []) (L0 := [some (.ref 69), some (.int 0), none]) dX8_why_14 rfl km_X8_counts kk_X8_97 g69 ⟨by decide, rfl⟩ rfl ⟨rfl, by decide⟩ rfl (Nat.le_of_ble_eq_true rfl) (Nat.zero_add _) (Nat.zero_add _) rfl ?_
      refine aw_aload_n (npc := 1) rfl dX8_counts_0 rfl ?_
      refine aw_get (npc := 4) dX8_counts_1 rfl kf_X8_9 g69 rfl ?_
      refine aw_bipush (npc := 6) (v := 7) (by decide) dX8_counts_4 rfl ?_
      refine aw_iald (npc := 7) (x := 0) (j := 7) dX8_counts_6 rfl g70 ⟨by decide, by decide⟩ rfl ?_
      refine aw_iconst (npc := 8) (v := 1) (by decide) dX8_counts_7 rfl ?_
      refine aw_isubV (npc := 9) (v := -1) dX8_counts_8 rfl (by decide) ?_
      refine aw_istore_n (npc := 10) (L' := [some (.ref 69), some (.int 0), some (.int (-1))]) dX8_counts_9 rfl (by decide) rfl rfl ?_
      refine aw_iload_n (npc := 11) rfl dX8_counts_10 rfl ?_
      refine aw_if_lt (npc := 14) (tgt := 41) dX8_counts_11 rfl (by decide) (fun _ => ?_) (fun hc => absurd (by decide) hc)
      refine aw_iconst (npc := 42) (v := -1) (by decide) dX8_counts_41 rfl ?_
      refine aw_iret rfl dX8_counts_42 ?_
      refine aw_re (S' := [.int (-1)]) rfl ?_
      refine aw_istore_n (npc := 18) (L' := [some (.ref 69), some (.int 0), some (.int (-1))]) dX8_why_17 rfl (by decide) rfl rfl ?_
      refine aw_iload_n (npc := 19) rfl dX8_why_18 rfl ?_
      refine aw_if_ge (npc := 22) (tgt := 27) dX8_why_19 rfl (by decide) (fun hc => absurd hc (by decide)) (fun _ => ?_)
      refine aw_ldc (npc := 24) kc_X8_82 dX8_why_22 rfl ?_
      refine aw_goto (npc := 28) dX8_why_24 (by decide) ?_
      refine aw_iret rfl dX8_why_28 ?_
      exact fin_m hq (show sp_why 0 = (-1000000005) from (by unfold sp_why; first | rfl | (simp only [wif_t hw1, wif_same, ite_self]; done) | (simp only [wif_t hw1, wif_same, ite_self]; rfl) | (simp [wif_t hw1, wif_same]; done)))
    · refine aw_re (S' := [.int 1]) rfl ?_
      refine aw_if_ne (npc := 9) (tgt := 12) dX8_why_6 rfl (by decide) (fun _ => ?_) (fun hc => absurd hc (by decide))
      refine aw_aload_n (npc := 13) rfl dX8_why_12 rfl ?_
      refine aw_iload_n (npc := 14) rfl dX8_why_13 rfl ?_
      refine aw_callV (npc := 17) (N := mX8_counts) (b := 69) (mc := 0) (ms := 0) (A := [.int 1]) (S := []) (L0 := [some (.ref 69), some (.int 1), none]) dX8_why_14 rfl km_X8_counts kk_X8_97 g69 ⟨by decide, rfl⟩ rfl ⟨rfl, by decide⟩ rfl (Nat.le_of_ble_eq_true rfl) (Nat.zero_add _) (Nat.zero_add _) rfl ?_
      refine aw_aload_n (npc := 1) rfl dX8_counts_0 rfl ?_
      refine aw_get (npc := 4) dX8_counts_1 rfl kf_X8_9 g69 rfl ?_
      refine aw_bipush (npc := 6) (v := 7) (by decide) dX8_counts_4 rfl ?_
      refine aw_iald (npc := 7) (x := 0) (j := 7) dX8_counts_6 rfl g70 ⟨by decide, by decide⟩ rfl ?_
      refine aw_iconst (npc := 8) (v := 1) (by decide) dX8_counts_7 rfl ?_
      refine aw_isubV (npc := 9) (v := -1) dX8_counts_8 rfl (by decide) ?_
      refine aw_istore_n (npc := 10) (L' := [some (.ref 69), some (.int 1), some (.int (-1))]) dX8_counts_9 rfl (by decide) rfl rfl ?_
      refine aw_iload_n (npc := 11) rfl dX8_counts_10 rfl ?_
      refine aw_if_lt (npc := 14) (tgt := 41) dX8_counts_11 rfl (by decide) (fun _ => ?_) (fun hc => absurd (by decide) hc)
      refine aw_iconst (npc := 42) (v := -1) (by decide) dX8_counts_41 rfl ?_
      refine aw_iret rfl dX8_counts_42 ?_
      refine aw_re (S' := [.int (-1)]) rfl ?_
      refine aw_istore_n (npc := 18) (L' := [some (.ref 69), some (.int 1), some (.int (-1))]) dX8_why_17 rfl (by decide) rfl rfl ?_
      refine aw_iload_n (npc := 19) rfl dX8_why_18 rfl ?_
      refine aw_if_ge (npc := 22) (tgt := 27) dX8_why_19 rfl (by decide) (fun hc => absurd hc (by decide)) (fun _ => ?_)
      refine aw_ldc (npc := 24) kc_X8_82 dX8_why_22 rfl ?_
      refine aw_goto (npc := 28) dX8_why_24 (by decide) ?_
      refine aw_iret rfl dX8_why_28 ?_
      exact fin_m hq (show sp_why 1 = (-1000000005) from (by unfold sp_why; first | rfl | (simp only [wif_t hw1, wif_same, ite_self]; done) | (simp only [wif_t hw1, wif_same, ite_self]; rfl) | (simp [wif_t hw1, wif_same]; done)))
    · refine aw_re (S' := [.int 1]) rfl ?_
      refine aw_if_ne (npc := 9) (tgt := 12) dX8_why_6 rfl (by decide) (fun _ => ?_) (fun hc => absurd hc (by decide))
      refine aw_aload_n (npc := 13) rfl dX8_why_12 rfl ?_
      refine aw_iload_n (npc := 14) rfl dX8_why_13 rfl ?_
      refine aw_callV (npc := 17) (N := mX8_counts) (b := 69) (mc := 0) (ms := 0) (A := [.int 2]) (S := []) (L0 := [some (.ref 69), some (.int 2), none]) dX8_why_14 rfl km_X8_counts kk_X8_97 g69 ⟨by decide, rfl⟩ rfl ⟨rfl, by decide⟩ rfl (Nat.le_of_ble_eq_true rfl) (Nat.zero_add _) (Nat.zero_add _) rfl ?_
      refine aw_aload_n (npc := 1) rfl dX8_counts_0 rfl ?_
      refine aw_get (npc := 4) dX8_counts_1 rfl kf_X8_9 g69 rfl ?_
      refine aw_bipush (npc := 6) (v := 7) (by decide) dX8_counts_4 rfl ?_
      refine aw_iald (npc := 7) (x := 0) (j := 7) dX8_counts_6 rfl g70 ⟨by decide, by decide⟩ rfl ?_
      refine aw_iconst (npc := 8) (v := 1) (by decide) dX8_counts_7 rfl ?_
      refine aw_isubV (npc := 9) (v := -1) dX8_counts_8 rfl (by decide) ?_
      refine aw_istore_n (npc := 10) (L' := [some (.ref 69), some (.int 2), some (.int (-1))]) dX8_counts_9 rfl (by decide) rfl rfl ?_
      refine aw_iload_n (npc := 11) rfl dX8_counts_10 rfl ?_
      refine aw_if_lt (npc := 14) (tgt := 41) dX8_counts_11 rfl (by decide) (fun _ => ?_) (fun hc => absurd (by decide) hc)
      refine aw_iconst (npc := 42) (v := -1) (by decide) dX8_counts_41 rfl ?_
      refine aw_iret rfl dX8_counts_42 ?_
      refine aw_re (S' := [.int (-1)]) rfl ?_
      refine aw_istore_n (npc := 18) (L' := [some (.ref 69), some (.int 2), some (.int (-1))]) dX8_why_17 rfl (by decide) rfl rfl ?_
      refine aw_iload_n (npc := 19) rfl dX8_why_18 rfl ?_
      refine aw_if_ge (npc := 22) (tgt := 27) dX8_why_19 rfl (by decide) (fun hc => absurd hc (by decide)) (fun _ => ?_)
      refine aw_ldc (npc := 24) kc_X8_82 dX8_why_22 rfl ?_
      refine aw_goto (npc := 28) dX8_why_24 (by decide) ?_
      refine aw_iret rfl dX8_why_28 ?_
      exact fin_m hq (show sp_why 2 = (-1000000005) from (by unfold sp_why; first | rfl | (simp only [wif_t hw1, wif_same, ite_self]; done) | (simp only [wif_t hw1, wif_same, ite_self]; rfl) | (simp [wif_t hw1, wif_same]; done)))
  · refine aw_re (S' := [.int 0]) rfl ?_
    refine aw_if_ne (npc := 9) (tgt := 12) dX8_why_6 rfl (by decide) (fun hc => absurd (by decide) hc) (fun _ => ?_)
    refine aw_ldc (npc := 11) kc_X8_91 dX8_why_9 rfl ?_
    refine aw_iret rfl dX8_why_11 ?_
    exact fin_m hq (show sp_why k = (-1000000001) from (by unfold sp_why; first | rfl | (simp only [wif_f hw1, wif_same, ite_self]; done) | (simp only [wif_f hw1, wif_same, ite_self]; rfl) | (simp [wif_f hw1, wif_same]; done)))
noncomputable def sp_mark (s : Int32) (q : Int32) (v : Int32) : Int32 := wif s 0 3 ((-1000000011)) (-1000000001)
set_option maxHeartbeats 40000000 in
set_option maxRecDepth 100000 in
theorem p_X7_mark {X : List Int32} {d rc rs : Nat} {h : am_H} {Q : am_Q} {s : Int32} {q : Int32} {v : Int32} (F : f0_X7 h) (hq : ∀ h9, am_fr 69 h9 h → Q (some (.int (sp_mark s q v))) 92 h9) : AW X mX7_mark (d + 12) rc rs 0 [some (.ref 0), some (.int s), some (.int q), some (.int v), none] [] 92 h Q := by
  obtain ⟨f0, -, -, -, -, -, -, -, -, -, -, -, -, -, -, -, -, -, -, -, -, -, -, -, -, -, -, -, -, -, -, -, -, -, -, -, -, -, -, -, -, -, -, f43, -, -, f46, -, f48, -, f50, -, f52, -, -, -, -, -, -, -, -, -, -, -, -, -, -, -, -⟩ := F
  refine aw_iload_n (npc := 1) rfl dX7_mark_0 rfl ?_
  refine aw_callS (npc := 4) (N := mX7_isSheet) (mc := 0) (ms := 0) (A := [.int s]) (S := []) (L0 := [some (.int s)]) dX7_mark_1 rfl km_X7_isSheet kk_X7_204 rfl ⟨rfl, by decide⟩ rfl (Nat.le_of_ble_eq_true rfl) (Nat.zero_add _) (Nat.zero_add _) rfl ?_
  refine c_X7_isSheet (fun hw1 => ?_) (fun hw1 => ?_)
  · rcases wi_c0_3 hw1 with rfl | rfl | rfl | rfl
    · refine aw_re (S' := [.int 1]) rfl ?_
      refine aw_if_ne (npc := 7) (tgt := 10) dX7_mark_4 rfl (by decide) (fun _ => ?_) (fun hc => absurd hc (by decide))
      refine aw_aload_n (npc := 11) rfl dX7_mark_10 rfl ?_
      refine aw_get (npc := 14) dX7_mark_11 rfl kf_X7_47 f0 rfl ?_
      refine aw_iload_n (npc := 15) rfl dX7_mark_14 rfl ?_
      refine aw_aald (npc := 16) (j := 0) dX7_mark_15 rfl (by decide) f43 ⟨by decide, by decide⟩ rfl ?_
      refine aw_astore (npc := 18) (L' := [some (.ref 0), some (.int 0), some (.int q), some (.int v), some (.ref 46)]) dX7_mark_16 rfl (by decide) rfl rfl ?_
      refine aw_aload (npc := 20) rfl dX7_mark_18 rfl ?_
      refine aw_callV (npc := 23) (N := mX2_isMissing) (b := 46) (mc := 0) (ms := 0) (A := []) (S := []) (L0 := [some (.ref 46)]) dX7_mark_20 rfl km_X2_isMissing kk_X7_207 f46 ⟨by decide, rfl⟩ rfl ⟨rfl, by decide⟩ rfl (Nat.le_of_ble_eq_true rfl) (Nat.zero_add _) (Nat.zero_add _) rfl ?_
      refine aw_aload_n (npc := 1) rfl dX2_isMissing_0 rfl ?_
      refine aw_get (npc := 4) dX2_isMissing_1 rfl kf_X2_9 f46 rfl ?_
      refine aw_iconst (npc := 5) (v := -1) (by decide) dX2_isMissing_4 rfl ?_
      refine aw_icmp_ne (npc := 8) (tgt := 12) dX2_isMissing_5 rfl (by decide) (fun hc => absurd (by decide) hc) (fun _ => ?_)
      refine aw_iconst (npc := 9) (v := 1) (by decide) dX2_isMissing_8 rfl ?_
      refine aw_goto (npc := 13) dX2_isMissing_9 (by decide) ?_
      refine aw_zret rfl rfl dX2_isMissing_13 ?_
      refine aw_re (S' := [.int 1]) rfl ?_
      refine aw_if_eq (npc := 26) (tgt := 29) dX7_mark_23 rfl (by decide) (fun hc => absurd hc (by decide)) (fun _ => ?_)
      refine aw_ldc (npc := 28) kc_X7_210 dX7_mark_26 rfl ?_
      refine aw_iret rfl dX7_mark_28 ?_
      exact fin_c hq am_fr0 (show sp_mark 0 q v = (-1000000011) from (by unfold sp_mark; first | rfl | (simp only [wif_t hw1, wif_same, ite_self]; done) | (simp only [wif_t hw1, wif_same, ite_self]; rfl) | (simp [wif_t hw1, wif_same]; done)))
    · refine aw_re (S' := [.int 1]) rfl ?_
      refine aw_if_ne (npc := 7) (tgt := 10) dX7_mark_4 rfl (by decide) (fun _ => ?_) (fun hc => absurd hc (by decide))
      refine aw_aload_n (npc := 11) rfl dX7_mark_10 rfl ?_
      refine aw_get (npc := 14) dX7_mark_11 rfl kf_X7_47 f0 rfl ?_
      refine aw_iload_n (npc := 15) rfl dX7_mark_14 rfl ?_
      refine aw_aald (npc := 16) (j := 1) dX7_mark_15 rfl (by decide) f43 ⟨by decide, by decide⟩ rfl ?_
      refine aw_astore (npc := 18) (L' := [some (.ref 0), some (.int 1), some (.int q), some (.int v), some (.ref 48)]) dX7_mark_16 rfl (by decide) rfl rfl ?_
      refine aw_aload (npc := 20) rfl dX7_mark_18 rfl ?_
      refine aw_callV (npc := 23) (N := mX2_isMissing) (b := 48) (mc := 0) (ms := 0) (A := []) (S := []) (L0 := [some (.ref 48)]) dX7_mark_20 rfl km_X2_isMissing kk_X7_207 f48 ⟨by decide, rfl⟩ rfl ⟨rfl, by decide⟩ rfl (Nat.le_of_ble_eq_true rfl) (Nat.zero_add _) (Nat.zero_add _) rfl ?_
      refine aw_aload_n (npc := 1) rfl dX2_isMissing_0 rfl ?_
      refine aw_get (npc := 4) dX2_isMissing_1 rfl kf_X2_9 f48 rfl ?_
      refine aw_iconst (npc := 5) (v := -1) (by decide) dX2_isMissing_4 rfl ?_
      refine aw_icmp_ne (npc := 8) (tgt := 12) dX2_isMissing_5 rfl (by decide) (fun hc => absurd (by decide) hc) (fun _ => ?_)
      refine aw_iconst (npc := 9) (v := 1) (by decide) dX2_isMissing_8 rfl ?_
      refine aw_goto (npc := 13) dX2_isMissing_9 (by decide) ?_
      refine aw_zret rfl rfl dX2_isMissing_13 ?_
      refine aw_re (S' := [.int 1]) rfl ?_
      refine aw_if_eq (npc := 26) (tgt := 29) dX7_mark_23 rfl (by decide) (fun hc => absurd hc (by decide)) (fun _ => ?_)
      refine aw_ldc (npc := 28) kc_X7_210 dX7_mark_26 rfl ?_
      refine aw_iret rfl dX7_mark_28 ?_
      exact fin_c hq am_fr0 (show sp_mark 1 q v = (-1000000011) from (by unfold sp_mark; first | rfl | (simp only [wif_t hw1, wif_same, ite_self]; done) | (simp only [wif_t hw1, wif_same, ite_self]; rfl) | (simp [wif_t hw1, wif_same]; done)))
    · refine aw_re (S' := [.int 1]) rfl ?_
      refine aw_if_ne (npc := 7) (tgt := 10) dX7_mark_4 rfl (by decide) (fun _ => ?_) (fun hc => absurd hc (by decide))
      refine aw_aload_n (npc := 11) rfl dX7_mark_10 rfl ?_
      refine aw_get (npc := 14) dX7_mark_11 rfl kf_X7_47 f0 rfl ?_
      refine aw_iload_n (npc := 15) rfl dX7_mark_14 rfl ?_
      refine aw_aald (npc := 16) (j := 2) dX7_mark_15 rfl (by decide) f43 ⟨by decide, by decide⟩ rfl ?_
      refine aw_astore (npc := 18) (L' := [some (.ref 0), some (.int 2), some (.int q), some (.int v), some (.ref 50)]) dX7_mark_16 rfl (by decide) rfl rfl ?_
      refine aw_aload (npc := 20) rfl dX7_mark_18 rfl ?_
      refine aw_callV (npc := 23) (N := mX2_isMissing) (b := 50) (mc := 0) (ms := 0) (A := []) (S := []) (L0 := [some (.ref 50)]) dX7_mark_20 rfl km_X2_isMissing kk_X7_207 f50 ⟨by decide, rfl⟩ rfl ⟨rfl, by decide⟩ rfl (Nat.le_of_ble_eq_true rfl) (Nat.zero_add _) (Nat.zero_add _) rfl ?_
      refine aw_aload_n (npc := 1) rfl dX2_isMissing_0 rfl ?_
      refine aw_get (npc := 4) dX2_isMissing_1 rfl kf_X2_9 f50 rfl ?_
      refine aw_iconst (npc := 5) (v := -1) (by decide) dX2_isMissing_4 rfl ?_
      refine aw_icmp_ne (npc := 8) (tgt := 12) dX2_isMissing_5 rfl (by decide) (fun hc => absurd (by decide) hc) (fun _ => ?_)
      refine aw_iconst (npc := 9) (v := 1) (by decide) dX2_isMissing_8 rfl ?_
      refine aw_goto (npc := 13) dX2_isMissing_9 (by decide) ?_
      refine aw_zret rfl rfl dX2_isMissing_13 ?_
      refine aw_re (S' := [.int 1]) rfl ?_
      refine aw_if_eq (npc := 26) (tgt := 29) dX7_mark_23 rfl (by decide) (fun hc => absurd hc (by decide)) (fun _ => ?_)
      refine aw_ldc (npc := 28) kc_X7_210 dX7_mark_26 rfl ?_
      refine aw_iret rfl dX7_mark_28 ?_
      exact fin_c hq am_fr0 (show sp_mark 2 q v = (-1000000011) from (by unfold sp_mark; first | rfl | (simp only [wif_t hw1, wif_same, ite_self]; done) | (simp only [wif_t hw1, wif_same, ite_self]; rfl) | (simp [wif_t hw1, wif_same]; done)))
    · refine aw_re (S' := [.int 1]) rfl ?_
      refine aw_if_ne (npc := 7) (tgt := 10) dX7_mark_4 rfl (by decide) (fun _ => ?_) (fun hc => absurd hc (by decide))
      refine aw_aload_n (npc := 11) rfl dX7_mark_10 rfl ?_
      refine aw_get (npc := 14) dX7_mark_11 rfl kf_X7_47 f0 rfl ?_
      refine aw_iload_n (npc := 15) rfl dX7_mark_14 rfl ?_
      refine aw_aald (npc := 16) (j := 3) dX7_mark_15 rfl (by decide) f43 ⟨by decide, by decide⟩ rfl ?_
      refine aw_astore (npc := 18) (L' := [some (.ref 0), some (.int 3), some (.int q), some (.int v), some (.ref 52)]) dX7_mark_16 rfl (by decide) rfl rfl ?_
      refine aw_aload (npc := 20) rfl dX7_mark_18 rfl ?_
      refine aw_callV (npc := 23) (N := mX2_isMissing) (b := 52) (mc := 0) (ms := 0) (A := []) (S := []) (L0 := [some (.ref 52)]) dX7_mark_20 rfl km_X2_isMissing kk_X7_207 f52 ⟨by decide, rfl⟩ rfl ⟨rfl, by decide⟩ rfl (Nat.le_of_ble_eq_true rfl) (Nat.zero_add _) (Nat.zero_add _) rfl ?_
      refine aw_aload_n (npc := 1) rfl dX2_isMissing_0 rfl ?_
      refine aw_get (npc := 4) dX2_isMissing_1 rfl kf_X2_9 f52 rfl ?_
      refine aw_iconst (npc := 5) (v := -1) (by decide) dX2_isMissing_4 rfl ?_
      refine aw_icmp_ne (npc := 8) (tgt := 12) dX2_isMissing_5 rfl (by decide) (fun hc => absurd (by decide) hc) (fun _ => ?_)
      refine aw_iconst (npc := 9) (v := 1) (by decide) dX2_isMissing_8 rfl ?_
      refine aw_goto (npc := 13) dX2_isMissing_9 (by decide) ?_
      refine aw_zret rfl rfl dX2_isMissing_13 ?_
      refine aw_re (S' := [.int 1]) rfl ?_
      refine aw_if_eq (npc := 26) (tgt := 29) dX7_mark_23 rfl (by decide) (fun hc => absurd hc (by decide)) (fun _ => ?_)
      refine aw_ldc (npc := 28) kc_X7_210 dX7_mark_26 rfl ?_
      refine aw_iret rfl dX7_mark_28 ?_
      exact fin_c hq am_fr0 (show sp_mark 3 q v = (-1000000011) from (by unfold sp_mark; first | rfl | (simp only [wif_t hw1, wif_same, ite_self]; done) | (simp only [wif_t hw1, wif_same, ite_self]; rfl) | (simp [wif_t hw1, wif_same]; done)))
  · refine aw_re (S' := [.int 0]) rfl ?_
    refine aw_if_ne (npc := 7) (tgt := 10) dX7_mark_4 rfl (by decide) (fun hc => absurd (by decide) hc) (fun _ => ?_)
    refine aw_ldc (npc := 9) kc_X7_78 dX7_mark_7 rfl ?_
    refine aw_iret rfl dX7_mark_9 ?_
    exact fin_c hq am_fr0 (show sp_mark s q v = (-1000000001) from (by unfold sp_mark; first | rfl | (simp only [wif_f hw1, wif_same, ite_self]; done) | (simp only [wif_f hw1, wif_same, ite_self]; rfl) | (simp [wif_f hw1, wif_same]; done)))
set_option maxHeartbeats 40000000 in
set_option maxRecDepth 100000 in
theorem p_X8_mark {X : List Int32} {d rc rs : Nat} {h : am_H} {Q : am_Q} {s : Int32} {q : Int32} {v : Int32} (F : f0_X8 h) (hq : ∀ n9 h9, Q (some (.int (sp_mark s q v))) n9 h9) : AW X mX8_mark (d + 12) rc rs 0 [some (.ref 69), some (.int s), some (.int q), some (.int v)] [] 92 h Q := by
  obtain ⟨g69, -, -, -, -, -, -, -, -, -, -, -, -, -, g83, -, -, -, -, -, -, -, -⟩ := F
  refine aw_iload_n (npc := 1) rfl dX8_mark_0 rfl ?_
  refine aw_callS (npc := 4) (N := mX8_isSheet) (mc := 0) (ms := 0) (A := [.int s]) (S := []) (L0 := [some (.int s)]) dX8_mark_1 rfl km_X8_isSheet kk_X8_184 rfl ⟨rfl, by decide⟩ rfl (Nat.le_of_ble_eq_true rfl) (Nat.zero_add _) (Nat.zero_add _) rfl ?_
  refine c_X8_isSheet (fun hw1 => ?_) (fun hw1 => ?_)
  · rcases wi_c0_3 hw1 with rfl | rfl | rfl | rfl
    · refine aw_re (S' := [.int 1]) rfl ?_
      refine aw_if_ne (npc := 7) (tgt := 10) dX8_mark_4 rfl (by decide) (fun _ => ?_) (fun hc => absurd hc (by decide))
      refine aw_aload_n (npc := 11) rfl dX8_mark_10 rfl ?_
      refine aw_get (npc := 14) dX8_mark_11 rfl kf_X8_55 g69 rfl ?_
      refine aw_iload_n (npc := 15) rfl dX8_mark_14 rfl ?_
      refine aw_iald (npc := 16) (x := (-1)) (j := 0) dX8_mark_15 rfl g83 ⟨by decide, by decide⟩ rfl ?_
      refine aw_if_ge (npc := 19) (tgt := 22) dX8_mark_16 rfl (by decide) (fun hc => absurd hc (by decide)) (fun _ => ?_)
      refine aw_ldc (npc := 21) kc_X8_187 dX8_mark_19 rfl ?_
      refine aw_iret rfl dX8_mark_21 ?_
      exact fin_m hq (show sp_mark 0 q v = (-1000000011) from (by unfold sp_mark; first | rfl | (simp only [wif_t hw1, wif_same, ite_self]; done) | (simp only [wif_t hw1, wif_same, ite_self]; rfl) | (simp [wif_t hw1, wif_same]; done)))
    · refine aw_re (S' := [.int 1]) rfl ?_
      refine aw_if_ne (npc := 7) (tgt := 10) dX8_mark_4 rfl (by decide) (fun _ => ?_) (fun hc => absurd hc (by decide))
      refine aw_aload_n (npc := 11) rfl dX8_mark_10 rfl ?_
      refine aw_get (npc := 14) dX8_mark_11 rfl kf_X8_55 g69 rfl ?_
      refine aw_iload_n (npc := 15) rfl dX8_mark_14 rfl ?_
      refine aw_iald (npc := 16) (x := (-1)) (j := 1) dX8_mark_15 rfl g83 ⟨by decide, by decide⟩ rfl ?_
      refine aw_if_ge (npc := 19) (tgt := 22) dX8_mark_16 rfl (by decide) (fun hc => absurd hc (by decide)) (fun _ => ?_)
      refine aw_ldc (npc := 21) kc_X8_187 dX8_mark_19 rfl ?_
      refine aw_iret rfl dX8_mark_21 ?_
      exact fin_m hq (show sp_mark 1 q v = (-1000000011) from (by unfold sp_mark; first | rfl | (simp only [wif_t hw1, wif_same, ite_self]; done) | (simp only [wif_t hw1, wif_same, ite_self]; rfl) | (simp [wif_t hw1, wif_same]; done)))
    · refine aw_re (S' := [.int 1]) rfl ?_
      refine aw_if_ne (npc := 7) (tgt := 10) dX8_mark_4 rfl (by decide) (fun _ => ?_) (fun hc => absurd hc (by decide))
      refine aw_aload_n (npc := 11) rfl dX8_mark_10 rfl ?_
      refine aw_get (npc := 14) dX8_mark_11 rfl kf_X8_55 g69 rfl ?_
      refine aw_iload_n (npc := 15) rfl dX8_mark_14 rfl ?_
      refine aw_iald (npc := 16) (x := (-1)) (j := 2) dX8_mark_15 rfl g83 ⟨by decide, by decide⟩ rfl ?_
      refine aw_if_ge (npc := 19) (tgt := 22) dX8_mark_16 rfl (by decide) (fun hc => absurd hc (by decide)) (fun _ => ?_)
      refine aw_ldc (npc := 21) kc_X8_187 dX8_mark_19 rfl ?_
      refine aw_iret rfl dX8_mark_21 ?_
      exact fin_m hq (show sp_mark 2 q v = (-1000000011) from (by unfold sp_mark; first | rfl | (simp only [wif_t hw1, wif_same, ite_self]; done) | (simp only [wif_t hw1, wif_same, ite_self]; rfl) | (simp [wif_t hw1, wif_same]; done)))
    · refine aw_re (S' := [.int 1]) rfl ?_
      refine aw_if_ne (npc := 7) (tgt := 10) dX8_mark_4 rfl (by decide) (fun _ => ?_) (fun hc => absurd hc (by decide))
      refine aw_aload_n (npc := 11) rfl dX8_mark_10 rfl ?_
      refine aw_get (npc := 14) dX8_mark_11 rfl kf_X8_55 g69 rfl ?_
      refine aw_iload_n (npc := 15) rfl dX8_mark_14 rfl ?_
      refine aw_iald (npc := 16) (x := (-1)) (j := 3) dX8_mark_15 rfl g83 ⟨by decide, by decide⟩ rfl ?_
      refine aw_if_ge (npc := 19) (tgt := 22) dX8_mark_16 rfl (by decide) (fun hc => absurd hc (by decide)) (fun _ => ?_)
      refine aw_ldc (npc := 21) kc_X8_187 dX8_mark_19 rfl ?_
      refine aw_iret rfl dX8_mark_21 ?_
      exact fin_m hq (show sp_mark 3 q v = (-1000000011) from (by unfold sp_mark; first | rfl | (simp only [wif_t hw1, wif_same, ite_self]; done) | (simp only [wif_t hw1, wif_same, ite_self]; rfl) | (simp [wif_t hw1, wif_same]; done)))
  · refine aw_re (S' := [.int 0]) rfl ?_
    refine aw_if_ne (npc := 7) (tgt := 10) dX8_mark_4 rfl (by decide) (fun hc => absurd (by decide) hc) (fun _ => ?_)
    refine aw_ldc (npc := 9) kc_X8_91 dX8_mark_7 rfl ?_
    refine aw_iret rfl dX8_mark_9 ?_
    exact fin_m hq (show sp_mark s q v = (-1000000001) from (by unfold sp_mark; first | rfl | (simp only [wif_f hw1, wif_same, ite_self]; done) | (simp only [wif_f hw1, wif_same, ite_self]; rfl) | (simp [wif_f hw1, wif_same]; done)))
noncomputable def sp_pour (s : Int32) : Int32 := wif s 0 3 ((-1000000011)) (-1000000001)
set_option maxHeartbeats 40000000 in
set_option maxRecDepth 100000 in
theorem p_X7_pour {X : List Int32} {d rc rs : Nat} {h : am_H} {Q : am_Q} {s : Int32} (F : f0_X7 h) (hq : ∀ h9, am_fr 69 h9 h → Q (some (.int (sp_pour s))) 92 h9) : AW X mX7_pour (d + 12) rc rs 0 [some (.ref 0), some (.int s), none, none, none, none] [] 92 h Q := by
  obtain ⟨f0, -, -, -, -, -, -, -, -, -, -, -, -, -, -, -, -, -, -, -, -, -, -, -, -, -, -, -, -, -, -, -, -, -, -, -, -, -, -, -, -, -, -, f43, -, -, f46, -, f48, -, f50, -, f52, -, -, -, -, -, -, -, -, -, -, -, -, -, -, -, -⟩ := F
  refine aw_iload_n (npc := 1) rfl dX7_pour_0 rfl ?_
  refine aw_callS (npc := 4) (N := mX7_isSheet) (mc := 0) (ms := 0) (A := [.int s]) (S := []) (L0 := [some (.int s)]) dX7_pour_1 rfl km_X7_isSheet kk_X7_204 rfl ⟨rfl, by decide⟩ rfl (Nat.le_of_ble_eq_true rfl) (Nat.zero_add _) (Nat.zero_add _) rfl ?_
  refine c_X7_isSheet (fun hw1 => ?_) (fun hw1 => ?_)
  · rcases wi_c0_3 hw1 with rfl | rfl | rfl | rfl
    · refine aw_re (S' := [.int 1]) rfl ?_
      refine aw_if_ne (npc := 7) (tgt := 10) dX7_pour_4 rfl (by decide) (fun _ => ?_) (fun hc => absurd hc (by decide))
      refine aw_aload_n (npc := 11) rfl dX7_pour_10 rfl ?_
      refine aw_get (npc := 14) dX7_pour_11 rfl kf_X7_47 f0 rfl ?_
      refine aw_iload_n (npc := 15) rfl dX7_pour_14 rfl ?_
      refine aw_aald (npc := 16) (j := 0) dX7_pour_15 rfl (by decide) f43 ⟨by decide, by decide⟩ rfl ?_
      refine aw_astore_n (npc := 17) (L' := [some (.ref 0), some (.int 0), some (.ref 46), none, none, none]) dX7_pour_16 rfl (by decide) rfl rfl ?_
      refine aw_aload_n (npc := 18) rfl dX7_pour_17 rfl ?_
      refine aw_callV (npc := 21) (N := mX2_isMissing) (b := 46) (mc := 0) (ms := 0) (A := []) (S := []) (L0 := [some (.ref 46)]) dX7_pour_18 rfl km_X2_isMissing kk_X7_207 f46 ⟨by decide, rfl⟩ rfl ⟨rfl, by decide⟩ rfl (Nat.le_of_ble_eq_true rfl) (Nat.zero_add _) (Nat.zero_add _) rfl ?_
      refine aw_aload_n (npc := 1) rfl dX2_isMissing_0 rfl ?_
      refine aw_get (npc := 4) dX2_isMissing_1 rfl kf_X2_9 f46 rfl ?_
      refine aw_iconst (npc := 5) (v := -1) (by decide) dX2_isMissing_4 rfl ?_
      refine aw_icmp_ne (npc := 8) (tgt := 12) dX2_isMissing_5 rfl (by decide) (fun hc => absurd (by decide) hc) (fun _ => ?_)
      refine aw_iconst (npc := 9) (v := 1) (by decide) dX2_isMissing_8 rfl ?_
      refine aw_goto (npc := 13) dX2_isMissing_9 (by decide) ?_
      refine aw_zret rfl rfl dX2_isMissing_13 ?_
      refine aw_re (S' := [.int 1]) rfl ?_
      refine aw_if_eq (npc := 24) (tgt := 27) dX7_pour_21 rfl (by decide) (fun hc => absurd hc (by decide)) (fun _ => ?_)
      refine aw_ldc (npc := 26) kc_X7_210 dX7_pour_24 rfl ?_
      refine aw_iret rfl dX7_pour_26 ?_
      exact fin_c hq am_fr0 (show sp_pour 0 = (-1000000011) from (by unfold sp_pour; first | rfl | (simp only [wif_t hw1, wif_same, ite_self]; done) | (simp only [wif_t hw1, wif_same, ite_self]; rfl) | (simp [wif_t hw1, wif_same]; done)))
    · refine aw_re (S' := [.int 1]) rfl ?_
      refine aw_if_ne (npc := 7) (tgt := 10) dX7_pour_4 rfl (by decide) (fun _ => ?_) (fun hc => absurd hc (by decide))
      refine aw_aload_n (npc := 11) rfl dX7_pour_10 rfl ?_
      refine aw_get (npc := 14) dX7_pour_11 rfl kf_X7_47 f0 rfl ?_
      refine aw_iload_n (npc := 15) rfl dX7_pour_14 rfl ?_
      refine aw_aald (npc := 16) (j := 1) dX7_pour_15 rfl (by decide) f43 ⟨by decide, by decide⟩ rfl ?_
      refine aw_astore_n (npc := 17) (L' := [some (.ref 0), some (.int 1), some (.ref 48), none, none, none]) dX7_pour_16 rfl (by decide) rfl rfl ?_
      refine aw_aload_n (npc := 18) rfl dX7_pour_17 rfl ?_
      refine aw_callV (npc := 21) (N := mX2_isMissing) (b := 48) (mc := 0) (ms := 0) (A := []) (S := []) (L0 := [some (.ref 48)]) dX7_pour_18 rfl km_X2_isMissing kk_X7_207 f48 ⟨by decide, rfl⟩ rfl ⟨rfl, by decide⟩ rfl (Nat.le_of_ble_eq_true rfl) (Nat.zero_add _) (Nat.zero_add _) rfl ?_
      refine aw_aload_n (npc := 1) rfl dX2_isMissing_0 rfl ?_
      refine aw_get (npc := 4) dX2_isMissing_1 rfl kf_X2_9 f48 rfl ?_
      refine aw_iconst (npc := 5) (v := -1) (by decide) dX2_isMissing_4 rfl ?_
      refine aw_icmp_ne (npc := 8) (tgt := 12) dX2_isMissing_5 rfl (by decide) (fun hc => absurd (by decide) hc) (fun _ => ?_)
      refine aw_iconst (npc := 9) (v := 1) (by decide) dX2_isMissing_8 rfl ?_
      refine aw_goto (npc := 13) dX2_isMissing_9 (by decide) ?_
      refine aw_zret rfl rfl dX2_isMissing_13 ?_
      refine aw_re (S' := [.int 1]) rfl ?_
      refine aw_if_eq (npc := 24) (tgt := 27) dX7_pour_21 rfl (by decide) (fun hc => absurd hc (by decide)) (fun _ => ?_)
      refine aw_ldc (npc := 26) kc_X7_210 dX7_pour_24 rfl ?_
      refine aw_iret rfl dX7_pour_26 ?_
      exact fin_c hq am_fr0 (show sp_pour 1 = (-1000000011) from (by unfold sp_pour; first | rfl | (simp only [wif_t hw1, wif_same, ite_self]; done) | (simp only [wif_t hw1, wif_same, ite_self]; rfl) | (simp [wif_t hw1, wif_same]; done)))
    · refine aw_re (S' := [.int 1]) rfl ?_
      refine aw_if_ne (npc := 7) (tgt := 10) dX7_pour_4 rfl (by decide) (fun _ => ?_) (fun hc => absurd hc (by decide))
      refine aw_aload_n (npc := 11) rfl dX7_pour_10 rfl ?_
      refine aw_get (npc := 14) dX7_pour_11 rfl kf_X7_47 f0 rfl ?_
      refine aw_iload_n (npc := 15) rfl dX7_pour_14 rfl ?_
      refine aw_aald (npc := 16) (j := 2) dX7_pour_15 rfl (by decide) f43 ⟨by decide, by decide⟩ rfl ?_
      refine aw_astore_n (npc := 17) (L' := [some (.ref 0), some (.int 2), some (.ref 50), none, none, none]) dX7_pour_16 rfl (by decide) rfl rfl ?_
      refine aw_aload_n (npc := 18) rfl dX7_pour_17 rfl ?_
      refine aw_callV (npc := 21) (N := mX2_isMissing) (b := 50) (mc := 0) (ms := 0) (A := []) (S := []) (L0 := [some (.ref 50)]) dX7_pour_18 rfl km_X2_isMissing kk_X7_207 f50 ⟨by decide, rfl⟩ rfl ⟨rfl, by decide⟩ rfl (Nat.le_of_ble_eq_true rfl) (Nat.zero_add _) (Nat.zero_add _) rfl ?_
      refine aw_aload_n (npc := 1) rfl dX2_isMissing_0 rfl ?_
      refine aw_get (npc := 4) dX2_isMissing_1 rfl kf_X2_9 f50 rfl ?_
      refine aw_iconst (npc := 5) (v := -1) (by decide) dX2_isMissing_4 rfl ?_
      refine aw_icmp_ne (npc := 8) (tgt := 12) dX2_isMissing_5 rfl (by decide) (fun hc => absurd (by decide) hc) (fun _ => ?_)
      refine aw_iconst (npc := 9) (v := 1) (by decide) dX2_isMissing_8 rfl ?_
      refine aw_goto (npc := 13) dX2_isMissing_9 (by decide) ?_
      refine aw_zret rfl rfl dX2_isMissing_13 ?_
      refine aw_re (S' := [.int 1]) rfl ?_
      refine aw_if_eq (npc := 24) (tgt := 27) dX7_pour_21 rfl (by decide) (fun hc => absurd hc (by decide)) (fun _ => ?_)
      refine aw_ldc (npc := 26) kc_X7_210 dX7_pour_24 rfl ?_
      refine aw_iret rfl dX7_pour_26 ?_
      exact fin_c hq am_fr0 (show sp_pour 2 = (-1000000011) from (by unfold sp_pour; first | rfl | (simp only [wif_t hw1, wif_same, ite_self]; done) | (simp only [wif_t hw1, wif_same, ite_self]; rfl) | (simp [wif_t hw1, wif_same]; done)))
    · refine aw_re (S' := [.int 1]) rfl ?_
      refine aw_if_ne (npc := 7) (tgt := 10) dX7_pour_4 rfl (by decide) (fun _ => ?_) (fun hc => absurd hc (by decide))
      refine aw_aload_n (npc := 11) rfl dX7_pour_10 rfl ?_
      refine aw_get (npc := 14) dX7_pour_11 rfl kf_X7_47 f0 rfl ?_
      refine aw_iload_n (npc := 15) rfl dX7_pour_14 rfl ?_
      refine aw_aald (npc := 16) (j := 3) dX7_pour_15 rfl (by decide) f43 ⟨by decide, by decide⟩ rfl ?_
      refine aw_astore_n (npc := 17) (L' := [some (.ref 0), some (.int 3), some (.ref 52), none, none, none]) dX7_pour_16 rfl (by decide) rfl rfl ?_
      refine aw_aload_n (npc := 18) rfl dX7_pour_17 rfl ?_
      refine aw_callV (npc := 21) (N := mX2_isMissing) (b := 52) (mc := 0) (ms := 0) (A := []) (S := []) (L0 := [some (.ref 52)]) dX7_pour_18 rfl km_X2_isMissing kk_X7_207 f52 ⟨by decide, rfl⟩ rfl ⟨rfl, by decide⟩ rfl (Nat.le_of_ble_eq_true rfl) (Nat.zero_add _) (Nat.zero_add _) rfl ?_
      refine aw_aload_n (npc := 1) rfl dX2_isMissing_0 rfl ?_
      refine aw_get (npc := 4) dX2_isMissing_1 rfl kf_X2_9 f52 rfl ?_
      refine aw_iconst (npc := 5) (v := -1) (by decide) dX2_isMissing_4 rfl ?_
      refine aw_icmp_ne (npc := 8) (tgt := 12) dX2_isMissing_5 rfl (by decide) (fun hc => absurd (by decide) hc) (fun _ => ?_)
      refine aw_iconst (npc := 9) (v := 1) (by decide) dX2_isMissing_8 rfl ?_
      refine aw_goto (npc := 13) dX2_isMissing_9 (by decide) ?_
      refine aw_zret rfl rfl dX2_isMissing_13 ?_
      refine aw_re (S' := [.int 1]) rfl ?_
      refine aw_if_eq (npc := 24) (tgt := 27) dX7_pour_21 rfl (by decide) (fun hc => absurd hc (by decide)) (fun _ => ?_)
      refine aw_ldc (npc := 26) kc_X7_210 dX7_pour_24 rfl ?_
      refine aw_iret rfl dX7_pour_26 ?_
      exact fin_c hq am_fr0 (show sp_pour 3 = (-1000000011) from (by unfold sp_pour; first | rfl | (simp only [wif_t hw1, wif_same, ite_self]; done) | (simp only [wif_t hw1, wif_same, ite_self]; rfl) | (simp [wif_t hw1, wif_same]; done)))
  · refine aw_re (S' := [.int 0]) rfl ?_
    refine aw_if_ne (npc := 7) (tgt := 10) dX7_pour_4 rfl (by decide) (fun hc => absurd (by decide) hc) (fun _ => ?_)
    refine aw_ldc (npc := 9) kc_X7_78 dX7_pour_7 rfl ?_
    refine aw_iret rfl dX7_pour_9 ?_
    exact fin_c hq am_fr0 (show sp_pour s = (-1000000001) from (by unfold sp_pour; first | rfl | (simp only [wif_f hw1, wif_same, ite_self]; done) | (simp only [wif_f hw1, wif_same, ite_self]; rfl) | (simp [wif_f hw1, wif_same]; done)))
set_option maxHeartbeats 40000000 in
set_option maxRecDepth 100000 in
theorem p_X8_pour {X : List Int32} {d rc rs : Nat} {h : am_H} {Q : am_Q} {s : Int32} (F : f0_X8 h) (hq : ∀ n9 h9, Q (some (.int (sp_pour s))) n9 h9) : AW X mX8_pour (d + 12) rc rs 0 [some (.ref 69), some (.int s), none, none, none, none] [] 92 h Q := by
  obtain ⟨g69, -, -, -, -, -, -, -, -, -, -, -, -, -, g83, -, -, -, -, -, -, -, -⟩ := F
  refine aw_iload_n (npc := 1) rfl dX8_pour_0 rfl ?_
  refine aw_callS (npc := 4) (N := mX8_isSheet) (mc := 0) (ms := 0) (A := [.int s]) (S := []) (L0 := [some (.int s)]) dX8_pour_1 rfl km_X8_isSheet kk_X8_184 rfl ⟨rfl, by decide⟩ rfl (Nat.le_of_ble_eq_true rfl) (Nat.zero_add _) (Nat.zero_add _) rfl ?_
  refine c_X8_isSheet (fun hw1 => ?_) (fun hw1 => ?_)
  · rcases wi_c0_3 hw1 with rfl | rfl | rfl | rfl
    · refine aw_re (S' := [.int 1]) rfl ?_
      refine aw_if_ne (npc := 7) (tgt := 10) dX8_pour_4 rfl (by decide) (fun _ => ?_) (fun hc => absurd hc (by decide))
      refine aw_aload_n (npc := 11) rfl dX8_pour_10 rfl ?_
      refine aw_get (npc := 14) dX8_pour_11 rfl kf_X8_55 g69 rfl ?_
      refine aw_iload_n (npc := 15) rfl dX8_pour_14 rfl ?_
      refine aw_iald (npc := 16) (x := (-1)) (j := 0) dX8_pour_15 rfl g83 ⟨by decide, by decide⟩ rfl ?_
      refine aw_if_ge (npc := 19) (tgt := 22) dX8_pour_16 rfl (by decide) (fun hc => absurd hc (by decide)) (fun _ => ?_)
      refine aw_ldc (npc := 21) kc_X8_187 dX8_pour_19 rfl ?_
      refine aw_iret rfl dX8_pour_21 ?_
      exact fin_m hq (show sp_pour 0 = (-1000000011) from (by unfold sp_pour; first | rfl | (simp only [wif_t hw1, wif_same, ite_self]; done) | (simp only [wif_t hw1, wif_same, ite_self]; rfl) | (simp [wif_t hw1, wif_same]; done)))
    · refine aw_re (S' := [.int 1]) rfl ?_
      refine aw_if_ne (npc := 7) (tgt := 10) dX8_pour_4 rfl (by decide) (fun _ => ?_) (fun hc => absurd hc (by decide))
      refine aw_aload_n (npc := 11) rfl dX8_pour_10 rfl ?_
      refine aw_get (npc := 14) dX8_pour_11 rfl kf_X8_55 g69 rfl ?_
      refine aw_iload_n (npc := 15) rfl dX8_pour_14 rfl ?_
      refine aw_iald (npc := 16) (x := (-1)) (j := 1) dX8_pour_15 rfl g83 ⟨by decide, by decide⟩ rfl ?_
      refine aw_if_ge (npc := 19) (tgt := 22) dX8_pour_16 rfl (by decide) (fun hc => absurd hc (by decide)) (fun _ => ?_)
      refine aw_ldc (npc := 21) kc_X8_187 dX8_pour_19 rfl ?_
      refine aw_iret rfl dX8_pour_21 ?_
      exact fin_m hq (show sp_pour 1 = (-1000000011) from (by unfold sp_pour; first | rfl | (simp only [wif_t hw1, wif_same, ite_self]; done) | (simp only [wif_t hw1, wif_same, ite_self]; rfl) | (simp [wif_t hw1, wif_same]; done)))
    · refine aw_re (S' := [.int 1]) rfl ?_
      refine aw_if_ne (npc := 7) (tgt := 10) dX8_pour_4 rfl (by decide) (fun _ => ?_) (fun hc => absurd hc (by decide))
      refine aw_aload_n (npc := 11) rfl dX8_pour_10 rfl ?_
      refine aw_get (npc := 14) dX8_pour_11 rfl kf_X8_55 g69 rfl ?_
      refine aw_iload_n (npc := 15) rfl dX8_pour_14 rfl ?_
      refine aw_iald (npc := 16) (x := (-1)) (j := 2) dX8_pour_15 rfl g83 ⟨by decide, by decide⟩ rfl ?_
      refine aw_if_ge (npc := 19) (tgt := 22) dX8_pour_16 rfl (by decide) (fun hc => absurd hc (by decide)) (fun _ => ?_)
      refine aw_ldc (npc := 21) kc_X8_187 dX8_pour_19 rfl ?_
      refine aw_iret rfl dX8_pour_21 ?_
      exact fin_m hq (show sp_pour 2 = (-1000000011) from (by unfold sp_pour; first | rfl | (simp only [wif_t hw1, wif_same, ite_self]; done) | (simp only [wif_t hw1, wif_same, ite_self]; rfl) | (simp [wif_t hw1, wif_same]; done)))
    · refine aw_re (S' := [.int 1]) rfl ?_
      refine aw_if_ne (npc := 7) (tgt := 10) dX8_pour_4 rfl (by decide) (fun _ => ?_) (fun hc => absurd hc (by decide))
      refine aw_aload_n (npc := 11) rfl dX8_pour_10 rfl ?_
      refine aw_get (npc := 14) dX8_pour_11 rfl kf_X8_55 g69 rfl ?_
      refine aw_iload_n (npc := 15) rfl dX8_pour_14 rfl ?_
      refine aw_iald (npc := 16) (x := (-1)) (j := 3) dX8_pour_15 rfl g83 ⟨by decide, by decide⟩ rfl ?_
      refine aw_if_ge (npc := 19) (tgt := 22) dX8_pour_16 rfl (by decide) (fun hc => absurd hc (by decide)) (fun _ => ?_)
      refine aw_ldc (npc := 21) kc_X8_187 dX8_pour_19 rfl ?_
      refine aw_iret rfl dX8_pour_21 ?_
      exact fin_m hq (show sp_pour 3 = (-1000000011) from (by unfold sp_pour; first | rfl | (simp only [wif_t hw1, wif_same, ite_self]; done) | (simp only [wif_t hw1, wif_same, ite_self]; rfl) | (simp [wif_t hw1, wif_same]; done)))
  · refine aw_re (S' := [.int 0]) rfl ?_
    refine aw_if_ne (npc := 7) (tgt := 10) dX8_pour_4 rfl (by decide) (fun hc => absurd (by decide) hc) (fun _ => ?_)
    refine aw_ldc (npc := 9) kc_X8_91 dX8_pour_7 rfl ?_
    refine aw_iret rfl dX8_pour_9 ?_
    exact fin_m hq (show sp_pour s = (-1000000001) from (by unfold sp_pour; first | rfl | (simp only [wif_f hw1, wif_same, ite_self]; done) | (simp only [wif_f hw1, wif_same, ite_self]; rfl) | (simp [wif_f hw1, wif_same]; done)))
noncomputable def sp_reads (s : Int32) : Int32 := wif s 0 3 ((-1000000011)) (-1000000001)
set_option maxHeartbeats 40000000 in
set_option maxRecDepth 100000 in
theorem p_X7_reads {X : List Int32} {d rc rs : Nat} {h : am_H} {Q : am_Q} {s : Int32} (F : f0_X7 h) (hq : ∀ h9, am_fr 69 h9 h → Q (some (.int (sp_reads s))) 92 h9) : AW X mX7_reads (d + 12) rc rs 0 [some (.ref 0), some (.int s), none, none] [] 92 h Q := by
  obtain ⟨f0, -, -, -, -, -, -, -, -, -, -, -, -, -, -, -, -, -, -, -, -, -, -, -, -, -, -, -, -, -, -, -, -, -, -, -, -, -, -, -, -, -, -, f43, -, -, f46, -, f48, -, f50, -, f52, -, -, -, -, -, -, -, -, -, -, -, -, -, -, -, -⟩ := F
  refine aw_iload_n (npc := 1) rfl dX7_reads_0 rfl ?_
  refine aw_callS (npc := 4) (N := mX7_isSheet) (mc := 0) (ms := 0) (A := [.int s]) (S := []) (L0 := [some (.int s)]) dX7_reads_1 rfl km_X7_isSheet kk_X7_204 rfl ⟨rfl, by decide⟩ rfl (Nat.le_of_ble_eq_true rfl) (Nat.zero_add _) (Nat.zero_add _) rfl ?_
  refine c_X7_isSheet (fun hw1 => ?_) (fun hw1 => ?_)
  · rcases wi_c0_3 hw1 with rfl | rfl | rfl | rfl
    · refine aw_re (S' := [.int 1]) rfl ?_
      refine aw_if_ne (npc := 7) (tgt := 10) dX7_reads_4 rfl (by decide) (fun _ => ?_) (fun hc => absurd hc (by decide))
      refine aw_aload_n (npc := 11) rfl dX7_reads_10 rfl ?_
      refine aw_get (npc := 14) dX7_reads_11 rfl kf_X7_47 f0 rfl ?_
      refine aw_iload_n (npc := 15) rfl dX7_reads_14 rfl ?_
      refine aw_aald (npc := 16) (j := 0) dX7_reads_15 rfl (by decide) f43 ⟨by decide, by decide⟩ rfl ?_
      refine aw_astore_n (npc := 17) (L' := [some (.ref 0), some (.int 0), some (.ref 46), none]) dX7_reads_16 rfl (by decide) rfl rfl ?_
      refine aw_aload_n (npc := 18) rfl dX7_reads_17 rfl ?_
      refine aw_callV (npc := 21) (N := mX2_isMissing) (b := 46) (mc := 0) (ms := 0) (A := []) (S := []) (L0 := [some (.ref 46)]) dX7_reads_18 rfl km_X2_isMissing kk_X7_207 f46 ⟨by decide, rfl⟩ rfl ⟨rfl, by decide⟩ rfl (Nat.le_of_ble_eq_true rfl) (Nat.zero_add _) (Nat.zero_add _) rfl ?_
      refine aw_aload_n (npc := 1) rfl dX2_isMissing_0 rfl ?_
      refine aw_get (npc := 4) dX2_isMissing_1 rfl kf_X2_9 f46 rfl ?_
      refine aw_iconst (npc := 5) (v := -1) (by decide) dX2_isMissing_4 rfl ?_
      refine aw_icmp_ne (npc := 8) (tgt := 12) dX2_isMissing_5 rfl (by decide) (fun hc => absurd (by decide) hc) (fun _ => ?_)
      refine aw_iconst (npc := 9) (v := 1) (by decide) dX2_isMissing_8 rfl ?_
      refine aw_goto (npc := 13) dX2_isMissing_9 (by decide) ?_
      refine aw_zret rfl rfl dX2_isMissing_13 ?_
      refine aw_re (S' := [.int 1]) rfl ?_
      refine aw_if_eq (npc := 24) (tgt := 27) dX7_reads_21 rfl (by decide) (fun hc => absurd hc (by decide)) (fun _ => ?_)
      refine aw_ldc (npc := 26) kc_X7_210 dX7_reads_24 rfl ?_
      refine aw_iret rfl dX7_reads_26 ?_
      exact fin_c hq am_fr0 (show sp_reads 0 = (-1000000011) from (by unfold sp_reads; first | rfl | (simp only [wif_t hw1, wif_same, ite_self]; done) | (simp only [wif_t hw1, wif_same, ite_self]; rfl) | (simp [wif_t hw1, wif_same]; done)))
    · refine aw_re (S' := [.int 1]) rfl ?_
      refine aw_if_ne (npc := 7) (tgt := 10) dX7_reads_4 rfl (by decide) (fun _ => ?_) (fun hc => absurd hc (by decide))
      refine aw_aload_n (npc := 11) rfl dX7_reads_10 rfl ?_
      refine aw_get (npc := 14) dX7_reads_11 rfl kf_X7_47 f0 rfl ?_
      refine aw_iload_n (npc := 15) rfl dX7_reads_14 rfl ?_
      refine aw_aald (npc := 16) (j := 1) dX7_reads_15 rfl (by decide) f43 ⟨by decide, by decide⟩ rfl ?_
      refine aw_astore_n (npc := 17) (L' := [some (.ref 0), some (.int 1), some (.ref 48), none]) dX7_reads_16 rfl (by decide) rfl rfl ?_
      refine aw_aload_n (npc := 18) rfl dX7_reads_17 rfl ?_
      refine aw_callV (npc := 21) (N := mX2_isMissing) (b := 48) (mc := 0) (ms := 0) (A := []) (S := []) (L0 := [some (.ref 48)]) dX7_reads_18 rfl km_X2_isMissing kk_X7_207 f48 ⟨by decide, rfl⟩ rfl ⟨rfl, by decide⟩ rfl (Nat.le_of_ble_eq_true rfl) (Nat.zero_add _) (Nat.zero_add _) rfl ?_
      refine aw_aload_n (npc := 1) rfl dX2_isMissing_0 rfl ?_
      refine aw_get (npc := 4) dX2_isMissing_1 rfl kf_X2_9 f48 rfl ?_
      refine aw_iconst (npc := 5) (v := -1) (by decide) dX2_isMissing_4 rfl ?_
      refine aw_icmp_ne (npc := 8) (tgt := 12) dX2_isMissing_5 rfl (by decide) (fun hc => absurd (by decide) hc) (fun _ => ?_)
      refine aw_iconst (npc := 9) (v := 1) (by decide) dX2_isMissing_8 rfl ?_
      refine aw_goto (npc := 13) dX2_isMissing_9 (by decide) ?_
      refine aw_zret rfl rfl dX2_isMissing_13 ?_
      refine aw_re (S' := [.int 1]) rfl ?_
      refine aw_if_eq (npc := 24) (tgt := 27) dX7_reads_21 rfl (by decide) (fun hc => absurd hc (by decide)) (fun _ => ?_)
      refine aw_ldc (npc := 26) kc_X7_210 dX7_reads_24 rfl ?_
      refine aw_iret rfl dX7_reads_26 ?_
      exact fin_c hq am_fr0 (show sp_reads 1 = (-1000000011) from (by unfold sp_reads; first | rfl | (simp only [wif_t hw1, wif_same, ite_self]; done) | (simp only [wif_t hw1, wif_same, ite_self]; rfl) | (simp [wif_t hw1, wif_same]; done)))
    · refine aw_re (S' := [.int 1]) rfl ?_
      refine aw_if_ne (npc := 7) (tgt := 10) dX7_reads_4 rfl (by decide) (fun _ => ?_) (fun hc => absurd hc (by decide))
      refine aw_aload_n (npc := 11) rfl dX7_reads_10 rfl ?_
      refine aw_get (npc := 14) dX7_reads_11 rfl kf_X7_47 f0 rfl ?_
      refine aw_iload_n (npc := 15) rfl dX7_reads_14 rfl ?_
      refine aw_aald (npc := 16) (j := 2) dX7_reads_15 rfl (by decide) f43 ⟨by decide, by decide⟩ rfl ?_
      refine aw_astore_n (npc := 17) (L' := [some (.ref 0), some (.int 2), some (.ref 50), none]) dX7_reads_16 rfl (by decide) rfl rfl ?_
      refine aw_aload_n (npc := 18) rfl dX7_reads_17 rfl ?_
      refine aw_callV (npc := 21) (N := mX2_isMissing) (b := 50) (mc := 0) (ms := 0) (A := []) (S := []) (L0 := [some (.ref 50)]) dX7_reads_18 rfl km_X2_isMissing kk_X7_207 f50 ⟨by decide, rfl⟩ rfl ⟨rfl, by decide⟩ rfl (Nat.le_of_ble_eq_true rfl) (Nat.zero_add _) (Nat.zero_add _) rfl ?_
      refine aw_aload_n (npc := 1) rfl dX2_isMissing_0 rfl ?_
      refine aw_get (npc := 4) dX2_isMissing_1 rfl kf_X2_9 f50 rfl ?_
      refine aw_iconst (npc := 5) (v := -1) (by decide) dX2_isMissing_4 rfl ?_
      refine aw_icmp_ne (npc := 8) (tgt := 12) dX2_isMissing_5 rfl (by decide) (fun hc => absurd (by decide) hc) (fun _ => ?_)
      refine aw_iconst (npc := 9) (v := 1) (by decide) dX2_isMissing_8 rfl ?_
      refine aw_goto (npc := 13) dX2_isMissing_9 (by decide) ?_
      refine aw_zret rfl rfl dX2_isMissing_13 ?_
      refine aw_re (S' := [.int 1]) rfl ?_
      refine aw_if_eq (npc := 24) (tgt := 27) dX7_reads_21 rfl (by decide) (fun hc => absurd hc (by decide)) (fun _ => ?_)
      refine aw_ldc (npc := 26) kc_X7_210 dX7_reads_24 rfl ?_
      refine aw_iret rfl dX7_reads_26 ?_
      exact fin_c hq am_fr0 (show sp_reads 2 = (-1000000011) from (by unfold sp_reads; first | rfl | (simp only [wif_t hw1, wif_same, ite_self]; done) | (simp only [wif_t hw1, wif_same, ite_self]; rfl) | (simp [wif_t hw1, wif_same]; done)))
    · refine aw_re (S' := [.int 1]) rfl ?_
      refine aw_if_ne (npc := 7) (tgt := 10) dX7_reads_4 rfl (by decide) (fun _ => ?_) (fun hc => absurd hc (by decide))
      refine aw_aload_n (npc := 11) rfl dX7_reads_10 rfl ?_
      refine aw_get (npc := 14) dX7_reads_11 rfl kf_X7_47 f0 rfl ?_
      refine aw_iload_n (npc := 15) rfl dX7_reads_14 rfl ?_
      refine aw_aald (npc := 16) (j := 3) dX7_reads_15 rfl (by decide) f43 ⟨by decide, by decide⟩ rfl ?_
      refine aw_astore_n (npc := 17) (L' := [some (.ref 0), some (.int 3), some (.ref 52), none]) dX7_reads_16 rfl (by decide) rfl rfl ?_
      refine aw_aload_n (npc := 18) rfl dX7_reads_17 rfl ?_
      refine aw_callV (npc := 21) (N := mX2_isMissing) (b := 52) (mc := 0) (ms := 0) (A := []) (S := []) (L0 := [some (.ref 52)]) dX7_reads_18 rfl km_X2_isMissing kk_X7_207 f52 ⟨by decide, rfl⟩ rfl ⟨rfl, by decide⟩ rfl (Nat.le_of_ble_eq_true rfl) (Nat.zero_add _) (Nat.zero_add _) rfl ?_
      refine aw_aload_n (npc := 1) rfl dX2_isMissing_0 rfl ?_
      refine aw_get (npc := 4) dX2_isMissing_1 rfl kf_X2_9 f52 rfl ?_
      refine aw_iconst (npc := 5) (v := -1) (by decide) dX2_isMissing_4 rfl ?_
      refine aw_icmp_ne (npc := 8) (tgt := 12) dX2_isMissing_5 rfl (by decide) (fun hc => absurd (by decide) hc) (fun _ => ?_)
      refine aw_iconst (npc := 9) (v := 1) (by decide) dX2_isMissing_8 rfl ?_
      refine aw_goto (npc := 13) dX2_isMissing_9 (by decide) ?_
      refine aw_zret rfl rfl dX2_isMissing_13 ?_
      refine aw_re (S' := [.int 1]) rfl ?_
      refine aw_if_eq (npc := 24) (tgt := 27) dX7_reads_21 rfl (by decide) (fun hc => absurd hc (by decide)) (fun _ => ?_)
      refine aw_ldc (npc := 26) kc_X7_210 dX7_reads_24 rfl ?_
      refine aw_iret rfl dX7_reads_26 ?_
      exact fin_c hq am_fr0 (show sp_reads 3 = (-1000000011) from (by unfold sp_reads; first | rfl | (simp only [wif_t hw1, wif_same, ite_self]; done) | (simp only [wif_t hw1, wif_same, ite_self]; rfl) | (simp [wif_t hw1, wif_same]; done)))
  · refine aw_re (S' := [.int 0]) rfl ?_
    refine aw_if_ne (npc := 7) (tgt := 10) dX7_reads_4 rfl (by decide) (fun hc => absurd (by decide) hc) (fun _ => ?_)
    refine aw_ldc (npc := 9) kc_X7_78 dX7_reads_7 rfl ?_
    refine aw_iret rfl dX7_reads_9 ?_
    exact fin_c hq am_fr0 (show sp_reads s = (-1000000001) from (by unfold sp_reads; first | rfl | (simp only [wif_f hw1, wif_same, ite_self]; done) | (simp only [wif_f hw1, wif_same, ite_self]; rfl) | (simp [wif_f hw1, wif_same]; done)))
set_option maxHeartbeats 40000000 in
set_option maxRecDepth 100000 in
theorem p_X8_reads {X : List Int32} {d rc rs : Nat} {h : am_H} {Q : am_Q} {s : Int32} (F : f0_X8 h) (hq : ∀ n9 h9, Q (some (.int (sp_reads s))) n9 h9) : AW X mX8_reads (d + 12) rc rs 0 [some (.ref 69), some (.int s), none] [] 92 h Q := by
  obtain ⟨g69, -, -, -, -, -, -, -, -, -, -, -, -, -, g83, -, -, -, -, -, -, -, -⟩ := F
  refine aw_iload_n (npc := 1) rfl dX8_reads_0 rfl ?_
  refine aw_callS (npc := 4) (N := mX8_isSheet) (mc := 0) (ms := 0) (A := [.int s]) (S := []) (L0 := [some (.int s)]) dX8_reads_1 rfl km_X8_isSheet kk_X8_184 rfl ⟨rfl, by decide⟩ rfl (Nat.le_of_ble_eq_true rfl) (Nat.zero_add _) (Nat.zero_add _) rfl ?_
  refine c_X8_isSheet (fun hw1 => ?_) (fun hw1 => ?_)
  · rcases wi_c0_3 hw1 with rfl | rfl | rfl | rfl
    · refine aw_re (S' := [.int 1]) rfl ?_
      refine aw_if_ne (npc := 7) (tgt := 10) dX8_reads_4 rfl (by decide) (fun _ => ?_) (fun hc => absurd hc (by decide))
      refine aw_aload_n (npc := 11) rfl dX8_reads_10 rfl ?_
      refine aw_get (npc := 14) dX8_reads_11 rfl kf_X8_55 g69 rfl ?_
      refine aw_iload_n (npc := 15) rfl dX8_reads_14 rfl ?_
      refine aw_iald (npc := 16) (x := (-1)) (j := 0) dX8_reads_15 rfl g83 ⟨by decide, by decide⟩ rfl ?_
      refine aw_if_ge (npc := 19) (tgt := 22) dX8_reads_16 rfl (by decide) (fun hc => absurd hc (by decide)) (fun _ => ?_)
      refine aw_ldc (npc := 21) kc_X8_187 dX8_reads_19 rfl ?_
      refine aw_iret rfl dX8_reads_21 ?_
      exact fin_m hq (show sp_reads 0 = (-1000000011) from (by unfold sp_reads; first | rfl | (simp only [wif_t hw1, wif_same, ite_self]; done) | (simp only [wif_t hw1, wif_same, ite_self]; rfl) | (simp [wif_t hw1, wif_same]; done)))
    · refine aw_re (S' := [.int 1]) rfl ?_
      refine aw_if_ne (npc := 7) (tgt := 10) dX8_reads_4 rfl (by decide) (fun _ => ?_) (fun hc => absurd hc (by decide))
      refine aw_aload_n (npc := 11) rfl dX8_reads_10 rfl ?_
      refine aw_get (npc := 14) dX8_reads_11 rfl kf_X8_55 g69 rfl ?_
      refine aw_iload_n (npc := 15) rfl dX8_reads_14 rfl ?_
      refine aw_iald (npc := 16) (x := (-1)) (j := 1) dX8_reads_15 rfl g83 ⟨by decide, by decide⟩ rfl ?_
      refine aw_if_ge (npc := 19) (tgt := 22) dX8_reads_16 rfl (by decide) (fun hc => absurd hc (by decide)) (fun _ => ?_)
      refine aw_ldc (npc := 21) kc_X8_187 dX8_reads_19 rfl ?_
      refine aw_iret rfl dX8_reads_21 ?_
      exact fin_m hq (show sp_reads 1 = (-1000000011) from (by unfold sp_reads; first | rfl | (simp only [wif_t hw1, wif_same, ite_self]; done) | (simp only [wif_t hw1, wif_same, ite_self]; rfl) | (simp [wif_t hw1, wif_same]; done)))
    · refine aw_re (S' := [.int 1]) rfl ?_
      refine aw_if_ne (npc := 7) (tgt := 10) dX8_reads_4 rfl (by decide) (fun _ => ?_) (fun hc => absurd hc (by decide))
      refine aw_aload_n (npc := 11) rfl dX8_reads_10 rfl ?_
      refine aw_get (npc := 14) dX8_reads_11 rfl kf_X8_55 g69 rfl ?_
      refine aw_iload_n (npc := 15) rfl dX8_reads_14 rfl ?_
      refine aw_iald (npc := 16) (x := (-1)) (j := 2) dX8_reads_15 rfl g83 ⟨by decide, by decide⟩ rfl ?_
      refine aw_if_ge (npc := 19) (tgt := 22) dX8_reads_16 rfl (by decide) (fun hc => absurd hc (by decide)) (fun _ => ?_)
      refine aw_ldc (npc := 21) kc_X8_187 dX8_reads_19 rfl ?_
      refine aw_iret rfl dX8_reads_21 ?_
      exact fin_m hq (show sp_reads 2 = (-1000000011) from (by unfold sp_reads; first | rfl | (simp only [wif_t hw1, wif_same, ite_self]; done) | (simp only [wif_t hw1, wif_same, ite_self]; rfl) | (simp [wif_t hw1, wif_same]; done)))
    · refine aw_re (S' := [.int 1]) rfl ?_
      refine aw_if_ne (npc := 7) (tgt := 10) dX8_reads_4 rfl (by decide) (fun _ => ?_) (fun hc => absurd hc (by decide))
      refine aw_aload_n (npc := 11) rfl dX8_reads_10 rfl ?_
      refine aw_get (npc := 14) dX8_reads_11 rfl kf_X8_55 g69 rfl ?_
      refine aw_iload_n (npc := 15) rfl dX8_reads_14 rfl ?_
      refine aw_iald (npc := 16) (x := (-1)) (j := 3) dX8_reads_15 rfl g83 ⟨by decide, by decide⟩ rfl ?_
      refine aw_if_ge (npc := 19) (tgt := 22) dX8_reads_16 rfl (by decide) (fun hc => absurd hc (by decide)) (fun _ => ?_)
      refine aw_ldc (npc := 21) kc_X8_187 dX8_reads_19 rfl ?_
      refine aw_iret rfl dX8_reads_21 ?_
      exact fin_m hq (show sp_reads 3 = (-1000000011) from (by unfold sp_reads; first | rfl | (simp only [wif_t hw1, wif_same, ite_self]; done) | (simp only [wif_t hw1, wif_same, ite_self]; rfl) | (simp [wif_t hw1, wif_same]; done)))
  · refine aw_re (S' := [.int 0]) rfl ?_
    refine aw_if_ne (npc := 7) (tgt := 10) dX8_reads_4 rfl (by decide) (fun hc => absurd (by decide) hc) (fun _ => ?_)
    refine aw_ldc (npc := 9) kc_X8_91 dX8_reads_7 rfl ?_
    refine aw_iret rfl dX8_reads_9 ?_
    exact fin_m hq (show sp_reads s = (-1000000001) from (by unfold sp_reads; first | rfl | (simp only [wif_f hw1, wif_same, ite_self]; done) | (simp only [wif_f hw1, wif_same, ite_self]; rfl) | (simp [wif_f hw1, wif_same]; done)))
noncomputable def sp_copy (s : Int32) (q : Int32) (t : Int32) (r : Int32) (v : Int32) : Int32 := wif s 0 3 (wif t 0 3 ((-1000000011)) (-1000000001)) (-1000000001)
set_option maxHeartbeats 40000000 in
set_option maxRecDepth 100000 in
theorem p_X7_copy {X : List Int32} {d rc rs : Nat} {h : am_H} {Q : am_Q} {s : Int32} {q : Int32} {t : Int32} {r : Int32} {v : Int32} (F : f0_X7 h) (hq : ∀ h9, am_fr 69 h9 h → Q (some (.int (sp_copy s q t r v))) 92 h9) : AW X mX7_copy (d + 12) rc rs 0 [some (.ref 0), some (.int s), some (.int q), some (.int t), some (.int r), some (.int v), none, none] [] 92 h Q := by
  obtain ⟨f0, -, -, -, -, -, -, -, -, -, -, -, -, -, -, -, -, -, -, -, -, -, -, -, -, -, -, -, -, -, -, -, -, -, -, -, -, -, -, -, -, -, -, f43, -, -, f46, -, f48, -, f50, -, f52, -, -, -, -, -, -, -, -, -, -, -, -, -, -, -, -⟩ := F
  refine aw_iload_n (npc := 1) rfl dX7_copy_0 rfl ?_
  refine aw_callS (npc := 4) (N := mX7_isSheet) (mc := 0) (ms := 0) (A := [.int s]) (S := []) (L0 := [some (.int s)]) dX7_copy_1 rfl km_X7_isSheet kk_X7_204 rfl ⟨rfl, by decide⟩ rfl (Nat.le_of_ble_eq_true rfl) (Nat.zero_add _) (Nat.zero_add _) rfl ?_
  refine c_X7_isSheet (fun hw1 => ?_) (fun hw1 => ?_)
  · rcases wi_c0_3 hw1 with rfl | rfl | rfl | rfl
    · refine aw_re (S' := [.int 1]) rfl ?_
      refine aw_if_eq (npc := 7) (tgt := 14) dX7_copy_4 rfl (by decide) (fun hc => absurd hc (by decide)) (fun _ => ?_)
      refine aw_iload_n (npc := 8) rfl dX7_copy_7 rfl ?_
      refine aw_callS (npc := 11) (N := mX7_isSheet) (mc := 0) (ms := 0) (A := [.int t]) (S := []) (L0 := [some (.int t)]) dX7_copy_8 rfl km_X7_isSheet kk_X7_204 rfl ⟨rfl, by decide⟩ rfl (Nat.le_of_ble_eq_true rfl) (Nat.zero_add _) (Nat.zero_add _) rfl ?_
      refine c_X7_isSheet (fun hw2 => ?_) (fun hw2 => ?_)
      · rcases wi_c0_3 hw2 with rfl | rfl | rfl | rfl
        · refine aw_re (S' := [.int 1]) rfl ?_
          refine aw_if_ne (npc := 14) (tgt := 17) dX7_copy_11 rfl (by decide) (fun _ => ?_) (fun hc => absurd hc (by decide))
          refine aw_aload_n (npc := 18) rfl dX7_copy_17 rfl ?_
          refine aw_get (npc := 21) dX7_copy_18 rfl kf_X7_47 f0 rfl ?_
          refine aw_iload_n (npc := 22) rfl dX7_copy_21 rfl ?_
          refine aw_aald (npc := 23) (j := 0) dX7_copy_22 rfl (by decide) f43 ⟨by decide, by decide⟩ rfl ?_
          refine aw_astore (npc := 25) (L' := [some (.ref 0), some (.int 0), some (.int q), some (.int 0), some (.int r), some (.int v), some (.ref 46), none]) dX7_copy_23 rfl (by decide) rfl rfl ?_
          refine aw_aload_n (npc := 26) rfl dX7_copy_25 rfl ?_
          refine aw_get (npc := 29) dX7_copy_26 rfl kf_X7_47 f0 rfl ?_
          refine aw_iload_n (npc := 30) rfl dX7_copy_29 rfl ?_
          refine aw_aald (npc := 31) (j := 0) dX7_copy_30 rfl (by decide) f43 ⟨by decide, by decide⟩ rfl ?_
          refine aw_astore (npc := 33) (L' := [some (.ref 0), some (.int 0), some (.int q), some (.int 0), some (.int r), some (.int v), some (.ref 46), some (.ref 46)]) dX7_copy_31 rfl (by decide) rfl rfl ?_
          refine aw_aload (npc := 35) rfl dX7_copy_33 rfl ?_
          refine aw_callV (npc := 38) (N := mX2_isMissing) (b := 46) (mc := 0) (ms := 0) (A := []) (S := []) (L0 := [some (.ref 46)]) dX7_copy_35 rfl km_X2_isMissing kk_X7_207 f46 ⟨by decide, rfl⟩ rfl ⟨rfl, by decide⟩ rfl (Nat.le_of_ble_eq_true rfl) (Nat.zero_add _) (Nat.zero_add _) rfl ?_
          refine aw_aload_n (npc := 1) rfl dX2_isMissing_0 rfl ?_
          refine aw_get (npc := 4) dX2_isMissing_1 rfl kf_X2_9 f46 rfl ?_
          refine aw_iconst (npc := 5) (v := -1) (by decide) dX2_isMissing_4 rfl ?_
          refine aw_icmp_ne (npc := 8) (tgt := 12) dX2_isMissing_5 rfl (by decide) (fun hc => absurd (by decide) hc) (fun _ => ?_)
          refine aw_iconst (npc := 9) (v := 1) (by decide) dX2_isMissing_8 rfl ?_
          refine aw_goto (npc := 13) dX2_isMissing_9 (by decide) ?_
          refine aw_zret rfl rfl dX2_isMissing_13 ?_
          refine aw_re (S' := [.int 1]) rfl ?_
          refine aw_if_ne (npc := 41) (tgt := 49) dX7_copy_38 rfl (by decide) (fun _ => ?_) (fun hc => absurd hc (by decide))
          refine aw_ldc (npc := 51) kc_X7_210 dX7_copy_49 rfl ?_
          refine aw_iret rfl dX7_copy_51 ?_
          exact fin_c hq am_fr0 (show sp_copy 0 q 0 r v = (-1000000011) from (by unfold sp_copy; first | rfl | (simp only [wif_t hw1, wif_t hw2, wif_same, ite_self]; done) | (simp only [wif_t hw1, wif_t hw2, wif_same, ite_self]; rfl) | (simp [wif_t hw1, wif_t hw2, wif_same]; done)))
        · refine aw_re (S' := [.int 1]) rfl ?_
          refine aw_if_ne (npc := 14) (tgt := 17) dX7_copy_11 rfl (by decide) (fun _ => ?_) (fun hc => absurd hc (by decide))
          refine aw_aload_n (npc := 18) rfl dX7_copy_17 rfl ?_
          refine aw_get (npc := 21) dX7_copy_18 rfl kf_X7_47 f0 rfl ?_
          refine aw_iload_n (npc := 22) rfl dX7_copy_21 rfl ?_
          refine aw_aald (npc := 23) (j := 0) dX7_copy_22 rfl (by decide) f43 ⟨by decide, by decide⟩ rfl ?_
          refine aw_astore (npc := 25) (L' := [some (.ref 0), some (.int 0), some (.int q), some (.int 1), some (.int r), some (.int v), some (.ref 46), none]) dX7_copy_23 rfl (by decide) rfl rfl ?_
          refine aw_aload_n (npc := 26) rfl dX7_copy_25 rfl ?_
          refine aw_get (npc := 29) dX7_copy_26 rfl kf_X7_47 f0 rfl ?_
          refine aw_iload_n (npc := 30) rfl dX7_copy_29 rfl ?_
          refine aw_aald (npc := 31) (j := 1) dX7_copy_30 rfl (by decide) f43 ⟨by decide, by decide⟩ rfl ?_
          refine aw_astore (npc := 33) (L' := [some (.ref 0), some (.int 0), some (.int q), some (.int 1), some (.int r), some (.int v), some (.ref 46), some (.ref 48)]) dX7_copy_31 rfl (by decide) rfl rfl ?_
          refine aw_aload (npc := 35) rfl dX7_copy_33 rfl ?_
          refine aw_callV (npc := 38) (N := mX2_isMissing) (b := 46) (mc := 0) (ms := 0) (A := []) (S := []) (L0 := [some (.ref 46)]) dX7_copy_35 rfl km_X2_isMissing kk_X7_207 f46 ⟨by decide, rfl⟩ rfl ⟨rfl, by decide⟩ rfl (Nat.le_of_ble_eq_true rfl) (Nat.zero_add _) (Nat.zero_add _) rfl ?_
          refine aw_aload_n (npc := 1) rfl dX2_isMissing_0 rfl ?_
          refine aw_get (npc := 4) dX2_isMissing_1 rfl kf_X2_9 f46 rfl ?_
          refine aw_iconst (npc := 5) (v := -1) (by decide) dX2_isMissing_4 rfl ?_
          refine aw_icmp_ne (npc := 8) (tgt := 12) dX2_isMissing_5 rfl (by decide) (fun hc => absurd (by decide) hc) (fun _ => ?_)
          refine aw_iconst (npc := 9) (v := 1) (by decide) dX2_isMissing_8 rfl ?_
          refine aw_goto (npc := 13) dX2_isMissing_9 (by decide) ?_
          refine aw_zret rfl rfl dX2_isMissing_13 ?_
          refine aw_re (S' := [.int 1]) rfl ?_
          refine aw_if_ne (npc := 41) (tgt := 49) dX7_copy_38 rfl (by decide) (fun _ => ?_) (fun hc => absurd hc (by decide))
          refine aw_ldc (npc := 51) kc_X7_210 dX7_copy_49 rfl ?_
          refine aw_iret rfl dX7_copy_51 ?_
          exact fin_c hq am_fr0 (show sp_copy 0 q 1 r v = (-1000000011) from (by unfold sp_copy; first | rfl | (simp only [wif_t hw1, wif_t hw2, wif_same, ite_self]; done) | (simp only [wif_t hw1, wif_t hw2, wif_same, ite_self]; rfl) | (simp [wif_t hw1, wif_t hw2, wif_same]; done)))
        · refine aw_re (S' := [.int 1]) rfl ?_
          refine aw_if_ne (npc := 14) (tgt := 17) dX7_copy_11 rfl (by decide) (fun _ => ?_) (fun hc => absurd hc (by decide))
          refine aw_aload_n (npc := 18) rfl dX7_copy_17 rfl ?_
          refine aw_get (npc := 21) dX7_copy_18 rfl kf_X7_47 f0 rfl ?_
          refine aw_iload_n (npc := 22) rfl dX7_copy_21 rfl ?_
          refine aw_aald (npc := 23) (j := 0) dX7_copy_22 rfl (by decide) f43 ⟨by decide, by decide⟩ rfl ?_
          refine aw_astore (npc := 25) (L' := [some (.ref 0), some (.int 0), some (.int q), some (.int 2), some (.int r), some (.int v), some (.ref 46), none]) dX7_copy_23 rfl (by decide) rfl rfl ?_
          refine aw_aload_n (npc := 26) rfl dX7_copy_25 rfl ?_
          refine aw_get (npc := 29) dX7_copy_26 rfl kf_X7_47 f0 rfl ?_
          refine aw_iload_n (npc := 30) rfl dX7_copy_29 rfl ?_
          refine aw_aald (npc := 31) (j := 2) dX7_copy_30 rfl (by decide) f43 ⟨by decide, by decide⟩ rfl ?_
          refine aw_astore (npc := 33) (L' := [some (.ref 0), some (.int 0), some (.int q), some (.int 2), some (.int r), some (.int v), some (.ref 46), some (.ref 50)]) dX7_copy_31 rfl (by decide) rfl rfl ?_
          refine aw_aload (npc := 35) rfl dX7_copy_33 rfl ?_
          refine aw_callV (npc := 38) (N := mX2_isMissing) (b := 46) (mc := 0) (ms := 0) (A := []) (S := []) (L0 := [some (.ref 46)]) dX7_copy_35 rfl km_X2_isMissing kk_X7_207 f46 ⟨by decide, rfl⟩ rfl ⟨rfl, by decide⟩ rfl (Nat.le_of_ble_eq_true rfl) (Nat.zero_add _) (Nat.zero_add _) rfl ?_
          refine aw_aload_n (npc := 1) rfl dX2_isMissing_0 rfl ?_
          refine aw_get (npc := 4) dX2_isMissing_1 rfl kf_X2_9 f46 rfl ?_
          refine aw_iconst (npc := 5) (v := -1) (by decide) dX2_isMissing_4 rfl ?_
          refine aw_icmp_ne (npc := 8) (tgt := 12) dX2_isMissing_5 rfl (by decide) (fun hc => absurd (by decide) hc) (fun _ => ?_)
          refine aw_iconst (npc := 9) (v := 1) (by decide) dX2_isMissing_8 rfl ?_
          refine aw_goto (npc := 13) dX2_isMissing_9 (by decide) ?_
          refine aw_zret rfl rfl dX2_isMissing_13 ?_
          refine aw_re (S' := [.int 1]) rfl ?_
          refine aw_if_ne (npc := 41) (tgt := 49) dX7_copy_38 rfl (by decide) (fun _ => ?_) (fun hc => absurd hc (by decide))
          refine aw_ldc (npc := 51) kc_X7_210 dX7_copy_49 rfl ?_
          refine aw_iret rfl dX7_copy_51 ?_
          exact fin_c hq am_fr0 (show sp_copy 0 q 2 r v = (-1000000011) from (by unfold sp_copy; first | rfl | (simp only [wif_t hw1, wif_t hw2, wif_same, ite_self]; done) | (simp only [wif_t hw1, wif_t hw2, wif_same, ite_self]; rfl) | (simp [wif_t hw1, wif_t hw2, wif_same]; done)))
        · refine aw_re (S' := [.int 1]) rfl ?_
          refine aw_if_ne (npc := 14) (tgt := 17) dX7_copy_11 rfl (by decide) (fun _ => ?_) (fun hc => absurd hc (by decide))
          refine aw_aload_n (npc := 18) rfl dX7_copy_17 rfl ?_
          refine aw_get (npc := 21) dX7_copy_18 rfl kf_X7_47 f0 rfl ?_
          refine aw_iload_n (npc := 22) rfl dX7_copy_21 rfl ?_
          refine aw_aald (npc := 23) (j := 0) dX7_copy_22 rfl (by decide) f43 ⟨by decide, by decide⟩ rfl ?_
          refine aw_astore (npc := 25) (L' := [some (.ref 0), some (.int 0), some (.int q), some (.int 3), some (.int r), some (.int v), some (.ref 46), none]) dX7_copy_23 rfl (by decide) rfl rfl ?_
          refine aw_aload_n (npc := 26) rfl dX7_copy_25 rfl ?_
          refine aw_get (npc := 29) dX7_copy_26 rfl kf_X7_47 f0 rfl ?_
          refine aw_iload_n (npc := 30) rfl dX7_copy_29 rfl ?_
          refine aw_aald (npc := 31) (j := 3) dX7_copy_30 rfl (by decide) f43 ⟨by decide, by decide⟩ rfl ?_
          refine aw_astore (npc := 33) (L' := [some (.ref 0), some (.int 0), some (.int q), some (.int 3), some (.int r), some (.int v), some (.ref 46), some (.ref 52)]) dX7_copy_31 rfl (by decide) rfl rfl ?_
          refine aw_aload (npc := 35) rfl dX7_copy_33 rfl ?_
          refine aw_callV (npc := 38) (N := mX2_isMissing) (b := 46) (mc := 0) (ms := 0) (A := []) (S := []) (L0 := [some (.ref 46)]) dX7_copy_35 rfl km_X2_isMissing kk_X7_207 f46 ⟨by decide, rfl⟩ rfl ⟨rfl, by decide⟩ rfl (Nat.le_of_ble_eq_true rfl) (Nat.zero_add _) (Nat.zero_add _) rfl ?_
          refine aw_aload_n (npc := 1) rfl dX2_isMissing_0 rfl ?_
          refine aw_get (npc := 4) dX2_isMissing_1 rfl kf_X2_9 f46 rfl ?_
          refine aw_iconst (npc := 5) (v := -1) (by decide) dX2_isMissing_4 rfl ?_
          refine aw_icmp_ne (npc := 8) (tgt := 12) dX2_isMissing_5 rfl (by decide) (fun hc => absurd (by decide) hc) (fun _ => ?_)
          refine aw_iconst (npc := 9) (v := 1) (by decide) dX2_isMissing_8 rfl ?_
          refine aw_goto (npc := 13) dX2_isMissing_9 (by decide) ?_
          refine aw_zret rfl rfl dX2_isMissing_13 ?_
          refine aw_re (S' := [.int 1]) rfl ?_
          refine aw_if_ne (npc := 41) (tgt := 49) dX7_copy_38 rfl (by decide) (fun _ => ?_) (fun hc => absurd hc (by decide))
          refine aw_ldc (npc := 51) kc_X7_210 dX7_copy_49 rfl ?_
          refine aw_iret rfl dX7_copy_51 ?_
          exact fin_c hq am_fr0 (show sp_copy 0 q 3 r v = (-1000000011) from (by unfold sp_copy; first | rfl | (simp only [wif_t hw1, wif_t hw2, wif_same, ite_self]; done) | (simp only [wif_t hw1, wif_t hw2, wif_same, ite_self]; rfl) | (simp [wif_t hw1, wif_t hw2, wif_same]; done)))
      · refine aw_re (S' := [.int 0]) rfl ?_
        refine aw_if_ne (npc := 14) (tgt := 17) dX7_copy_11 rfl (by decide) (fun hc => absurd (by decide) hc) (fun _ => ?_)
        refine aw_ldc (npc := 16) kc_X7_78 dX7_copy_14 rfl ?_
        refine aw_iret rfl dX7_copy_16 ?_
        exact fin_c hq am_fr0 (show sp_copy 0 q t r v = (-1000000001) from (by unfold sp_copy; first | rfl | (simp only [wif_t hw1, wif_f hw2, wif_same, ite_self]; done) | (simp only [wif_t hw1, wif_f hw2, wif_same, ite_self]; rfl) | (simp [wif_t hw1, wif_f hw2, wif_same]; done)))
    · refine aw_re (S' := [.int 1]) rfl ?_
      refine aw_if_eq (npc := 7) (tgt := 14) dX7_copy_4 rfl (by decide) (fun hc => absurd hc (by decide)) (fun _ => ?_)
      refine aw_iload_n (npc := 8) rfl dX7_copy_7 rfl ?_
      refine aw_callS (npc := 11) (N := mX7_isSheet) (mc := 0) (ms := 0) (A := [.int t]) (S := []) (L0 := [some (.int t)]) dX7_copy_8 rfl km_X7_isSheet kk_X7_204 rfl ⟨rfl, by decide⟩ rfl (Nat.le_of_ble_eq_true rfl) (Nat.zero_add _) (Nat.zero_add _) rfl ?_
      refine c_X7_isSheet (fun hw3 => ?_) (fun hw3 => ?_)
      · rcases wi_c0_3 hw3 with rfl | rfl | rfl | rfl
        · refine aw_re (S' := [.int 1]) rfl ?_
          refine aw_if_ne (npc := 14) (tgt := 17) dX7_copy_11 rfl (by decide) (fun _ => ?_) (fun hc => absurd hc (by decide))
          refine aw_aload_n (npc := 18) rfl dX7_copy_17 rfl ?_
          refine aw_get (npc := 21) dX7_copy_18 rfl kf_X7_47 f0 rfl ?_
          refine aw_iload_n (npc := 22) rfl dX7_copy_21 rfl ?_
          refine aw_aald (npc := 23) (j := 1) dX7_copy_22 rfl (by decide) f43 ⟨by decide, by decide⟩ rfl ?_
          refine aw_astore (npc := 25) (L' := [some (.ref 0), some (.int 1), some (.int q), some (.int 0), some (.int r), some (.int v), some (.ref 48), none]) dX7_copy_23 rfl (by decide) rfl rfl ?_
          refine aw_aload_n (npc := 26) rfl dX7_copy_25 rfl ?_
          refine aw_get (npc := 29) dX7_copy_26 rfl kf_X7_47 f0 rfl ?_
          refine aw_iload_n (npc := 30) rfl dX7_copy_29 rfl ?_
          refine aw_aald (npc := 31) (j := 0) dX7_copy_30 rfl (by decide) f43 ⟨by decide, by decide⟩ rfl ?_
          refine aw_astore (npc := 33) (L' := [some (.ref 0), some (.int 1), some (.int q), some (.int 0), some (.int r), some (.int v), some (.ref 48), some (.ref 46)]) dX7_copy_31 rfl (by decide) rfl rfl ?_
          refine aw_aload (npc := 35) rfl dX7_copy_33 rfl ?_
          refine aw_callV (npc := 38) (N := mX2_isMissing) (b := 48) (mc := 0) (ms := 0) (A := []) (S := []) (L0 := [some (.ref 48)]) dX7_copy_35 rfl km_X2_isMissing kk_X7_207 f48 ⟨by decide, rfl⟩ rfl ⟨rfl, by decide⟩ rfl (Nat.le_of_ble_eq_true rfl) (Nat.zero_add _) (Nat.zero_add _) rfl ?_
          refine aw_aload_n (npc := 1) rfl dX2_isMissing_0 rfl ?_
          refine aw_get (npc := 4) dX2_isMissing_1 rfl kf_X2_9 f48 rfl ?_
          refine aw_iconst (npc := 5) (v := -1) (by decide) dX2_isMissing_4 rfl ?_
          refine aw_icmp_ne (npc := 8) (tgt := 12) dX2_isMissing_5 rfl (by decide) (fun hc => absurd (by decide) hc) (fun _ => ?_)
          refine aw_iconst (npc := 9) (v := 1) (by decide) dX2_isMissing_8 rfl ?_
          refine aw_goto (npc := 13) dX2_isMissing_9 (by decide) ?_
          refine aw_zret rfl rfl dX2_isMissing_13 ?_
          refine aw_re (S' := [.int 1]) rfl ?_
          refine aw_if_ne (npc := 41) (tgt := 49) dX7_copy_38 rfl (by decide) (fun _ => ?_) (fun hc => absurd hc (by decide))
          refine aw_ldc (npc := 51) kc_X7_210 dX7_copy_49 rfl ?_
          refine aw_iret rfl dX7_copy_51 ?_
          exact fin_c hq am_fr0 (show sp_copy 1 q 0 r v = (-1000000011) from (by unfold sp_copy; first | rfl | (simp only [wif_t hw1, wif_t hw3, wif_same, ite_self]; done) | (simp only [wif_t hw1, wif_t hw3, wif_same, ite_self]; rfl) | (simp [wif_t hw1, wif_t hw3, wif_same]; done)))
        · refine aw_re (S' := [.int 1]) rfl ?_
          refine aw_if_ne (npc := 14) (tgt := 17) dX7_copy_11 rfl (by decide) (fun _ => ?_) (fun hc => absurd hc (by decide))
          refine aw_aload_n (npc := 18) rfl dX7_copy_17 rfl ?_
          refine aw_get (npc := 21) dX7_copy_18 rfl kf_X7_47 f0 rfl ?_
          refine aw_iload_n (npc := 22) rfl dX7_copy_21 rfl ?_
          refine aw_aald (npc := 23) (j := 1) dX7_copy_22 rfl (by decide) f43 ⟨by decide, by decide⟩ rfl ?_
          refine aw_astore (npc := 25) (L' := [some (.ref 0), some (.int 1), some (.int q), some (.int 1), some (.int r), some (.int v), some (.ref 48), none]) dX7_copy_23 rfl (by decide) rfl rfl ?_
          refine aw_aload_n (npc := 26) rfl dX7_copy_25 rfl ?_
          refine aw_get (npc := 29) dX7_copy_26 rfl kf_X7_47 f0 rfl ?_
          refine aw_iload_n (npc := 30) rfl dX7_copy_29 rfl ?_
          refine aw_aald (npc := 31) (j := 1) dX7_copy_30 rfl (by decide) f43 ⟨by decide, by decide⟩ rfl ?_
          refine aw_astore (npc := 33) (L' := [some (.ref 0), some (.int 1), some (.int q), some (.int 1), some (.int r), some (.int v), some (.ref 48), some (.ref 48)]) dX7_copy_31 rfl (by decide) rfl rfl ?_
          refine aw_aload (npc := 35) rfl dX7_copy_33 rfl ?_
          refine aw_callV (npc := 38) (N := mX2_isMissing) (b := 48) (mc := 0) (ms := 0) (A := []) (S := []) (L0 := [some (.ref 48)]) dX7_copy_35 rfl km_X2_isMissing kk_X7_207 f48 ⟨by decide, rfl⟩ rfl ⟨rfl, by decide⟩ rfl (Nat.le_of_ble_eq_true rfl) (Nat.zero_add _) (Nat.zero_add _) rfl ?_
          refine aw_aload_n (npc := 1) rfl dX2_isMissing_0 rfl ?_
          refine aw_get (npc := 4) dX2_isMissing_1 rfl kf_X2_9 f48 rfl ?_
          refine aw_iconst (npc := 5) (v := -1) (by decide) dX2_isMissing_4 rfl ?_
          refine aw_icmp_ne (npc := 8) (tgt := 12) dX2_isMissing_5 rfl (by decide) (fun hc => absurd (by decide) hc) (fun _ => ?_)
          refine aw_iconst (npc := 9) (v := 1) (by decide) dX2_isMissing_8 rfl ?_
          refine aw_goto (npc := 13) dX2_isMissing_9 (by decide) ?_
          refine aw_zret rfl rfl dX2_isMissing_13 ?_
          refine aw_re (S' := [.int 1]) rfl ?_
          refine aw_if_ne (npc := 41) (tgt := 49) dX7_copy_38 rfl (by decide) (fun _ => ?_) (fun hc => absurd hc (by decide))
          refine aw_ldc (npc := 51) kc_X7_210 dX7_copy_49 rfl ?_
          refine aw_iret rfl dX7_copy_51 ?_
          exact fin_c hq am_fr0 (show sp_copy 1 q 1 r v = (-1000000011) from (by unfold sp_copy; first | rfl | (simp only [wif_t hw1, wif_t hw3, wif_same, ite_self]; done) | (simp only [wif_t hw1, wif_t hw3, wif_same, ite_self]; rfl) | (simp [wif_t hw1, wif_t hw3, wif_same]; done)))
        · refine aw_re (S' := [.int 1]) rfl ?_
          refine aw_if_ne (npc := 14) (tgt := 17) dX7_copy_11 rfl (by decide) (fun _ => ?_) (fun hc => absurd hc (by decide))
          refine aw_aload_n (npc := 18) rfl dX7_copy_17 rfl ?_
          refine aw_get (npc := 21) dX7_copy_18 rfl kf_X7_47 f0 rfl ?_
          refine aw_iload_n (npc := 22) rfl dX7_copy_21 rfl ?_
          refine aw_aald (npc := 23) (j := 1) dX7_copy_22 rfl (by decide) f43 ⟨by decide, by decide⟩ rfl ?_
          refine aw_astore (npc := 25) (L' := [some (.ref 0), some (.int 1), some (.int q), some (.int 2), some (.int r), some (.int v), some (.ref 48), none]) dX7_copy_23 rfl (by decide) rfl rfl ?_
          refine aw_aload_n (npc := 26) rfl dX7_copy_25 rfl ?_
          refine aw_get (npc := 29) dX7_copy_26 rfl kf_X7_47 f0 rfl ?_
          refine aw_iload_n (npc := 30) rfl dX7_copy_29 rfl ?_
          refine aw_aald (npc := 31) (j := 2) dX7_copy_30 rfl (by decide) f43 ⟨by decide, by decide⟩ rfl ?_
          refine aw_astore (npc := 33) (L' := [some (.ref 0), some (.int 1), some (.int q), some (.int 2), some (.int r), some (.int v), some (.ref 48), some (.ref 50)]) dX7_copy_31 rfl (by decide) rfl rfl ?_
          refine aw_aload (npc := 35) rfl dX7_copy_33 rfl ?_
          refine aw_callV (npc := 38) (N := mX2_isMissing) (b := 48) (mc := 0) (ms := 0) (A := []) (S := []) (L0 := [some (.ref 48)]) dX7_copy_35 rfl km_X2_isMissing kk_X7_207 f48 ⟨by decide, rfl⟩ rfl ⟨rfl, by decide⟩ rfl (Nat.le_of_ble_eq_true rfl) (Nat.zero_add _) (Nat.zero_add _) rfl ?_
          refine aw_aload_n (npc := 1) rfl dX2_isMissing_0 rfl ?_
          refine aw_get (npc := 4) dX2_isMissing_1 rfl kf_X2_9 f48 rfl ?_
          refine aw_iconst (npc := 5) (v := -1) (by decide) dX2_isMissing_4 rfl ?_
          refine aw_icmp_ne (npc := 8) (tgt := 12) dX2_isMissing_5 rfl (by decide) (fun hc => absurd (by decide) hc) (fun _ => ?_)
          refine aw_iconst (npc := 9) (v := 1) (by decide) dX2_isMissing_8 rfl ?_
          refine aw_goto (npc := 13) dX2_isMissing_9 (by decide) ?_
          refine aw_zret rfl rfl dX2_isMissing_13 ?_
          refine aw_re (S' := [.int 1]) rfl ?_
          refine aw_if_ne (npc := 41) (tgt := 49) dX7_copy_38 rfl (by decide) (fun _ => ?_) (fun hc => absurd hc (by decide))
          refine aw_ldc (npc := 51) kc_X7_210 dX7_copy_49 rfl ?_
          refine aw_iret rfl dX7_copy_51 ?_
          exact fin_c hq am_fr0 (show sp_copy 1 q 2 r v = (-1000000011) from (by unfold sp_copy; first | rfl | (simp only [wif_t hw1, wif_t hw3, wif_same, ite_self]; done) | (simp only [wif_t hw1, wif_t hw3, wif_same, ite_self]; rfl) | (simp [wif_t hw1, wif_t hw3, wif_same]; done)))
        · refine aw_re (S' := [.int 1]) rfl ?_
          refine aw_if_ne (npc := 14) (tgt := 17) dX7_copy_11 rfl (by decide) (fun _ => ?_) (fun hc => absurd hc (by decide))
          refine aw_aload_n (npc := 18) rfl dX7_copy_17 rfl ?_
          refine aw_get (npc := 21) dX7_copy_18 rfl kf_X7_47 f0 rfl ?_
          refine aw_iload_n (npc := 22) rfl dX7_copy_21 rfl ?_
          refine aw_aald (npc := 23) (j := 1) dX7_copy_22 rfl (by decide) f43 ⟨by decide, by decide⟩ rfl ?_
          refine aw_astore (npc := 25) (L' := [some (.ref 0), some (.int 1), some (.int q), some (.int 3), some (.int r), some (.int v), some (.ref 48), none]) dX7_copy_23 rfl (by decide) rfl rfl ?_
          refine aw_aload_n (npc := 26) rfl dX7_copy_25 rfl ?_
          refine aw_get (npc := 29) dX7_copy_26 rfl kf_X7_47 f0 rfl ?_
          refine aw_iload_n (npc := 30) rfl dX7_copy_29 rfl ?_
          refine aw_aald (npc := 31) (j := 3) dX7_copy_30 rfl (by decide) f43 ⟨by decide, by decide⟩ rfl ?_
          refine aw_astore (npc := 33) (L' := [some (.ref 0), some (.int 1), some (.int q), some (.int 3), some (.int r), some (.int v), some (.ref 48), some (.ref 52)]) dX7_copy_31 rfl (by decide) rfl rfl ?_
          refine aw_aload (npc := 35) rfl dX7_copy_33 rfl ?_
          refine aw_callV (npc := 38) (N := mX2_isMissing) (b := 48) (mc := 0) (ms := 0) (A := []) (S := []) (L0 := [some (.ref 48)]) dX7_copy_35 rfl km_X2_isMissing kk_X7_207 f48 ⟨by decide, rfl⟩ rfl ⟨rfl, by decide⟩ rfl (Nat.le_of_ble_eq_true rfl) (Nat.zero_add _) (Nat.zero_add _) rfl ?_
          refine aw_aload_n (npc := 1) rfl dX2_isMissing_0 rfl ?_
          refine aw_get (npc := 4) dX2_isMissing_1 rfl kf_X2_9 f48 rfl ?_
          refine aw_iconst (npc := 5) (v := -1) (by decide) dX2_isMissing_4 rfl ?_
          refine aw_icmp_ne (npc := 8) (tgt := 12) dX2_isMissing_5 rfl (by decide) (fun hc => absurd (by decide) hc) (fun _ => ?_)
          refine aw_iconst (npc := 9) (v := 1) (by decide) dX2_isMissing_8 rfl ?_
          refine aw_goto (npc := 13) dX2_isMissing_9 (by decide) ?_
          refine aw_zret rfl rfl dX2_isMissing_13 ?_
          refine aw_re (S' := [.int 1]) rfl ?_
          refine aw_if_ne (npc := 41) (tgt := 49) dX7_copy_38 rfl (by decide) (fun _ => ?_) (fun hc => absurd hc (by decide))
          refine aw_ldc (npc := 51) kc_X7_210 dX7_copy_49 rfl ?_
          refine aw_iret rfl dX7_copy_51 ?_
          exact fin_c hq am_fr0 (show sp_copy 1 q 3 r v = (-1000000011) from (by unfold sp_copy; first | rfl | (simp only [wif_t hw1, wif_t hw3, wif_same, ite_self]; done) | (simp only [wif_t hw1, wif_t hw3, wif_same, ite_self]; rfl) | (simp [wif_t hw1, wif_t hw3, wif_same]; done)))
      · refine aw_re (S' := [.int 0]) rfl ?_
        refine aw_if_ne (npc := 14) (tgt := 17) dX7_copy_11 rfl (by decide) (fun hc => absurd (by decide) hc) (fun _ => ?_)
        refine aw_ldc (npc := 16) kc_X7_78 dX7_copy_14 rfl ?_
        refine aw_iret rfl dX7_copy_16 ?_
        exact fin_c hq am_fr0 (show sp_copy 1 q t r v = (-1000000001) from (by unfold sp_copy; first | rfl | (simp only [wif_t hw1, wif_f hw3, wif_same, ite_self]; done) | (simp only [wif_t hw1, wif_f hw3, wif_same, ite_self]; rfl) | (simp [wif_t hw1, wif_f hw3, wif_same]; done)))
    · refine aw_re (S' := [.int 1]) rfl ?_
      refine aw_if_eq (npc := 7) (tgt := 14) dX7_copy_4 rfl (by decide) (fun hc => absurd hc (by decide)) (fun _ => ?_)
      refine aw_iload_n (npc := 8) rfl dX7_copy_7 rfl ?_
      refine aw_callS (npc := 11) (N := mX7_isSheet) (mc := 0) (ms := 0) (A := [.int t]) (S := []) (L0 := [some (.int t)]) dX7_copy_8 rfl km_X7_isSheet kk_X7_204 rfl ⟨rfl, by decide⟩ rfl (Nat.le_of_ble_eq_true rfl) (Nat.zero_add _) (Nat.zero_add _) rfl ?_
      refine c_X7_isSheet (fun hw4 => ?_) (fun hw4 => ?_)
      · rcases wi_c0_3 hw4 with rfl | rfl | rfl | rfl
        · refine aw_re (S' := [.int 1]) rfl ?_
          refine aw_if_ne (npc := 14) (tgt := 17) dX7_copy_11 rfl (by decide) (fun _ => ?_) (fun hc => absurd hc (by decide))
          refine aw_aload_n (npc := 18) rfl dX7_copy_17 rfl ?_
          refine aw_get (npc := 21) dX7_copy_18 rfl kf_X7_47 f0 rfl ?_
          refine aw_iload_n (npc := 22) rfl dX7_copy_21 rfl ?_
          refine aw_aald (npc := 23) (j := 2) dX7_copy_22 rfl (by decide) f43 ⟨by decide, by decide⟩ rfl ?_
          refine aw_astore (npc := 25) (L' := [some (.ref 0), some (.int 2), some (.int q), some (.int 0), some (.int r), some (.int v), some (.ref 50), none]) dX7_copy_23 rfl (by decide) rfl rfl ?_
          refine aw_aload_n (npc := 26) rfl dX7_copy_25 rfl ?_
          refine aw_get (npc := 29) dX7_copy_26 rfl kf_X7_47 f0 rfl ?_
          refine aw_iload_n (npc := 30) rfl dX7_copy_29 rfl ?_
          refine aw_aald (npc := 31) (j := 0) dX7_copy_30 rfl (by decide) f43 ⟨by decide, by decide⟩ rfl ?_
          refine aw_astore (npc := 33) (L' := [some (.ref 0), some (.int 2), some (.int q), some (.int 0), some (.int r), some (.int v), some (.ref 50), some (.ref 46)]) dX7_copy_31 rfl (by decide) rfl rfl ?_
          refine aw_aload (npc := 35) rfl dX7_copy_33 rfl ?_
          refine aw_callV (npc := 38) (N := mX2_isMissing) (b := 50) (mc := 0) (ms := 0) (A := []) (S := []) (L0 := [some (.ref 50)]) dX7_copy_35 rfl km_X2_isMissing kk_X7_207 f50 ⟨by decide, rfl⟩ rfl ⟨rfl, by decide⟩ rfl (Nat.le_of_ble_eq_true rfl) (Nat.zero_add _) (Nat.zero_add _) rfl ?_
          refine aw_aload_n (npc := 1) rfl dX2_isMissing_0 rfl ?_
          refine aw_get (npc := 4) dX2_isMissing_1 rfl kf_X2_9 f50 rfl ?_
          refine aw_iconst (npc := 5) (v := -1) (by decide) dX2_isMissing_4 rfl ?_
          refine aw_icmp_ne (npc := 8) (tgt := 12) dX2_isMissing_5 rfl (by decide) (fun hc => absurd (by decide) hc) (fun _ => ?_)
          refine aw_iconst (npc := 9) (v := 1) (by decide) dX2_isMissing_8 rfl ?_
          refine aw_goto (npc := 13) dX2_isMissing_9 (by decide) ?_
          refine aw_zret rfl rfl dX2_isMissing_13 ?_
          refine aw_re (S' := [.int 1]) rfl ?_
          refine aw_if_ne (npc := 41) (tgt := 49) dX7_copy_38 rfl (by decide) (fun _ => ?_) (fun hc => absurd hc (by decide))
          refine aw_ldc (npc := 51) kc_X7_210 dX7_copy_49 rfl ?_
          refine aw_iret rfl dX7_copy_51 ?_
          exact fin_c hq am_fr0 (show sp_copy 2 q 0 r v = (-1000000011) from (by unfold sp_copy; first | rfl | (simp only [wif_t hw1, wif_t hw4, wif_same, ite_self]; done) | (simp only [wif_t hw1, wif_t hw4, wif_same, ite_self]; rfl) | (simp [wif_t hw1, wif_t hw4, wif_same]; done)))
        · refine aw_re (S' := [.int 1]) rfl ?_
          refine aw_if_ne (npc := 14) (tgt := 17) dX7_copy_11 rfl (by decide) (fun _ => ?_) (fun hc => absurd hc (by decide))
          refine aw_aload_n (npc := 18) rfl dX7_copy_17 rfl ?_
          refine aw_get (npc := 21) dX7_copy_18 rfl kf_X7_47 f0 rfl ?_
          refine aw_iload_n (npc := 22) rfl dX7_copy_21 rfl ?_
          refine aw_aald (npc := 23) (j := 2) dX7_copy_22 rfl (by decide) f43 ⟨by decide, by decide⟩ rfl ?_
          refine aw_astore (npc := 25) (L' := [some (.ref 0), some (.int 2), some (.int q), some (.int 1), some (.int r), some (.int v), some (.ref 50), none]) dX7_copy_23 rfl (by decide) rfl rfl ?_
          refine aw_aload_n (npc := 26) rfl dX7_copy_25 rfl ?_
          refine aw_get (npc := 29) dX7_copy_26 rfl kf_X7_47 f0 rfl ?_
          refine aw_iload_n (npc := 30) rfl dX7_copy_29 rfl ?_
          refine aw_aald (npc := 31) (j := 1) dX7_copy_30 rfl (by decide) f43 ⟨by decide, by decide⟩ rfl ?_
          refine aw_astore (npc := 33) (L' := [some (.ref 0), some (.int 2), some (.int q), some (.int 1), some (.int r), some (.int v), some (.ref 50), some (.ref 48)]) dX7_copy_31 rfl (by decide) rfl rfl ?_
          refine aw_aload (npc := 35) rfl dX7_copy_33 rfl ?_
          refine aw_callV (npc := 38) (N := mX2_isMissing) (b := 50) (mc := 0) (ms := 0) (A := []) (S := []) (L0 := [some (.ref 50)]) dX7_copy_35 rfl km_X2_isMissing kk_X7_207 f50 ⟨by decide, rfl⟩ rfl ⟨rfl, by decide⟩ rfl (Nat.le_of_ble_eq_true rfl) (Nat.zero_add _) (Nat.zero_add _) rfl ?_
          refine aw_aload_n (npc := 1) rfl dX2_isMissing_0 rfl ?_
          refine aw_get (npc := 4) dX2_isMissing_1 rfl kf_X2_9 f50 rfl ?_
          refine aw_iconst (npc := 5) (v := -1) (by decide) dX2_isMissing_4 rfl ?_
          refine aw_icmp_ne (npc := 8) (tgt := 12) dX2_isMissing_5 rfl (by decide) (fun hc => absurd (by decide) hc) (fun _ => ?_)
          refine aw_iconst (npc := 9) (v := 1) (by decide) dX2_isMissing_8 rfl ?_
          refine aw_goto (npc := 13) dX2_isMissing_9 (by decide) ?_
          refine aw_zret rfl rfl dX2_isMissing_13 ?_
          refine aw_re (S' := [.int 1]) rfl ?_
          refine aw_if_ne (npc := 41) (tgt := 49) dX7_copy_38 rfl (by decide) (fun _ => ?_) (fun hc => absurd hc (by decide))
          refine aw_ldc (npc := 51) kc_X7_210 dX7_copy_49 rfl ?_
          refine aw_iret rfl dX7_copy_51 ?_
          exact fin_c hq am_fr0 (show sp_copy 2 q 1 r v = (-1000000011) from (by unfold sp_copy; first | rfl | (simp only [wif_t hw1, wif_t hw4, wif_same, ite_self]; done) | (simp only [wif_t hw1, wif_t hw4, wif_same, ite_self]; rfl) | (simp [wif_t hw1, wif_t hw4, wif_same]; done)))
        · refine aw_re (S' := [.int 1]) rfl ?_
          refine aw_if_ne (npc := 14) (tgt := 17) dX7_copy_11 rfl (by decide) (fun _ => ?_) (fun hc => absurd hc (by decide))
          refine aw_aload_n (npc := 18) rfl dX7_copy_17 rfl ?_
          refine aw_get (npc := 21) dX7_copy_18 rfl kf_X7_47 f0 rfl ?_
          refine aw_iload_n (npc := 22) rfl dX7_copy_21 rfl ?_
          refine aw_aald (npc := 23) (j := 2) dX7_copy_22 rfl (by decide) f43 ⟨by decide, by decide⟩ rfl ?_
          refine aw_astore (npc := 25) (L' := [some (.ref 0), some (.int 2), some (.int q), some (.int 2), some (.int r), some (.int v), some (.ref 50), none]) dX7_copy_23 rfl (by decide) rfl rfl ?_
          refine aw_aload_n (npc := 26) rfl dX7_copy_25 rfl ?_
          refine aw_get (npc := 29) dX7_copy_26 rfl kf_X7_47 f0 rfl ?_
          refine aw_iload_n (npc := 30) rfl dX7_copy_29 rfl ?_
          refine aw_aald (npc := 31) (j := 2) dX7_copy_30 rfl (by decide) f43 ⟨by decide, by decide⟩ rfl ?_
          refine aw_astore (npc := 33) (L' := [some (.ref 0), some (.int 2), some (.int q), some (.int 2), some (.int r), some (.int v), some (.ref 50), some (.ref 50)]) dX7_copy_31 rfl (by decide) rfl rfl ?_
          refine aw_aload (npc := 35) rfl dX7_copy_33 rfl ?_
          refine aw_callV (npc := 38) (N := mX2_isMissing) (b := 50) (mc := 0) (ms := 0) (A := []) (S := []) (L0 := [some (.ref 50)]) dX7_copy_35 rfl km_X2_isMissing kk_X7_207 f50 ⟨by decide, rfl⟩ rfl ⟨rfl, by decide⟩ rfl (Nat.le_of_ble_eq_true rfl) (Nat.zero_add _) (Nat.zero_add _) rfl ?_
          refine aw_aload_n (npc := 1) rfl dX2_isMissing_0 rfl ?_
          refine aw_get (npc := 4) dX2_isMissing_1 rfl kf_X2_9 f50 rfl ?_
          refine aw_iconst (npc := 5) (v := -1) (by decide) dX2_isMissing_4 rfl ?_
          refine aw_icmp_ne (npc := 8) (tgt := 12) dX2_isMissing_5 rfl (by decide) (fun hc => absurd (by decide) hc) (fun _ => ?_)
          refine aw_iconst (npc := 9) (v := 1) (by decide) dX2_isMissing_8 rfl ?_
          refine aw_goto (npc := 13) dX2_isMissing_9 (by decide) ?_
          refine aw_zret rfl rfl dX2_isMissing_13 ?_
          refine aw_re (S' := [.int 1]) rfl ?_
          refine aw_if_ne (npc := 41) (tgt := 49) dX7_copy_38 rfl (by decide) (fun _ => ?_) (fun hc => absurd hc (by decide))
          refine aw_ldc (npc := 51) kc_X7_210 dX7_copy_49 rfl ?_
          refine aw_iret rfl dX7_copy_51 ?_
          exact fin_c hq am_fr0 (show sp_copy 2 q 2 r v = (-1000000011) from (by unfold sp_copy; first | rfl | (simp only [wif_t hw1, wif_t hw4, wif_same, ite_self]; done) | (simp only [wif_t hw1, wif_t hw4, wif_same, ite_self]; rfl) | (simp [wif_t hw1, wif_t hw4, wif_same]; done)))
        · refine aw_re (S' := [.int 1]) rfl ?_
          refine aw_if_ne (npc := 14) (tgt := 17) dX7_copy_11 rfl (by decide) (fun _ => ?_) (fun hc => absurd hc (by decide))
          refine aw_aload_n (npc := 18) rfl dX7_copy_17 rfl ?_
          refine aw_get (npc := 21) dX7_copy_18 rfl kf_X7_47 f0 rfl ?_
          refine aw_iload_n (npc := 22) rfl dX7_copy_21 rfl ?_
          refine aw_aald (npc := 23) (j := 2) dX7_copy_22 rfl (by decide) f43 ⟨by decide, by decide⟩ rfl ?_
          refine aw_astore (npc := 25) (L' := [some (.ref 0), some (.int 2), some (.int q), some (.int 3), some (.int r), some (.int v), some (.ref 50), none]) dX7_copy_23 rfl (by decide) rfl rfl ?_
          refine aw_aload_n (npc := 26) rfl dX7_copy_25 rfl ?_
          refine aw_get (npc := 29) dX7_copy_26 rfl kf_X7_47 f0 rfl ?_
          refine aw_iload_n (npc := 30) rfl dX7_copy_29 rfl ?_
          refine aw_aald (npc := 31) (j := 3) dX7_copy_30 rfl (by decide) f43 ⟨by decide, by decide⟩ rfl ?_
          refine aw_astore (npc := 33) (L' := [some (.ref 0), some (.int 2), some (.int q), some (.int 3), some (.int r), some (.int v), some (.ref 50), some (.ref 52)]) dX7_copy_31 rfl (by decide) rfl rfl ?_
          refine aw_aload (npc := 35) rfl dX7_copy_33 rfl ?_
          refine aw_callV (npc := 38) (N := mX2_isMissing) (b := 50) (mc := 0) (ms := 0) (A := []) (S := []) (L0 := [some (.ref 50)]) dX7_copy_35 rfl km_X2_isMissing kk_X7_207 f50 ⟨by decide, rfl⟩ rfl ⟨rfl, by decide⟩ rfl (Nat.le_of_ble_eq_true rfl) (Nat.zero_add _) (Nat.zero_add _) rfl ?_
          refine aw_aload_n (npc := 1) rfl dX2_isMissing_0 rfl ?_
          refine aw_get (npc := 4) dX2_isMissing_1 rfl kf_X2_9 f50 rfl ?_
          refine aw_iconst (npc := 5) (v := -1) (by decide) dX2_isMissing_4 rfl ?_
          refine aw_icmp_ne (npc := 8) (tgt := 12) dX2_isMissing_5 rfl (by decide) (fun hc => absurd (by decide) hc) (fun _ => ?_)
          refine aw_iconst (npc := 9) (v := 1) (by decide) dX2_isMissing_8 rfl ?_
          refine aw_goto (npc := 13) dX2_isMissing_9 (by decide) ?_
          refine aw_zret rfl rfl dX2_isMissing_13 ?_
          refine aw_re (S' := [.int 1]) rfl ?_
          refine aw_if_ne (npc := 41) (tgt := 49) dX7_copy_38 rfl (by decide) (fun _ => ?_) (fun hc => absurd hc (by decide))
          refine aw_ldc (npc := 51) kc_X7_210 dX7_copy_49 rfl ?_
          refine aw_iret rfl dX7_copy_51 ?_
          exact fin_c hq am_fr0 (show sp_copy 2 q 3 r v = (-1000000011) from (by unfold sp_copy; first | rfl | (simp only [wif_t hw1, wif_t hw4, wif_same, ite_self]; done) | (simp only [wif_t hw1, wif_t hw4, wif_same, ite_self]; rfl) | (simp [wif_t hw1, wif_t hw4, wif_same]; done)))
      · refine aw_re (S' := [.int 0]) rfl ?_
        refine aw_if_ne (npc := 14) (tgt := 17) dX7_copy_11 rfl (by decide) (fun hc => absurd (by decide) hc) (fun _ => ?_)
        refine aw_ldc (npc := 16) kc_X7_78 dX7_copy_14 rfl ?_
        refine aw_iret rfl dX7_copy_16 ?_
        exact fin_c hq am_fr0 (show sp_copy 2 q t r v = (-1000000001) from (by unfold sp_copy; first | rfl | (simp only [wif_t hw1, wif_f hw4, wif_same, ite_self]; done) | (simp only [wif_t hw1, wif_f hw4, wif_same, ite_self]; rfl) | (simp [wif_t hw1, wif_f hw4, wif_same]; done)))
    · refine aw_re (S' := [.int 1]) rfl ?_
      refine aw_if_eq (npc := 7) (tgt := 14) dX7_copy_4 rfl (by decide) (fun hc => absurd hc (by decide)) (fun _ => ?_)
      refine aw_iload_n (npc := 8) rfl dX7_copy_7 rfl ?_
      refine aw_callS (npc := 11) (N := mX7_isSheet) (mc := 0) (ms := 0) (A := [.int t]) (S := []) (L0 := [some (.int t)]) dX7_copy_8 rfl km_X7_isSheet kk_X7_204 rfl ⟨rfl, by decide⟩ rfl (Nat.le_of_ble_eq_true rfl) (Nat.zero_add _) (Nat.zero_add _) rfl ?_
      refine c_X7_isSheet (fun hw5 => ?_) (fun hw5 => ?_)
      · rcases wi_c0_3 hw5 with rfl | rfl | rfl | rfl
        · refine aw_re (S' := [.int 1]) rfl ?_
          refine aw_if_ne (npc := 14) (tgt := 17) dX7_copy_11 rfl (by decide) (fun _ => ?_) (fun hc => absurd hc (by decide))
          refine aw_aload_n (npc := 18) rfl dX7_copy_17 rfl ?_
          refine aw_get (npc := 21) dX7_copy_18 rfl kf_X7_47 f0 rfl ?_
          refine aw_iload_n (npc := 22) rfl dX7_copy_21 rfl ?_
          refine aw_aald (npc := 23) (j := 3) dX7_copy_22 rfl (by decide) f43 ⟨by decide, by decide⟩ rfl ?_
          refine aw_astore (npc := 25) (L' := [some (.ref 0), some (.int 3), some (.int q), some (.int 0), some (.int r), some (.int v), some (.ref 52), none]) dX7_copy_23 rfl (by decide) rfl rfl ?_
          refine aw_aload_n (npc := 26) rfl dX7_copy_25 rfl ?_
          refine aw_get (npc := 29) dX7_copy_26 rfl kf_X7_47 f0 rfl ?_
          refine aw_iload_n (npc := 30) rfl dX7_copy_29 rfl ?_
          refine aw_aald (npc := 31) (j := 0) dX7_copy_30 rfl (by decide) f43 ⟨by decide, by decide⟩ rfl ?_
          refine aw_astore (npc := 33) (L' := [some (.ref 0), some (.int 3), some (.int q), some (.int 0), some (.int r), some (.int v), some (.ref 52), some (.ref 46)]) dX7_copy_31 rfl (by decide) rfl rfl ?_
          refine aw_aload (npc := 35) rfl dX7_copy_33 rfl ?_
          refine aw_callV (npc := 38) (N := mX2_isMissing) (b := 52) (mc := 0) (ms := 0) (A := []) (S := []) (L0 := [some (.ref 52)]) dX7_copy_35 rfl km_X2_isMissing kk_X7_207 f52 ⟨by decide, rfl⟩ rfl ⟨rfl, by decide⟩ rfl (Nat.le_of_ble_eq_true rfl) (Nat.zero_add _) (Nat.zero_add _) rfl ?_
          refine aw_aload_n (npc := 1) rfl dX2_isMissing_0 rfl ?_
          refine aw_get (npc := 4) dX2_isMissing_1 rfl kf_X2_9 f52 rfl ?_
          refine aw_iconst (npc := 5) (v := -1) (by decide) dX2_isMissing_4 rfl ?_
          refine aw_icmp_ne (npc := 8) (tgt := 12) dX2_isMissing_5 rfl (by decide) (fun hc => absurd (by decide) hc) (fun _ => ?_)
          refine aw_iconst (npc := 9) (v := 1) (by decide) dX2_isMissing_8 rfl ?_
          refine aw_goto (npc := 13) dX2_isMissing_9 (by decide) ?_
          refine aw_zret rfl rfl dX2_isMissing_13 ?_
          refine aw_re (S' := [.int 1]) rfl ?_
          refine aw_if_ne (npc := 41) (tgt := 49) dX7_copy_38 rfl (by decide) (fun _ => ?_) (fun hc => absurd hc (by decide))
          refine aw_ldc (npc := 51) kc_X7_210 dX7_copy_49 rfl ?_
          refine aw_iret rfl dX7_copy_51 ?_
          exact fin_c hq am_fr0 (show sp_copy 3 q 0 r v = (-1000000011) from (by unfold sp_copy; first | rfl | (simp only [wif_t hw1, wif_t hw5, wif_same, ite_self]; done) | (simp only [wif_t hw1, wif_t hw5, wif_same, ite_self]; rfl) | (simp [wif_t hw1, wif_t hw5, wif_same]; done)))
        · refine aw_re (S' := [.int 1]) rfl ?_
          refine aw_if_ne (npc := 14) (tgt := 17) dX7_copy_11 rfl (by decide) (fun _ => ?_) (fun hc => absurd hc (by decide))
          refine aw_aload_n (npc := 18) rfl dX7_copy_17 rfl ?_
          refine aw_get (npc := 21) dX7_copy_18 rfl kf_X7_47 f0 rfl ?_
          refine aw_iload_n (npc := 22) rfl dX7_copy_21 rfl ?_
          refine aw_aald (npc := 23) (j := 3) dX7_copy_22 rfl (by decide) f43 ⟨by decide, by decide⟩ rfl ?_
          refine aw_astore (npc := 25) (L' := [some (.ref 0), some (.int 3), some (.int q), some (.int 1), some (.int r), some (.int v), some (.ref 52), none]) dX7_copy_23 rfl (by decide) rfl rfl ?_
          refine aw_aload_n (npc := 26) rfl dX7_copy_25 rfl ?_
          refine aw_get (npc := 29) dX7_copy_26 rfl kf_X7_47 f0 rfl ?_
          refine aw_iload_n (npc := 30) rfl dX7_copy_29 rfl ?_
          refine aw_aald (npc := 31) (j := 1) dX7_copy_30 rfl (by decide) f43 ⟨by decide, by decide⟩ rfl ?_
          refine aw_astore (npc := 33) (L' := [some (.ref 0), some (.int 3), some (.int q), some (.int 1), some (.int r), some (.int v), some (.ref 52), some (.ref 48)]) dX7_copy_31 rfl (by decide) rfl rfl ?_
          refine aw_aload (npc := 35) rfl dX7_copy_33 rfl ?_
          refine aw_callV (npc := 38) (N := mX2_isMissing) (b := 52) (mc := 0) (ms := 0) (A := []) (S := []) (L0 := [some (.ref 52)]) dX7_copy_35 rfl km_X2_isMissing kk_X7_207 f52 ⟨by decide, rfl⟩ rfl ⟨rfl, by decide⟩ rfl (Nat.le_of_ble_eq_true rfl) (Nat.zero_add _) (Nat.zero_add _) rfl ?_
          refine aw_aload_n (npc := 1) rfl dX2_isMissing_0 rfl ?_
          refine aw_get (npc := 4) dX2_isMissing_1 rfl kf_X2_9 f52 rfl ?_
          refine aw_iconst (npc := 5) (v := -1) (by decide) dX2_isMissing_4 rfl ?_
          refine aw_icmp_ne (npc := 8) (tgt := 12) dX2_isMissing_5 rfl (by decide) (fun hc => absurd (by decide) hc) (fun _ => ?_)
          refine aw_iconst (npc := 9) (v := 1) (by decide) dX2_isMissing_8 rfl ?_
          refine aw_goto (npc := 13) dX2_isMissing_9 (by decide) ?_
          refine aw_zret rfl rfl dX2_isMissing_13 ?_
          refine aw_re (S' := [.int 1]) rfl ?_
          refine aw_if_ne (npc := 41) (tgt := 49) dX7_copy_38 rfl (by decide) (fun _ => ?_) (fun hc => absurd hc (by decide))
          refine aw_ldc (npc := 51) kc_X7_210 dX7_copy_49 rfl ?_
          refine aw_iret rfl dX7_copy_51 ?_
          exact fin_c hq am_fr0 (show sp_copy 3 q 1 r v = (-1000000011) from (by unfold sp_copy; first | rfl | (simp only [wif_t hw1, wif_t hw5, wif_same, ite_self]; done) | (simp only [wif_t hw1, wif_t hw5, wif_same, ite_self]; rfl) | (simp [wif_t hw1, wif_t hw5, wif_same]; done)))
        · refine aw_re (S' := [.int 1]) rfl ?_
          refine aw_if_ne (npc := 14) (tgt := 17) dX7_copy_11 rfl (by decide) (fun _ => ?_) (fun hc => absurd hc (by decide))
          refine aw_aload_n (npc := 18) rfl dX7_copy_17 rfl ?_
          refine aw_get (npc := 21) dX7_copy_18 rfl kf_X7_47 f0 rfl ?_
          refine aw_iload_n (npc := 22) rfl dX7_copy_21 rfl ?_
          refine aw_aald (npc := 23) (j := 3) dX7_copy_22 rfl (by decide) f43 ⟨by decide, by decide⟩ rfl ?_
          refine aw_astore (npc := 25) (L' := [some (.ref 0), some (.int 3), some (.int q), some (.int 2), some (.int r), some (.int v), some (.ref 52), none]) dX7_copy_23 rfl (by decide) rfl rfl ?_
          refine aw_aload_n (npc := 26) rfl dX7_copy_25 rfl ?_
          refine aw_get (npc := 29) dX7_copy_26 rfl kf_X7_47 f0 rfl ?_
          refine aw_iload_n (npc := 30) rfl dX7_copy_29 rfl ?_
          refine aw_aald (npc := 31) (j := 2) dX7_copy_30 rfl (by decide) f43 ⟨by decide, by decide⟩ rfl ?_
          refine aw_astore (npc := 33) (L' := [some (.ref 0), some (.int 3), some (.int q), some (.int 2), some (.int r), some (.int v), some (.ref 52), some (.ref 50)]) dX7_copy_31 rfl (by decide) rfl rfl ?_
          refine aw_aload (npc := 35) rfl dX7_copy_33 rfl ?_
          refine aw_callV (npc := 38) (N := mX2_isMissing) (b := 52) (mc := 0) (ms := 0) (A := []) (S := []) (L0 := [some (.ref 52)]) dX7_copy_35 rfl km_X2_isMissing kk_X7_207 f52 ⟨by decide, rfl⟩ rfl ⟨rfl, by decide⟩ rfl (Nat.le_of_ble_eq_true rfl) (Nat.zero_add _) (Nat.zero_add _) rfl ?_
          refine aw_aload_n (npc := 1) rfl dX2_isMissing_0 rfl ?_
          refine aw_get (npc := 4) dX2_isMissing_1 rfl kf_X2_9 f52 rfl ?_
          refine aw_iconst (npc := 5) (v := -1) (by decide) dX2_isMissing_4 rfl ?_
          refine aw_icmp_ne (npc := 8) (tgt := 12) dX2_isMissing_5 rfl (by decide) (fun hc => absurd (by decide) hc) (fun _ => ?_)
          refine aw_iconst (npc := 9) (v := 1) (by decide) dX2_isMissing_8 rfl ?_
          refine aw_goto (npc := 13) dX2_isMissing_9 (by decide) ?_
          refine aw_zret rfl rfl dX2_isMissing_13 ?_
          refine aw_re (S' := [.int 1]) rfl ?_
          refine aw_if_ne (npc := 41) (tgt := 49) dX7_copy_38 rfl (by decide) (fun _ => ?_) (fun hc => absurd hc (by decide))
          refine aw_ldc (npc := 51) kc_X7_210 dX7_copy_49 rfl ?_
          refine aw_iret rfl dX7_copy_51 ?_
          exact fin_c hq am_fr0 (show sp_copy 3 q 2 r v = (-1000000011) from (by unfold sp_copy; first | rfl | (simp only [wif_t hw1, wif_t hw5, wif_same, ite_self]; done) | (simp only [wif_t hw1, wif_t hw5, wif_same, ite_self]; rfl) | (simp [wif_t hw1, wif_t hw5, wif_same]; done)))
        · refine aw_re (S' := [.int 1]) rfl ?_
          refine aw_if_ne (npc := 14) (tgt := 17) dX7_copy_11 rfl (by decide) (fun _ => ?_) (fun hc => absurd hc (by decide))
          refine aw_aload_n (npc := 18) rfl dX7_copy_17 rfl ?_
          refine aw_get (npc := 21) dX7_copy_18 rfl kf_X7_47 f0 rfl ?_
          refine aw_iload_n (npc := 22) rfl dX7_copy_21 rfl ?_
          refine aw_aald (npc := 23) (j := 3) dX7_copy_22 rfl (by decide) f43 ⟨by decide, by decide⟩ rfl ?_
          refine aw_astore (npc := 25) (L' := [some (.ref 0), some (.int 3), some (.int q), some (.int 3), some (.int r), some (.int v), some (.ref 52), none]) dX7_copy_23 rfl (by decide) rfl rfl ?_
          refine aw_aload_n (npc := 26) rfl dX7_copy_25 rfl ?_
          refine aw_get (npc := 29) dX7_copy_26 rfl kf_X7_47 f0 rfl ?_
          refine aw_iload_n (npc := 30) rfl dX7_copy_29 rfl ?_
          refine aw_aald (npc := 31) (j := 3) dX7_copy_30 rfl (by decide) f43 ⟨by decide, by decide⟩ rfl ?_
          refine aw_astore (npc := 33) (L' := [some (.ref 0), some (.int 3), some (.int q), some (.int 3), some (.int r), some (.int v), some (.ref 52), some (.ref 52)]) dX7_copy_31 rfl (by decide) rfl rfl ?_
          refine aw_aload (npc := 35) rfl dX7_copy_33 rfl ?_
          refine aw_callV (npc := 38) (N := mX2_isMissing) (b := 52) (mc := 0) (ms := 0) (A := []) (S := []) (L0 := [some (.ref 52)]) dX7_copy_35 rfl km_X2_isMissing kk_X7_207 f52 ⟨by decide, rfl⟩ rfl ⟨rfl, by decide⟩ rfl (Nat.le_of_ble_eq_true rfl) (Nat.zero_add _) (Nat.zero_add _) rfl ?_
          refine aw_aload_n (npc := 1) rfl dX2_isMissing_0 rfl ?_
          refine aw_get (npc := 4) dX2_isMissing_1 rfl kf_X2_9 f52 rfl ?_
          refine aw_iconst (npc := 5) (v := -1) (by decide) dX2_isMissing_4 rfl ?_
          refine aw_icmp_ne (npc := 8) (tgt := 12) dX2_isMissing_5 rfl (by decide) (fun hc => absurd (by decide) hc) (fun _ => ?_)
          refine aw_iconst (npc := 9) (v := 1) (by decide) dX2_isMissing_8 rfl ?_
          refine aw_goto (npc := 13) dX2_isMissing_9 (by decide) ?_
          refine aw_zret rfl rfl dX2_isMissing_13 ?_
          refine aw_re (S' := [.int 1]) rfl ?_
          refine aw_if_ne (npc := 41) (tgt := 49) dX7_copy_38 rfl (by decide) (fun _ => ?_) (fun hc => absurd hc (by decide))
          refine aw_ldc (npc := 51) kc_X7_210 dX7_copy_49 rfl ?_
          refine aw_iret rfl dX7_copy_51 ?_
          exact fin_c hq am_fr0 (show sp_copy 3 q 3 r v = (-1000000011) from (by unfold sp_copy; first | rfl | (simp only [wif_t hw1, wif_t hw5, wif_same, ite_self]; done) | (simp only [wif_t hw1, wif_t hw5, wif_same, ite_self]; rfl) | (simp [wif_t hw1, wif_t hw5, wif_same]; done)))
      · refine aw_re (S' := [.int 0]) rfl ?_
        refine aw_if_ne (npc := 14) (tgt := 17) dX7_copy_11 rfl (by decide) (fun hc => absurd (by decide) hc) (fun _ => ?_)
        refine aw_ldc (npc := 16) kc_X7_78 dX7_copy_14 rfl ?_
        refine aw_iret rfl dX7_copy_16 ?_
        exact fin_c hq am_fr0 (show sp_copy 3 q t r v = (-1000000001) from (by unfold sp_copy; first | rfl | (simp only [wif_t hw1, wif_f hw5, wif_same, ite_self]; done) | (simp only [wif_t hw1, wif_f hw5, wif_same, ite_self]; rfl) | (simp [wif_t hw1, wif_f hw5, wif_same]; done)))
  · refine aw_re (S' := [.int 0]) rfl ?_
    refine aw_if_eq (npc := 7) (tgt := 14) dX7_copy_4 rfl (by decide) (fun _ => ?_) (fun hc => absurd (by decide) hc)
    refine aw_ldc (npc := 16) kc_X7_78 dX7_copy_14 rfl ?_
    refine aw_iret rfl dX7_copy_16 ?_
    exact fin_c hq am_fr0 (show sp_copy s q t r v = (-1000000001) from (by unfold sp_copy; first | rfl | (simp only [wif_f hw1, wif_same, ite_self]; done) | (simp only [wif_f hw1, wif_same, ite_self]; rfl) | (simp [wif_f hw1, wif_same]; done)))
set_option maxHeartbeats 40000000 in
set_option maxRecDepth 100000 in
theorem p_X8_copy {X : List Int32} {d rc rs : Nat} {h : am_H} {Q : am_Q} {s : Int32} {q : Int32} {t : Int32} {r : Int32} {v : Int32} (F : f0_X8 h) (hq : ∀ n9 h9, Q (some (.int (sp_copy s q t r v))) n9 h9) : AW X mX8_copy (d + 12) rc rs 0 [some (.ref 69), some (.int s), some (.int q), some (.int t), some (.int r), some (.int v), none] [] 92 h Q := by
  obtain ⟨g69, -, -, -, -, -, -, -, -, -, -, -, -, -, g83, -, -, -, -, -, -, -, -⟩ := F
  refine aw_iload_n (npc := 1) rfl dX8_copy_0 rfl ?_
  refine aw_callS (npc := 4) (N := mX8_isSheet) (mc := 0) (ms := 0) (A := [.int s]) (S := []) (L0 := [some (.int s)]) dX8_copy_1 rfl km_X8_isSheet kk_X8_184 rfl ⟨rfl, by decide⟩ rfl (Nat.le_of_ble_eq_true rfl) (Nat.zero_add _) (Nat.zero_add _) rfl ?_
  refine c_X8_isSheet (fun hw1 => ?_) (fun hw1 => ?_)
  · rcases wi_c0_3 hw1 with rfl | rfl | rfl | rfl
    · refine aw_re (S' := [.int 1]) rfl ?_
      refine aw_if_eq (npc := 7) (tgt := 14) dX8_copy_4 rfl (by decide) (fun hc => absurd hc (by decide)) (fun _ => ?_)
      refine aw_iload_n (npc := 8) rfl dX8_copy_7 rfl ?_
      refine aw_callS (npc := 11) (N := mX8_isSheet) (mc := 0) (ms := 0) (A := [.int t]) (S := []) (L0 := [some (.int t)]) dX8_copy_8 rfl km_X8_isSheet kk_X8_184 rfl ⟨rfl, by decide⟩ rfl (Nat.le_of_ble_eq_true rfl) (Nat.zero_add _) (Nat.zero_add _) rfl ?_
      refine c_X8_isSheet (fun hw2 => ?_) (fun hw2 => ?_)
      · rcases wi_c0_3 hw2 with rfl | rfl | rfl | rfl
        · refine aw_re (S' := [.int 1]) rfl ?_
          refine aw_if_ne (npc := 14) (tgt := 17) dX8_copy_11 rfl (by decide) (fun _ => ?_) (fun hc => absurd hc (by decide))
          refine aw_aload_n (npc := 18) rfl dX8_copy_17 rfl ?_
          refine aw_get (npc := 21) dX8_copy_18 rfl kf_X8_55 g69 rfl ?_
          refine aw_iload_n (npc := 22) rfl dX8_copy_21 rfl ?_
          refine aw_iald (npc := 23) (x := (-1)) (j := 0) dX8_copy_22 rfl g83 ⟨by decide, by decide⟩ rfl ?_
          refine aw_if_lt (npc := 26) (tgt := 35) dX8_copy_23 rfl (by decide) (fun _ => ?_) (fun hc => absurd (by decide) hc)
          refine aw_ldc (npc := 37) kc_X8_187 dX8_copy_35 rfl ?_
          refine aw_iret rfl dX8_copy_37 ?_
          exact fin_m hq (show sp_copy 0 q 0 r v = (-1000000011) from (by unfold sp_copy; first | rfl | (simp only [wif_t hw1, wif_t hw2, wif_same, ite_self]; done) | (simp only [wif_t hw1, wif_t hw2, wif_same, ite_self]; rfl) | (simp [wif_t hw1, wif_t hw2, wif_same]; done)))
        · refine aw_re (S' := [.int 1]) rfl ?_
          refine aw_if_ne (npc := 14) (tgt := 17) dX8_copy_11 rfl (by decide) (fun _ => ?_) (fun hc => absurd hc (by decide))
          refine aw_aload_n (npc := 18) rfl dX8_copy_17 rfl ?_
          refine aw_get (npc := 21) dX8_copy_18 rfl kf_X8_55 g69 rfl ?_
          refine aw_iload_n (npc := 22) rfl dX8_copy_21 rfl ?_
          refine aw_iald (npc := 23) (x := (-1)) (j := 0) dX8_copy_22 rfl g83 ⟨by decide, by decide⟩ rfl ?_
          refine aw_if_lt (npc := 26) (tgt := 35) dX8_copy_23 rfl (by decide) (fun _ => ?_) (fun hc => absurd (by decide) hc)
          refine aw_ldc (npc := 37) kc_X8_187 dX8_copy_35 rfl ?_
          refine aw_iret rfl dX8_copy_37 ?_
          exact fin_m hq (show sp_copy 0 q 1 r v = (-1000000011) from (by unfold sp_copy; first | rfl | (simp only [wif_t hw1, wif_t hw2, wif_same, ite_self]; done) | (simp only [wif_t hw1, wif_t hw2, wif_same, ite_self]; rfl) | (simp [wif_t hw1, wif_t hw2, wif_same]; done)))
        · refine aw_re (S' := [.int 1]) rfl ?_
          refine aw_if_ne (npc := 14) (tgt := 17) dX8_copy_11 rfl (by decide) (fun _ => ?_) (fun hc => absurd hc (by decide))
          refine aw_aload_n (npc := 18) rfl dX8_copy_17 rfl ?_
          refine aw_get (npc := 21) dX8_copy_18 rfl kf_X8_55 g69 rfl ?_
          refine aw_iload_n (npc := 22) rfl dX8_copy_21 rfl ?_
          refine aw_iald (npc := 23) (x := (-1)) (j := 0) dX8_copy_22 rfl g83 ⟨by decide, by decide⟩ rfl ?_
          refine aw_if_lt (npc := 26) (tgt := 35) dX8_copy_23 rfl (by decide) (fun _ => ?_) (fun hc => absurd (by decide) hc)
          refine aw_ldc (npc := 37) kc_X8_187 dX8_copy_35 rfl ?_
          refine aw_iret rfl dX8_copy_37 ?_
          exact fin_m hq (show sp_copy 0 q 2 r v = (-1000000011) from (by unfold sp_copy; first | rfl | (simp only [wif_t hw1, wif_t hw2, wif_same, ite_self]; done) | (simp only [wif_t hw1, wif_t hw2, wif_same, ite_self]; rfl) | (simp [wif_t hw1, wif_t hw2, wif_same]; done)))
        · refine aw_re (S' := [.int 1]) rfl ?_
          refine aw_if_ne (npc := 14) (tgt := 17) dX8_copy_11 rfl (by decide) (fun _ => ?_) (fun hc => absurd hc (by decide))
          refine aw_aload_n (npc := 18) rfl dX8_copy_17 rfl ?_
          refine aw_get (npc := 21) dX8_copy_18 rfl kf_X8_55 g69 rfl ?_
          refine aw_iload_n (npc := 22) rfl dX8_copy_21 rfl ?_
          refine aw_iald (npc := 23) (x := (-1)) (j := 0) dX8_copy_22 rfl g83 ⟨by decide, by decide⟩ rfl ?_
          refine aw_if_lt (npc := 26) (tgt := 35) dX8_copy_23 rfl (by decide) (fun _ => ?_) (fun hc => absurd (by decide) hc)
          refine aw_ldc (npc := 37) kc_X8_187 dX8_copy_35 rfl ?_
          refine aw_iret rfl dX8_copy_37 ?_
          exact fin_m hq (show sp_copy 0 q 3 r v = (-1000000011) from (by unfold sp_copy; first | rfl | (simp only [wif_t hw1, wif_t hw2, wif_same, ite_self]; done) | (simp only [wif_t hw1, wif_t hw2, wif_same, ite_self]; rfl) | (simp [wif_t hw1, wif_t hw2, wif_same]; done)))
      · refine aw_re (S' := [.int 0]) rfl ?_
        refine aw_if_ne (npc := 14) (tgt := 17) dX8_copy_11 rfl (by decide) (fun hc => absurd (by decide) hc) (fun _ => ?_)
        refine aw_ldc (npc := 16) kc_X8_91 dX8_copy_14 rfl ?_
        refine aw_iret rfl dX8_copy_16 ?_
        exact fin_m hq (show sp_copy 0 q t r v = (-1000000001) from (by unfold sp_copy; first | rfl | (simp only [wif_t hw1, wif_f hw2, wif_same, ite_self]; done) | (simp only [wif_t hw1, wif_f hw2, wif_same, ite_self]; rfl) | (simp [wif_t hw1, wif_f hw2, wif_same]; done)))
    · refine aw_re (S' := [.int 1]) rfl ?_
      refine aw_if_eq (npc := 7) (tgt := 14) dX8_copy_4 rfl (by decide) (fun hc => absurd hc (by decide)) (fun _ => ?_)
      refine aw_iload_n (npc := 8) rfl dX8_copy_7 rfl ?_
      refine aw_callS (npc := 11) (N := mX8_isSheet) (mc := 0) (ms := 0) (A := [.int t]) (S := []) (L0 := [some (.int t)]) dX8_copy_8 rfl km_X8_isSheet kk_X8_184 rfl ⟨rfl, by decide⟩ rfl (Nat.le_of_ble_eq_true rfl) (Nat.zero_add _) (Nat.zero_add _) rfl ?_
      refine c_X8_isSheet (fun hw3 => ?_) (fun hw3 => ?_)
      · rcases wi_c0_3 hw3 with rfl | rfl | rfl | rfl
        · refine aw_re (S' := [.int 1]) rfl ?_
          refine aw_if_ne (npc := 14) (tgt := 17) dX8_copy_11 rfl (by decide) (fun _ => ?_) (fun hc => absurd hc (by decide))
          refine aw_aload_n (npc := 18) rfl dX8_copy_17 rfl ?_
          refine aw_get (npc := 21) dX8_copy_18 rfl kf_X8_55 g69 rfl ?_
          refine aw_iload_n (npc := 22) rfl dX8_copy_21 rfl ?_
          refine aw_iald (npc := 23) (x := (-1)) (j := 1) dX8_copy_22 rfl g83 ⟨by decide, by decide⟩ rfl ?_
          refine aw_if_lt (npc := 26) (tgt := 35) dX8_copy_23 rfl (by decide) (fun _ => ?_) (fun hc => absurd (by decide) hc)
          refine aw_ldc (npc := 37) kc_X8_187 dX8_copy_35 rfl ?_
          refine aw_iret rfl dX8_copy_37 ?_
          exact fin_m hq (show sp_copy 1 q 0 r v = (-1000000011) from (by unfold sp_copy; first | rfl | (simp only [wif_t hw1, wif_t hw3, wif_same, ite_self]; done) | (simp only [wif_t hw1, wif_t hw3, wif_same, ite_self]; rfl) | (simp [wif_t hw1, wif_t hw3, wif_same]; done)))
        · refine aw_re (S' := [.int 1]) rfl ?_
          refine aw_if_ne (npc := 14) (tgt := 17) dX8_copy_11 rfl (by decide) (fun _ => ?_) (fun hc => absurd hc (by decide))
          refine aw_aload_n (npc := 18) rfl dX8_copy_17 rfl ?_
          refine aw_get (npc := 21) dX8_copy_18 rfl kf_X8_55 g69 rfl ?_
          refine aw_iload_n (npc := 22) rfl dX8_copy_21 rfl ?_
          refine aw_iald (npc := 23) (x := (-1)) (j := 1) dX8_copy_22 rfl g83 ⟨by decide, by decide⟩ rfl ?_
          refine aw_if_lt (npc := 26) (tgt := 35) dX8_copy_23 rfl (by decide) (fun _ => ?_) (fun hc => absurd (by decide) hc)
          refine aw_ldc (npc := 37) kc_X8_187 dX8_copy_35 rfl ?_
          refine aw_iret rfl dX8_copy_37 ?_
          exact fin_m hq (show sp_copy 1 q 1 r v = (-1000000011) from (by unfold sp_copy; first | rfl | (simp only [wif_t hw1, wif_t hw3, wif_same, ite_self]; done) | (simp only [wif_t hw1, wif_t hw3, wif_same, ite_self]; rfl) | (simp [wif_t hw1, wif_t hw3, wif_same]; done)))
        · refine aw_re (S' := [.int 1]) rfl ?_
          refine aw_if_ne (npc := 14) (tgt := 17) dX8_copy_11 rfl (by decide) (fun _ => ?_) (fun hc => absurd hc (by decide))
          refine aw_aload_n (npc := 18) rfl dX8_copy_17 rfl ?_
          refine aw_get (npc := 21) dX8_copy_18 rfl kf_X8_55 g69 rfl ?_
          refine aw_iload_n (npc := 22) rfl dX8_copy_21 rfl ?_
          refine aw_iald (npc := 23) (x := (-1)) (j := 1) dX8_copy_22 rfl g83 ⟨by decide, by decide⟩ rfl ?_
          refine aw_if_lt (npc := 26) (tgt := 35) dX8_copy_23 rfl (by decide) (fun _ => ?_) (fun hc => absurd (by decide) hc)
          refine aw_ldc (npc := 37) kc_X8_187 dX8_copy_35 rfl ?_
          refine aw_iret rfl dX8_copy_37 ?_
          exact fin_m hq (show sp_copy 1 q 2 r v = (-1000000011) from (by unfold sp_copy; first | rfl | (simp only [wif_t hw1, wif_t hw3, wif_same, ite_self]; done) | (simp only [wif_t hw1, wif_t hw3, wif_same, ite_self]; rfl) | (simp [wif_t hw1, wif_t hw3, wif_same]; done)))
        · refine aw_re (S' := [.int 1]) rfl ?_
          refine aw_if_ne (npc := 14) (tgt := 17) dX8_copy_11 rfl (by decide) (fun _ => ?_) (fun hc => absurd hc (by decide))
          refine aw_aload_n (npc := 18) rfl dX8_copy_17 rfl ?_
          refine aw_get (npc := 21) dX8_copy_18 rfl kf_X8_55 g69 rfl ?_
          refine aw_iload_n (npc := 22) rfl dX8_copy_21 rfl ?_
          refine aw_iald (npc := 23) (x := (-1)) (j := 1) dX8_copy_22 rfl g83 ⟨by decide, by decide⟩ rfl ?_
          refine aw_if_lt (npc := 26) (tgt := 35) dX8_copy_23 rfl (by decide) (fun _ => ?_) (fun hc => absurd (by decide) hc)
          refine aw_ldc (npc := 37) kc_X8_187 dX8_copy_35 rfl ?_
          refine aw_iret rfl dX8_copy_37 ?_
          exact fin_m hq (show sp_copy 1 q 3 r v = (-1000000011) from (by unfold sp_copy; first | rfl | (simp only [wif_t hw1, wif_t hw3, wif_same, ite_self]; done) | (simp only [wif_t hw1, wif_t hw3, wif_same, ite_self]; rfl) | (simp [wif_t hw1, wif_t hw3, wif_same]; done)))
      · refine aw_re (S' := [.int 0]) rfl ?_
        refine aw_if_ne (npc := 14) (tgt := 17) dX8_copy_11 rfl (by decide) (fun hc => absurd (by decide) hc) (fun _ => ?_)
        refine aw_ldc (npc := 16) kc_X8_91 dX8_copy_14 rfl ?_
        refine aw_iret rfl dX8_copy_16 ?_
        exact fin_m hq (show sp_copy 1 q t r v = (-1000000001) from (by unfold sp_copy; first | rfl | (simp only [wif_t hw1, wif_f hw3, wif_same, ite_self]; done) | (simp only [wif_t hw1, wif_f hw3, wif_same, ite_self]; rfl) | (simp [wif_t hw1, wif_f hw3, wif_same]; done)))
    · refine aw_re (S' := [.int 1]) rfl ?_
      refine aw_if_eq (npc := 7) (tgt := 14) dX8_copy_4 rfl (by decide) (fun hc => absurd hc (by decide)) (fun _ => ?_)
      refine aw_iload_n (npc := 8) rfl dX8_copy_7 rfl ?_
      refine aw_callS (npc := 11) (N := mX8_isSheet) (mc := 0) (ms := 0) (A := [.int t]) (S := []) (L0 := [some (.int t)]) dX8_copy_8 rfl km_X8_isSheet kk_X8_184 rfl ⟨rfl, by decide⟩ rfl (Nat.le_of_ble_eq_true rfl) (Nat.zero_add _) (Nat.zero_add _) rfl ?_
      refine c_X8_isSheet (fun hw4 => ?_) (fun hw4 => ?_)
      · rcases wi_c0_3 hw4 with rfl | rfl | rfl | rfl
        · refine aw_re (S' := [.int 1]) rfl ?_
          refine aw_if_ne (npc := 14) (tgt := 17) dX8_copy_11 rfl (by decide) (fun _ => ?_) (fun hc => absurd hc (by decide))
          refine aw_aload_n (npc := 18) rfl dX8_copy_17 rfl ?_
          refine aw_get (npc := 21) dX8_copy_18 rfl kf_X8_55 g69 rfl ?_
          refine aw_iload_n (npc := 22) rfl dX8_copy_21 rfl ?_
          refine aw_iald (npc := 23) (x := (-1)) (j := 2) dX8_copy_22 rfl g83 ⟨by decide, by decide⟩ rfl ?_
          refine aw_if_lt (npc := 26) (tgt := 35) dX8_copy_23 rfl (by decide) (fun _ => ?_) (fun hc => absurd (by decide) hc)
          refine aw_ldc (npc := 37) kc_X8_187 dX8_copy_35 rfl ?_
          refine aw_iret rfl dX8_copy_37 ?_
          exact fin_m hq (show sp_copy 2 q 0 r v = (-1000000011) from (by unfold sp_copy; first | rfl | (simp only [wif_t hw1, wif_t hw4, wif_same, ite_self]; done) | (simp only [wif_t hw1, wif_t hw4, wif_same, ite_self]; rfl) | (simp [wif_t hw1, wif_t hw4, wif_same]; done)))
        · refine aw_re (S' := [.int 1]) rfl ?_
          refine aw_if_ne (npc := 14) (tgt := 17) dX8_copy_11 rfl (by decide) (fun _ => ?_) (fun hc => absurd hc (by decide))
          refine aw_aload_n (npc := 18) rfl dX8_copy_17 rfl ?_
          refine aw_get (npc := 21) dX8_copy_18 rfl kf_X8_55 g69 rfl ?_
          refine aw_iload_n (npc := 22) rfl dX8_copy_21 rfl ?_
          refine aw_iald (npc := 23) (x := (-1)) (j := 2) dX8_copy_22 rfl g83 ⟨by decide, by decide⟩ rfl ?_
          refine aw_if_lt (npc := 26) (tgt := 35) dX8_copy_23 rfl (by decide) (fun _ => ?_) (fun hc => absurd (by decide) hc)
          refine aw_ldc (npc := 37) kc_X8_187 dX8_copy_35 rfl ?_
          refine aw_iret rfl dX8_copy_37 ?_
          exact fin_m hq (show sp_copy 2 q 1 r v = (-1000000011) from (by unfold sp_copy; first | rfl | (simp only [wif_t hw1, wif_t hw4, wif_same, ite_self]; done) | (simp only [wif_t hw1, wif_t hw4, wif_same, ite_self]; rfl) | (simp [wif_t hw1, wif_t hw4, wif_same]; done)))
        · refine aw_re (S' := [.int 1]) rfl ?_
          refine aw_if_ne (npc := 14) (tgt := 17) dX8_copy_11 rfl (by decide) (fun _ => ?_) (fun hc => absurd hc (by decide))
          refine aw_aload_n (npc := 18) rfl dX8_copy_17 rfl ?_
          refine aw_get (npc := 21) dX8_copy_18 rfl kf_X8_55 g69 rfl ?_
          refine aw_iload_n (npc := 22) rfl dX8_copy_21 rfl ?_
          refine aw_iald (npc := 23) (x := (-1)) (j := 2) dX8_copy_22 rfl g83 ⟨by decide, by decide⟩ rfl ?_
          refine aw_if_lt (npc := 26) (tgt := 35) dX8_copy_23 rfl (by decide) (fun _ => ?_) (fun hc => absurd (by decide) hc)
          refine aw_ldc (npc := 37) kc_X8_187 dX8_copy_35 rfl ?_
          refine aw_iret rfl dX8_copy_37 ?_
          exact fin_m hq (show sp_copy 2 q 2 r v = (-1000000011) from (by unfold sp_copy; first | rfl | (simp only [wif_t hw1, wif_t hw4, wif_same, ite_self]; done) | (simp only [wif_t hw1, wif_t hw4, wif_same, ite_self]; rfl) | (simp [wif_t hw1, wif_t hw4, wif_same]; done)))
        · refine aw_re (S' := [.int 1]) rfl ?_
          refine aw_if_ne (npc := 14) (tgt := 17) dX8_copy_11 rfl (by decide) (fun _ => ?_) (fun hc => absurd hc (by decide))
          refine aw_aload_n (npc := 18) rfl dX8_copy_17 rfl ?_
          refine aw_get (npc := 21) dX8_copy_18 rfl kf_X8_55 g69 rfl ?_
          refine aw_iload_n (npc := 22) rfl dX8_copy_21 rfl ?_
          refine aw_iald (npc := 23) (x := (-1)) (j := 2) dX8_copy_22 rfl g83 ⟨by decide, by decide⟩ rfl ?_
          refine aw_if_lt (npc := 26) (tgt := 35) dX8_copy_23 rfl (by decide) (fun _ => ?_) (fun hc => absurd (by decide) hc)
          refine aw_ldc (npc := 37) kc_X8_187 dX8_copy_35 rfl ?_
          refine aw_iret rfl dX8_copy_37 ?_
          exact fin_m hq (show sp_copy 2 q 3 r v = (-1000000011) from (by unfold sp_copy; first | rfl | (simp only [wif_t hw1, wif_t hw4, wif_same, ite_self]; done) | (simp only [wif_t hw1, wif_t hw4, wif_same, ite_self]; rfl) | (simp [wif_t hw1, wif_t hw4, wif_same]; done)))
      · refine aw_re (S' := [.int 0]) rfl ?_
        refine aw_if_ne (npc := 14) (tgt := 17) dX8_copy_11 rfl (by decide) (fun hc => absurd (by decide) hc) (fun _ => ?_)
        refine aw_ldc (npc := 16) kc_X8_91 dX8_copy_14 rfl ?_
        refine aw_iret rfl dX8_copy_16 ?_
        exact fin_m hq (show sp_copy 2 q t r v = (-1000000001) from (by unfold sp_copy; first | rfl | (simp only [wif_t hw1, wif_f hw4, wif_same, ite_self]; done) | (simp only [wif_t hw1, wif_f hw4, wif_same, ite_self]; rfl) | (simp [wif_t hw1, wif_f hw4, wif_same]; done)))
    · refine aw_re (S' := [.int 1]) rfl ?_
      refine aw_if_eq (npc := 7) (tgt := 14) dX8_copy_4 rfl (by decide) (fun hc => absurd hc (by decide)) (fun _ => ?_)
      refine aw_iload_n (npc := 8) rfl dX8_copy_7 rfl ?_
      refine aw_callS (npc := 11) (N := mX8_isSheet) (mc := 0) (ms := 0) (A := [.int t]) (S := []) (L0 := [some (.int t)]) dX8_copy_8 rfl km_X8_isSheet kk_X8_184 rfl ⟨rfl, by decide⟩ rfl (Nat.le_of_ble_eq_true rfl) (Nat.zero_add _) (Nat.zero_add _) rfl ?_
      refine c_X8_isSheet (fun hw5 => ?_) (fun hw5 => ?_)
      · rcases wi_c0_3 hw5 with rfl | rfl | rfl | rfl
        · refine aw_re (S' := [.int 1]) rfl ?_
          refine aw_if_ne (npc := 14) (tgt := 17) dX8_copy_11 rfl (by decide) (fun _ => ?_) (fun hc => absurd hc (by decide))
          refine aw_aload_n (npc := 18) rfl dX8_copy_17 rfl ?_
          refine aw_get (npc := 21) dX8_copy_18 rfl kf_X8_55 g69 rfl ?_
          refine aw_iload_n (npc := 22) rfl dX8_copy_21 rfl ?_
          refine aw_iald (npc := 23) (x := (-1)) (j := 3) dX8_copy_22 rfl g83 ⟨by decide, by decide⟩ rfl ?_
          refine aw_if_lt (npc := 26) (tgt := 35) dX8_copy_23 rfl (by decide) (fun _ => ?_) (fun hc => absurd (by decide) hc)
          refine aw_ldc (npc := 37) kc_X8_187 dX8_copy_35 rfl ?_
          refine aw_iret rfl dX8_copy_37 ?_
          exact fin_m hq (show sp_copy 3 q 0 r v = (-1000000011) from (by unfold sp_copy; first | rfl | (simp only [wif_t hw1, wif_t hw5, wif_same, ite_self]; done) | (simp only [wif_t hw1, wif_t hw5, wif_same, ite_self]; rfl) | (simp [wif_t hw1, wif_t hw5, wif_same]; done)))
        · refine aw_re (S' := [.int 1]) rfl ?_
          refine aw_if_ne (npc := 14) (tgt := 17) dX8_copy_11 rfl (by decide) (fun _ => ?_) (fun hc => absurd hc (by decide))
          refine aw_aload_n (npc := 18) rfl dX8_copy_17 rfl ?_
          refine aw_get (npc := 21) dX8_copy_18 rfl kf_X8_55 g69 rfl ?_
          refine aw_iload_n (npc := 22) rfl dX8_copy_21 rfl ?_
          refine aw_iald (npc := 23) (x := (-1)) (j := 3) dX8_copy_22 rfl g83 ⟨by decide, by decide⟩ rfl ?_
          refine aw_if_lt (npc := 26) (tgt := 35) dX8_copy_23 rfl (by decide) (fun _ => ?_) (fun hc => absurd (by decide) hc)
          refine aw_ldc (npc := 37) kc_X8_187 dX8_copy_35 rfl ?_
          refine aw_iret rfl dX8_copy_37 ?_
          exact fin_m hq (show sp_copy 3 q 1 r v = (-1000000011) from (by unfold sp_copy; first | rfl | (simp only [wif_t hw1, wif_t hw5, wif_same, ite_self]; done) | (simp only [wif_t hw1, wif_t hw5, wif_same, ite_self]; rfl) | (simp [wif_t hw1, wif_t hw5, wif_same]; done)))
        · refine aw_re (S' := [.int 1]) rfl ?_
          refine aw_if_ne (npc := 14) (tgt := 17) dX8_copy_11 rfl (by decide) (fun _ => ?_) (fun hc => absurd hc (by decide))
          refine aw_aload_n (npc := 18) rfl dX8_copy_17 rfl ?_
          refine aw_get (npc := 21) dX8_copy_18 rfl kf_X8_55 g69 rfl ?_
          refine aw_iload_n (npc := 22) rfl dX8_copy_21 rfl ?_
          refine aw_iald (npc := 23) (x := (-1)) (j := 3) dX8_copy_22 rfl g83 ⟨by decide, by decide⟩ rfl ?_
          refine aw_if_lt (npc := 26) (tgt := 35) dX8_copy_23 rfl (by decide) (fun _ => ?_) (fun hc => absurd (by decide) hc)
          refine aw_ldc (npc := 37) kc_X8_187 dX8_copy_35 rfl ?_
          refine aw_iret rfl dX8_copy_37 ?_
          exact fin_m hq (show sp_copy 3 q 2 r v = (-1000000011) from (by unfold sp_copy; first | rfl | (simp only [wif_t hw1, wif_t hw5, wif_same, ite_self]; done) | (simp only [wif_t hw1, wif_t hw5, wif_same, ite_self]; rfl) | (simp [wif_t hw1, wif_t hw5, wif_same]; done)))
        · refine aw_re (S' := [.int 1]) rfl ?_
          refine aw_if_ne (npc := 14) (tgt := 17) dX8_copy_11 rfl (by decide) (fun _ => ?_) (fun hc => absurd hc (by decide))
          refine aw_aload_n (npc := 18) rfl dX8_copy_17 rfl ?_
          refine aw_get (npc := 21) dX8_copy_18 rfl kf_X8_55 g69 rfl ?_
          refine aw_iload_n (npc := 22) rfl dX8_copy_21 rfl ?_
          refine aw_iald (npc := 23) (x := (-1)) (j := 3) dX8_copy_22 rfl g83 ⟨by decide, by decide⟩ rfl ?_
          refine aw_if_lt (npc := 26) (tgt := 35) dX8_copy_23 rfl (by decide) (fun _ => ?_) (fun hc => absurd (by decide) hc)
          refine aw_ldc (npc := 37) kc_X8_187 dX8_copy_35 rfl ?_
          refine aw_iret rfl dX8_copy_37 ?_
          exact fin_m hq (show sp_copy 3 q 3 r v = (-1000000011) from (by unfold sp_copy; first | rfl | (simp only [wif_t hw1, wif_t hw5, wif_same, ite_self]; done) | (simp only [wif_t hw1, wif_t hw5, wif_same, ite_self]; rfl) | (simp [wif_t hw1, wif_t hw5, wif_same]; done)))
      · refine aw_re (S' := [.int 0]) rfl ?_
        refine aw_if_ne (npc := 14) (tgt := 17) dX8_copy_11 rfl (by decide) (fun hc => absurd (by decide) hc) (fun _ => ?_)
        refine aw_ldc (npc := 16) kc_X8_91 dX8_copy_14 rfl ?_
        refine aw_iret rfl dX8_copy_16 ?_
        exact fin_m hq (show sp_copy 3 q t r v = (-1000000001) from (by unfold sp_copy; first | rfl | (simp only [wif_t hw1, wif_f hw5, wif_same, ite_self]; done) | (simp only [wif_t hw1, wif_f hw5, wif_same, ite_self]; rfl) | (simp [wif_t hw1, wif_f hw5, wif_same]; done)))
  · refine aw_re (S' := [.int 0]) rfl ?_
    refine aw_if_eq (npc := 7) (tgt := 14) dX8_copy_4 rfl (by decide) (fun _ => ?_) (fun hc => absurd (by decide) hc)
    refine aw_ldc (npc := 16) kc_X8_91 dX8_copy_14 rfl ?_
    refine aw_iret rfl dX8_copy_16 ?_
    exact fin_m hq (show sp_copy s q t r v = (-1000000001) from (by unfold sp_copy; first | rfl | (simp only [wif_f hw1, wif_same, ite_self]; done) | (simp only [wif_f hw1, wif_same, ite_self]; rfl) | (simp [wif_f hw1, wif_same]; done)))
noncomputable def sp_ask (s : Int32) (k : Int32) : Int32 := wif s 0 4 (wif k 0 5 ((-1000000011)) (-1000000001)) (-1000000001)
set_option maxHeartbeats 40000000 in
set_option maxRecDepth 100000 in
theorem p_X7_ask {X : List Int32} {d rc rs : Nat} {h : am_H} {Q : am_Q} {s : Int32} {k : Int32} (F : f0_X7 h) (hq : ∀ h9, am_fr 69 h9 h → Q (some (.int (sp_ask s k))) 92 h9) : AW X mX7_ask (d + 12) rc rs 0 [some (.ref 0), some (.int s), some (.int k), none] [] 92 h Q := by
  obtain ⟨f0, -, -, -, -, -, -, -, -, -, -, -, -, -, -, -, -, -, -, -, -, -, -, -, -, -, -, -, -, -, -, -, -, -, -, -, -, -, -, -, -, -, -, -, f44, -, -, -, -, -, -, -, -, -, f54, -, -, f57, -, -, f60, -, -, f63, -, -, f66, -, -⟩ := F
  refine aw_iload_n (npc := 1) rfl dX7_ask_0 rfl ?_
  refine aw_callS (npc := 4) (N := mX7_isSlot) (mc := 0) (ms := 0) (A := [.int s]) (S := []) (L0 := [some (.int s)]) dX7_ask_1 rfl km_X7_isSlot kk_X7_299 rfl ⟨rfl, by decide⟩ rfl (Nat.le_of_ble_eq_true rfl) (Nat.zero_add _) (Nat.zero_add _) rfl ?_
  refine c_X7_isSlot (fun hw1 => ?_) (fun hw1 => ?_)
  · rcases wi_c0_4 hw1 with rfl | rfl | rfl | rfl | rfl
    · refine aw_re (S' := [.int 1]) rfl ?_
      refine aw_if_eq (npc := 7) (tgt := 14) dX7_ask_4 rfl (by decide) (fun hc => absurd hc (by decide)) (fun _ => ?_)
      refine aw_iload_n (npc := 8) rfl dX7_ask_7 rfl ?_
      refine aw_callS (npc := 11) (N := mX7_isKind) (mc := 0) (ms := 0) (A := [.int k]) (S := []) (L0 := [some (.int k)]) dX7_ask_8 rfl km_X7_isKind kk_X7_67 rfl ⟨rfl, by decide⟩ rfl (Nat.le_of_ble_eq_true rfl) (Nat.zero_add _) (Nat.zero_add _) rfl ?_
      refine c_X7_isKind (fun hw2 => ?_) (fun hw2 => ?_)
      · refine aw_re (S' := [.int 1]) rfl ?_
        refine aw_if_ne (npc := 14) (tgt := 17) dX7_ask_11 rfl (by decide) (fun _ => ?_) (fun hc => absurd hc (by decide))
        refine aw_aload_n (npc := 18) rfl dX7_ask_17 rfl ?_
        refine aw_get (npc := 21) dX7_ask_18 rfl kf_X7_53 f0 rfl ?_
        refine aw_iload_n (npc := 22) rfl dX7_ask_21 rfl ?_
        refine aw_aald (npc := 23) (j := 0) dX7_ask_22 rfl (by decide) f44 ⟨by decide, by decide⟩ rfl ?_
        refine aw_astore_n (npc := 24) (L' := [some (.ref 0), some (.int 0), some (.int k), some (.ref 54)]) dX7_ask_23 rfl (by decide) rfl rfl ?_
        refine aw_aload_n (npc := 25) rfl dX7_ask_24 rfl ?_
        refine aw_get (npc := 28) dX7_ask_25 rfl kf_X7_302 f54 rfl ?_
        refine aw_if_ne (npc := 31) (tgt := 34) dX7_ask_28 rfl (by decide) (fun hc => absurd (by decide) hc) (fun _ => ?_)
        refine aw_ldc (npc := 33) kc_X7_210 dX7_ask_31 rfl ?_
        refine aw_iret rfl dX7_ask_33 ?_
        exact fin_c hq am_fr0 (show sp_ask 0 k = (-1000000011) from (by unfold sp_ask; first | rfl | (simp only [wif_t hw1, wif_t hw2, wif_same, ite_self]; done) | (simp only [wif_t hw1, wif_t hw2, wif_same, ite_self]; rfl) | (simp [wif_t hw1, wif_t hw2, wif_same]; done)))
      · refine aw_re (S' := [.int 0]) rfl ?_
        refine aw_if_ne (npc := 14) (tgt := 17) dX7_ask_11 rfl (by decide) (fun hc => absurd (by decide) hc) (fun _ => ?_)
        refine aw_ldc (npc := 16) kc_X7_78 dX7_ask_14 rfl ?_
        refine aw_iret rfl dX7_ask_16 ?_
        exact fin_c hq am_fr0 (show sp_ask 0 k = (-1000000001) from (by unfold sp_ask; first | rfl | (simp only [wif_t hw1, wif_f hw2, wif_same, ite_self]; done) | (simp only [wif_t hw1, wif_f hw2, wif_same, ite_self]; rfl) | (simp [wif_t hw1, wif_f hw2, wif_same]; done)))
    · refine aw_re (S' := [.int 1]) rfl ?_
      refine aw_if_eq (npc := 7) (tgt := 14) dX7_ask_4 rfl (by decide) (fun hc => absurd hc (by decide)) (fun _ => ?_)
      refine aw_iload_n (npc := 8) rfl dX7_ask_7 rfl ?_
      refine aw_callS (npc := 11) (N := mX7_isKind) (mc := 0) (ms := 0) (A := [.int k]) (S := []) (L0 := [some (.int k)]) dX7_ask_8 rfl km_X7_isKind kk_X7_67 rfl ⟨rfl, by decide⟩ rfl (Nat.le_of_ble_eq_true rfl) (Nat.zero_add _) (Nat.zero_add _) rfl ?_
      refine c_X7_isKind (fun hw3 => ?_) (fun hw3 => ?_)
      · refine aw_re (S' := [.int 1]) rfl ?_
        refine aw_if_ne (npc := 14) (tgt := 17) dX7_ask_11 rfl (by decide) (fun _ => ?_) (fun hc => absurd hc (by decide))
        refine aw_aload_n (npc := 18) rfl dX7_ask_17 rfl ?_
        refine aw_get (npc := 21) dX7_ask_18 rfl kf_X7_53 f0 rfl ?_
        refine aw_iload_n (npc := 22) rfl dX7_ask_21 rfl ?_
        refine aw_aald (npc := 23) (j := 1) dX7_ask_22 rfl (by decide) f44 ⟨by decide, by decide⟩ rfl ?_
        refine aw_astore_n (npc := 24) (L' := [some (.ref 0), some (.int 1), some (.int k), some (.ref 57)]) dX7_ask_23 rfl (by decide) rfl rfl ?_
        refine aw_aload_n (npc := 25) rfl dX7_ask_24 rfl ?_
        refine aw_get (npc := 28) dX7_ask_25 rfl kf_X7_302 f57 rfl ?_
        refine aw_if_ne (npc := 31) (tgt := 34) dX7_ask_28 rfl (by decide) (fun hc => absurd (by decide) hc) (fun _ => ?_)
        refine aw_ldc (npc := 33) kc_X7_210 dX7_ask_31 rfl ?_
        refine aw_iret rfl dX7_ask_33 ?_
        exact fin_c hq am_fr0 (show sp_ask 1 k = (-1000000011) from (by unfold sp_ask; first | rfl | (simp only [wif_t hw1, wif_t hw3, wif_same, ite_self]; done) | (simp only [wif_t hw1, wif_t hw3, wif_same, ite_self]; rfl) | (simp [wif_t hw1, wif_t hw3, wif_same]; done)))
      · refine aw_re (S' := [.int 0]) rfl ?_
        refine aw_if_ne (npc := 14) (tgt := 17) dX7_ask_11 rfl (by decide) (fun hc => absurd (by decide) hc) (fun _ => ?_)
        refine aw_ldc (npc := 16) kc_X7_78 dX7_ask_14 rfl ?_
        refine aw_iret rfl dX7_ask_16 ?_
        exact fin_c hq am_fr0 (show sp_ask 1 k = (-1000000001) from (by unfold sp_ask; first | rfl | (simp only [wif_t hw1, wif_f hw3, wif_same, ite_self]; done) | (simp only [wif_t hw1, wif_f hw3, wif_same, ite_self]; rfl) | (simp [wif_t hw1, wif_f hw3, wif_same]; done)))
    · refine aw_re (S' := [.int 1]) rfl ?_
      refine aw_if_eq (npc := 7) (tgt := 14) dX7_ask_4 rfl (by decide) (fun hc => absurd hc (by decide)) (fun _ => ?_)
      refine aw_iload_n (npc := 8) rfl dX7_ask_7 rfl ?_
      refine aw_callS (npc := 11) (N := mX7_isKind) (mc := 0) (ms := 0) (A := [.int k]) (S := []) (L0 := [some (.int k)]) dX7_ask_8 rfl km_X7_isKind kk_X7_67 rfl ⟨rfl, by decide⟩ rfl (Nat.le_of_ble_eq_true rfl) (Nat.zero_add _) (Nat.zero_add _) rfl ?_
      refine c_X7_isKind (fun hw4 => ?_) (fun hw4 => ?_)
      · refine aw_re (S' := [.int 1]) rfl ?_
        refine aw_if_ne (npc := 14) (tgt := 17) dX7_ask_11 rfl (by decide) (fun _ => ?_) (fun hc => absurd hc (by decide))
        refine aw_aload_n (npc := 18) rfl dX7_ask_17 rfl ?_
        refine aw_get (npc := 21) dX7_ask_18 rfl kf_X7_53 f0 rfl ?_
        refine aw_iload_n (npc := 22) rfl dX7_ask_21 rfl ?_
        refine aw_aald (npc := 23) (j := 2) dX7_ask_22 rfl (by decide) f44 ⟨by decide, by decide⟩ rfl ?_
        refine aw_astore_n (npc := 24) (L' := [some (.ref 0), some (.int 2), some (.int k), some (.ref 60)]) dX7_ask_23 rfl (by decide) rfl rfl ?_
        refine aw_aload_n (npc := 25) rfl dX7_ask_24 rfl ?_
        refine aw_get (npc := 28) dX7_ask_25 rfl kf_X7_302 f60 rfl ?_
        refine aw_if_ne (npc := 31) (tgt := 34) dX7_ask_28 rfl (by decide) (fun hc => absurd (by decide) hc) (fun _ => ?_)
        refine aw_ldc (npc := 33) kc_X7_210 dX7_ask_31 rfl ?_
        refine aw_iret rfl dX7_ask_33 ?_
        exact fin_c hq am_fr0 (show sp_ask 2 k = (-1000000011) from (by unfold sp_ask; first | rfl | (simp only [wif_t hw1, wif_t hw4, wif_same, ite_self]; done) | (simp only [wif_t hw1, wif_t hw4, wif_same, ite_self]; rfl) | (simp [wif_t hw1, wif_t hw4, wif_same]; done)))
      · refine aw_re (S' := [.int 0]) rfl ?_
        refine aw_if_ne (npc := 14) (tgt := 17) dX7_ask_11 rfl (by decide) (fun hc => absurd (by decide) hc) (fun _ => ?_)
        refine aw_ldc (npc := 16) kc_X7_78 dX7_ask_14 rfl ?_
        refine aw_iret rfl dX7_ask_16 ?_
        exact fin_c hq am_fr0 (show sp_ask 2 k = (-1000000001) from (by unfold sp_ask; first | rfl | (simp only [wif_t hw1, wif_f hw4, wif_same, ite_self]; done) | (simp only [wif_t hw1, wif_f hw4, wif_same, ite_self]; rfl) | (simp [wif_t hw1, wif_f hw4, wif_same]; done)))
    · refine aw_re (S' := [.int 1]) rfl ?_
      refine aw_if_eq (npc := 7) (tgt := 14) dX7_ask_4 rfl (by decide) (fun hc => absurd hc (by decide)) (fun _ => ?_)
      refine aw_iload_n (npc := 8) rfl dX7_ask_7 rfl ?_
      refine aw_callS (npc := 11) (N := mX7_isKind) (mc := 0) (ms := 0) (A := [.int k]) (S := []) (L0 := [some (.int k)]) dX7_ask_8 rfl km_X7_isKind kk_X7_67 rfl ⟨rfl, by decide⟩ rfl (Nat.le_of_ble_eq_true rfl) (Nat.zero_add _) (Nat.zero_add _) rfl ?_
      refine c_X7_isKind (fun hw5 => ?_) (fun hw5 => ?_)
      · refine aw_re (S' := [.int 1]) rfl ?_
        refine aw_if_ne (npc := 14) (tgt := 17) dX7_ask_11 rfl (by decide) (fun _ => ?_) (fun hc => absurd hc (by decide))
        refine aw_aload_n (npc := 18) rfl dX7_ask_17 rfl ?_
        refine aw_get (npc := 21) dX7_ask_18 rfl kf_X7_53 f0 rfl ?_
        refine aw_iload_n (npc := 22) rfl dX7_ask_21 rfl ?_
        refine aw_aald (npc := 23) (j := 3) dX7_ask_22 rfl (by decide) f44 ⟨by decide, by decide⟩ rfl ?_
        refine aw_astore_n (npc := 24) (L' := [some (.ref 0), some (.int 3), some (.int k), some (.ref 63)]) dX7_ask_23 rfl (by decide) rfl rfl ?_
        refine aw_aload_n (npc := 25) rfl dX7_ask_24 rfl ?_
        refine aw_get (npc := 28) dX7_ask_25 rfl kf_X7_302 f63 rfl ?_
        refine aw_if_ne (npc := 31) (tgt := 34) dX7_ask_28 rfl (by decide) (fun hc => absurd (by decide) hc) (fun _ => ?_)
        refine aw_ldc (npc := 33) kc_X7_210 dX7_ask_31 rfl ?_
        refine aw_iret rfl dX7_ask_33 ?_
        exact fin_c hq am_fr0 (show sp_ask 3 k = (-1000000011) from (by unfold sp_ask; first | rfl | (simp only [wif_t hw1, wif_t hw5, wif_same, ite_self]; done) | (simp only [wif_t hw1, wif_t hw5, wif_same, ite_self]; rfl) | (simp [wif_t hw1, wif_t hw5, wif_same]; done)))
      · refine aw_re (S' := [.int 0]) rfl ?_
        refine aw_if_ne (npc := 14) (tgt := 17) dX7_ask_11 rfl (by decide) (fun hc => absurd (by decide) hc) (fun _ => ?_)
        refine aw_ldc (npc := 16) kc_X7_78 dX7_ask_14 rfl ?_
        refine aw_iret rfl dX7_ask_16 ?_
        exact fin_c hq am_fr0 (show sp_ask 3 k = (-1000000001) from (by unfold sp_ask; first | rfl | (simp only [wif_t hw1, wif_f hw5, wif_same, ite_self]; done) | (simp only [wif_t hw1, wif_f hw5, wif_same, ite_self]; rfl) | (simp [wif_t hw1, wif_f hw5, wif_same]; done)))
    · refine aw_re (S' := [.int 1]) rfl ?_
      refine aw_if_eq (npc := 7) (tgt := 14) dX7_ask_4 rfl (by decide) (fun hc => absurd hc (by decide)) (fun _ => ?_)
      refine aw_iload_n (npc := 8) rfl dX7_ask_7 rfl ?_
      refine aw_callS (npc := 11) (N := mX7_isKind) (mc := 0) (ms := 0) (A := [.int k]) (S := []) (L0 := [some (.int k)]) dX7_ask_8 rfl km_X7_isKind kk_X7_67 rfl ⟨rfl, by decide⟩ rfl (Nat.le_of_ble_eq_true rfl) (Nat.zero_add _) (Nat.zero_add _) rfl ?_
      refine c_X7_isKind (fun hw6 => ?_) (fun hw6 => ?_)
      · refine aw_re (S' := [.int 1]) rfl ?_
        refine aw_if_ne (npc := 14) (tgt := 17) dX7_ask_11 rfl (by decide) (fun _ => ?_) (fun hc => absurd hc (by decide))
        refine aw_aload_n (npc := 18) rfl dX7_ask_17 rfl ?_
        refine aw_get (npc := 21) dX7_ask_18 rfl kf_X7_53 f0 rfl ?_
        refine aw_iload_n (npc := 22) rfl dX7_ask_21 rfl ?_
        refine aw_aald (npc := 23) (j := 4) dX7_ask_22 rfl (by decide) f44 ⟨by decide, by decide⟩ rfl ?_
        refine aw_astore_n (npc := 24) (L' := [some (.ref 0), some (.int 4), some (.int k), some (.ref 66)]) dX7_ask_23 rfl (by decide) rfl rfl ?_
        refine aw_aload_n (npc := 25) rfl dX7_ask_24 rfl ?_
        refine aw_get (npc := 28) dX7_ask_25 rfl kf_X7_302 f66 rfl ?_
        refine aw_if_ne (npc := 31) (tgt := 34) dX7_ask_28 rfl (by decide) (fun hc => absurd (by decide) hc) (fun _ => ?_)
        refine aw_ldc (npc := 33) kc_X7_210 dX7_ask_31 rfl ?_
        refine aw_iret rfl dX7_ask_33 ?_
        exact fin_c hq am_fr0 (show sp_ask 4 k = (-1000000011) from (by unfold sp_ask; first | rfl | (simp only [wif_t hw1, wif_t hw6, wif_same, ite_self]; done) | (simp only [wif_t hw1, wif_t hw6, wif_same, ite_self]; rfl) | (simp [wif_t hw1, wif_t hw6, wif_same]; done)))
      · refine aw_re (S' := [.int 0]) rfl ?_
        refine aw_if_ne (npc := 14) (tgt := 17) dX7_ask_11 rfl (by decide) (fun hc => absurd (by decide) hc) (fun _ => ?_)
        refine aw_ldc (npc := 16) kc_X7_78 dX7_ask_14 rfl ?_
        refine aw_iret rfl dX7_ask_16 ?_
        exact fin_c hq am_fr0 (show sp_ask 4 k = (-1000000001) from (by unfold sp_ask; first | rfl | (simp only [wif_t hw1, wif_f hw6, wif_same, ite_self]; done) | (simp only [wif_t hw1, wif_f hw6, wif_same, ite_self]; rfl) | (simp [wif_t hw1, wif_f hw6, wif_same]; done)))
  · refine aw_re (S' := [.int 0]) rfl ?_
    refine aw_if_eq (npc := 7) (tgt := 14) dX7_ask_4 rfl (by decide) (fun _ => ?_) (fun hc => absurd (by decide) hc)
    refine aw_ldc (npc := 16) kc_X7_78 dX7_ask_14 rfl ?_
    refine aw_iret rfl dX7_ask_16 ?_
    exact fin_c hq am_fr0 (show sp_ask s k = (-1000000001) from (by unfold sp_ask; first | rfl | (simp only [wif_f hw1, wif_same, ite_self]; done) | (simp only [wif_f hw1, wif_same, ite_self]; rfl) | (simp [wif_f hw1, wif_same]; done)))
set_option maxHeartbeats 40000000 in
set_option maxRecDepth 100000 in
theorem p_X8_ask {X : List Int32} {d rc rs : Nat} {h : am_H} {Q : am_Q} {s : Int32} {k : Int32} (F : f0_X8 h) (hq : ∀ n9 h9, Q (some (.int (sp_ask s k))) n9 h9) : AW X mX8_ask (d + 12) rc rs 0 [some (.ref 69), some (.int s), some (.int k)] [] 92 h Q := by
  obtain ⟨g69, -, -, -, -, -, -, -, -, -, -, -, -, -, -, -, -, g86, -, -, -, -, -⟩ := F
  refine aw_iload_n (npc := 1) rfl dX8_ask_0 rfl ?_
  refine aw_callS (npc := 4) (N := mX8_isSlot) (mc := 0) (ms := 0) (A := [.int s]) (S := []) (L0 := [some (.int s)]) dX8_ask_1 rfl km_X8_isSlot kk_X8_262 rfl ⟨rfl, by decide⟩ rfl (Nat.le_of_ble_eq_true rfl) (Nat.zero_add _) (Nat.zero_add _) rfl ?_
  refine c_X8_isSlot (fun hw1 => ?_) (fun hw1 => ?_)
  · rcases wi_c0_4 hw1 with rfl | rfl | rfl | rfl | rfl
    · refine aw_re (S' := [.int 1]) rfl ?_
      refine aw_if_eq (npc := 7) (tgt := 16) dX8_ask_4 rfl (by decide) (fun hc => absurd hc (by decide)) (fun _ => ?_)
      refine aw_iload_n (npc := 8) rfl dX8_ask_7 rfl ?_
      refine aw_iconst (npc := 9) (v := 0) (by decide) dX8_ask_8 rfl ?_
      refine aw_iconst (npc := 10) (v := 5) (by decide) dX8_ask_9 rfl ?_
      refine aw_callS (npc := 13) (N := mX8_in) (mc := 0) (ms := 0) (A := [.int k, .int 0, .int 5]) (S := []) (L0 := [some (.int k), some (.int 0), some (.int 5)]) dX8_ask_10 rfl km_X8_in kk_X8_83 rfl ⟨rfl, by decide⟩ rfl (Nat.le_of_ble_eq_true rfl) (Nat.zero_add _) (Nat.zero_add _) rfl ?_
      refine c_X8_in (fun hw2 => ?_) (fun hw2 => ?_)
      · refine aw_re (S' := [.int 1]) rfl ?_
        refine aw_if_ne (npc := 16) (tgt := 19) dX8_ask_13 rfl (by decide) (fun _ => ?_) (fun hc => absurd hc (by decide))
        refine aw_aload_n (npc := 20) rfl dX8_ask_19 rfl ?_
        refine aw_get (npc := 23) dX8_ask_20 rfl kf_X8_64 g69 rfl ?_
        refine aw_iload_n (npc := 24) rfl dX8_ask_23 rfl ?_
        refine aw_iald (npc := 25) (x := 0) (j := 0) dX8_ask_24 rfl g86 ⟨by decide, by decide⟩ rfl ?_
        refine aw_if_ne (npc := 28) (tgt := 31) dX8_ask_25 rfl (by decide) (fun hc => absurd (by decide) hc) (fun _ => ?_)
        refine aw_ldc (npc := 30) kc_X8_187 dX8_ask_28 rfl ?_
        refine aw_iret rfl dX8_ask_30 ?_
        exact fin_m hq (show sp_ask 0 k = (-1000000011) from (by unfold sp_ask; first | rfl | (simp only [wif_t hw1, wif_t hw2, wif_same, ite_self]; done) | (simp only [wif_t hw1, wif_t hw2, wif_same, ite_self]; rfl) | (simp [wif_t hw1, wif_t hw2, wif_same]; done)))
      · refine aw_re (S' := [.int 0]) rfl ?_
        refine aw_if_ne (npc := 16) (tgt := 19) dX8_ask_13 rfl (by decide) (fun hc => absurd (by decide) hc) (fun _ => ?_)
        refine aw_ldc (npc := 18) kc_X8_91 dX8_ask_16 rfl ?_
        refine aw_iret rfl dX8_ask_18 ?_
        exact fin_m hq (show sp_ask 0 k = (-1000000001) from (by unfold sp_ask; first | rfl | (simp only [wif_t hw1, wif_f hw2, wif_same, ite_self]; done) | (simp only [wif_t hw1, wif_f hw2, wif_same, ite_self]; rfl) | (simp [wif_t hw1, wif_f hw2, wif_same]; done)))
    · refine aw_re (S' := [.int 1]) rfl ?_
      refine aw_if_eq (npc := 7) (tgt := 16) dX8_ask_4 rfl (by decide) (fun hc => absurd hc (by decide)) (fun _ => ?_)
      refine aw_iload_n (npc := 8) rfl dX8_ask_7 rfl ?_
      refine aw_iconst (npc := 9) (v := 0) (by decide) dX8_ask_8 rfl ?_
      refine aw_iconst (npc := 10) (v := 5) (by decide) dX8_ask_9 rfl ?_
      refine aw_callS (npc := 13) (N := mX8_in) (mc := 0) (ms := 0) (A := [.int k, .int 0, .int 5]) (S := []) (L0 := [some (.int k), some (.int 0), some (.int 5)]) dX8_ask_10 rfl km_X8_in kk_X8_83 rfl ⟨rfl, by decide⟩ rfl (Nat.le_of_ble_eq_true rfl) (Nat.zero_add _) (Nat.zero_add _) rfl ?_
      refine c_X8_in (fun hw3 => ?_) (fun hw3 => ?_)
      · refine aw_re (S' := [.int 1]) rfl ?_
        refine aw_if_ne (npc := 16) (tgt := 19) dX8_ask_13 rfl (by decide) (fun _ => ?_) (fun hc => absurd hc (by decide))
        refine aw_aload_n (npc := 20) rfl dX8_ask_19 rfl ?_
        refine aw_get (npc := 23) dX8_ask_20 rfl kf_X8_64 g69 rfl ?_
        refine aw_iload_n (npc := 24) rfl dX8_ask_23 rfl ?_
        refine aw_iald (npc := 25) (x := 0) (j := 1) dX8_ask_24 rfl g86 ⟨by decide, by decide⟩ rfl ?_
        refine aw_if_ne (npc := 28) (tgt := 31) dX8_ask_25 rfl (by decide) (fun hc => absurd (by decide) hc) (fun _ => ?_)
        refine aw_ldc (npc := 30) kc_X8_187 dX8_ask_28 rfl ?_
        refine aw_iret rfl dX8_ask_30 ?_
        exact fin_m hq (show sp_ask 1 k = (-1000000011) from (by unfold sp_ask; first | rfl | (simp only [wif_t hw1, wif_t hw3, wif_same, ite_self]; done) | (simp only [wif_t hw1, wif_t hw3, wif_same, ite_self]; rfl) | (simp [wif_t hw1, wif_t hw3, wif_same]; done)))
      · refine aw_re (S' := [.int 0]) rfl ?_
        refine aw_if_ne (npc := 16) (tgt := 19) dX8_ask_13 rfl (by decide) (fun hc => absurd (by decide) hc) (fun _ => ?_)
        refine aw_ldc (npc := 18) kc_X8_91 dX8_ask_16 rfl ?_
        refine aw_iret rfl dX8_ask_18 ?_
        exact fin_m hq (show sp_ask 1 k = (-1000000001) from (by unfold sp_ask; first | rfl | (simp only [wif_t hw1, wif_f hw3, wif_same, ite_self]; done) | (simp only [wif_t hw1, wif_f hw3, wif_same, ite_self]; rfl) | (simp [wif_t hw1, wif_f hw3, wif_same]; done)))
    · refine aw_re (S' := [.int 1]) rfl ?_
      refine aw_if_eq (npc := 7) (tgt := 16) dX8_ask_4 rfl (by decide) (fun hc => absurd hc (by decide)) (fun _ => ?_)
      refine aw_iload_n (npc := 8) rfl dX8_ask_7 rfl ?_
      refine aw_iconst (npc := 9) (v := 0) (by decide) dX8_ask_8 rfl ?_
      refine aw_iconst (npc := 10) (v := 5) (by decide) dX8_ask_9 rfl ?_
      refine aw_callS (npc := 13) (N := mX8_in) (mc := 0) (ms := 0) (A := [.int k, .int 0, .int 5]) (S := []) (L0 := [some (.int k), some (.int 0), some (.int 5)]) dX8_ask_10 rfl km_X8_in kk_X8_83 rfl ⟨rfl, by decide⟩ rfl (Nat.le_of_ble_eq_true rfl) (Nat.zero_add _) (Nat.zero_add _) rfl ?_
      refine c_X8_in (fun hw4 => ?_) (fun hw4 => ?_)
      · refine aw_re (S' := [.int 1]) rfl ?_
        refine aw_if_ne (npc := 16) (tgt := 19) dX8_ask_13 rfl (by decide) (fun _ => ?_) (fun hc => absurd hc (by decide))
        refine aw_aload_n (npc := 20) rfl dX8_ask_19 rfl ?_
        refine aw_get (npc := 23) dX8_ask_20 rfl kf_X8_64 g69 rfl ?_
        refine aw_iload_n (npc := 24) rfl dX8_ask_23 rfl ?_
        refine aw_iald (npc := 25) (x := 0) (j := 2) dX8_ask_24 rfl g86 ⟨by decide, by decide⟩ rfl ?_
        refine aw_if_ne (npc := 28) (tgt := 31) dX8_ask_25 rfl (by decide) (fun hc => absurd (by decide) hc) (fun _ => ?_)
        refine aw_ldc (npc := 30) kc_X8_187 dX8_ask_28 rfl ?_
        refine aw_iret rfl dX8_ask_30 ?_
        exact fin_m hq (show sp_ask 2 k = (-1000000011) from (by unfold sp_ask; first | rfl | (simp only [wif_t hw1, wif_t hw4, wif_same, ite_self]; done) | (simp only [wif_t hw1, wif_t hw4, wif_same, ite_self]; rfl) | (simp [wif_t hw1, wif_t hw4, wif_same]; done)))
      · refine aw_re (S' := [.int 0]) rfl ?_
        refine aw_if_ne (npc := 16) (tgt := 19) dX8_ask_13 rfl (by decide) (fun hc => absurd (by decide) hc) (fun _ => ?_)
        refine aw_ldc (npc := 18) kc_X8_91 dX8_ask_16 rfl ?_
        refine aw_iret rfl dX8_ask_18 ?_
        exact fin_m hq (show sp_ask 2 k = (-1000000001) from (by unfold sp_ask; first | rfl | (simp only [wif_t hw1, wif_f hw4, wif_same, ite_self]; done) | (simp only [wif_t hw1, wif_f hw4, wif_same, ite_self]; rfl) | (simp [wif_t hw1, wif_f hw4, wif_same]; done)))
    · refine aw_re (S' := [.int 1]) rfl ?_
      refine aw_if_eq (npc := 7) (tgt := 16) dX8_ask_4 rfl (by decide) (fun hc => absurd hc (by decide)) (fun _ => ?_)
      refine aw_iload_n (npc := 8) rfl dX8_ask_7 rfl ?_
      refine aw_iconst (npc := 9) (v := 0) (by decide) dX8_ask_8 rfl ?_
      refine aw_iconst (npc := 10) (v := 5) (by decide) dX8_ask_9 rfl ?_
      refine aw_callS (npc := 13) (N := mX8_in) (mc := 0) (ms := 0) (A := [.int k, .int 0, .int 5]) (S := []) (L0 := [some (.int k), some (.int 0), some (.int 5)]) dX8_ask_10 rfl km_X8_in kk_X8_83 rfl ⟨rfl, by decide⟩ rfl (Nat.le_of_ble_eq_true rfl) (Nat.zero_add _) (Nat.zero_add _) rfl ?_
      refine c_X8_in (fun hw5 => ?_) (fun hw5 => ?_)
      · refine aw_re (S' := [.int 1]) rfl ?_
        refine aw_if_ne (npc := 16) (tgt := 19) dX8_ask_13 rfl (by decide) (fun _ => ?_) (fun hc => absurd hc (by decide))
        refine aw_aload_n (npc := 20) rfl dX8_ask_19 rfl ?_
        refine aw_get (npc := 23) dX8_ask_20 rfl kf_X8_64 g69 rfl ?_
        refine aw_iload_n (npc := 24) rfl dX8_ask_23 rfl ?_
        refine aw_iald (npc := 25) (x := 0) (j := 3) dX8_ask_24 rfl g86 ⟨by decide, by decide⟩ rfl ?_
        refine aw_if_ne (npc := 28) (tgt := 31) dX8_ask_25 rfl (by decide) (fun hc => absurd (by decide) hc) (fun _ => ?_)
        refine aw_ldc (npc := 30) kc_X8_187 dX8_ask_28 rfl ?_
        refine aw_iret rfl dX8_ask_30 ?_
        exact fin_m hq (show sp_ask 3 k = (-1000000011) from (by unfold sp_ask; first | rfl | (simp only [wif_t hw1, wif_t hw5, wif_same, ite_self]; done) | (simp only [wif_t hw1, wif_t hw5, wif_same, ite_self]; rfl) | (simp [wif_t hw1, wif_t hw5, wif_same]; done)))
      · refine aw_re (S' := [.int 0]) rfl ?_
        refine aw_if_ne (npc := 16) (tgt := 19) dX8_ask_13 rfl (by decide) (fun hc => absurd (by decide) hc) (fun _ => ?_)
        refine aw_ldc (npc := 18) kc_X8_91 dX8_ask_16 rfl ?_
        refine aw_iret rfl dX8_ask_18 ?_
        exact fin_m hq (show sp_ask 3 k = (-1000000001) from (by unfold sp_ask; first | rfl | (simp only [wif_t hw1, wif_f hw5, wif_same, ite_self]; done) | (simp only [wif_t hw1, wif_f hw5, wif_same, ite_self]; rfl) | (simp [wif_t hw1, wif_f hw5, wif_same]; done)))
    · refine aw_re (S' := [.int 1]) rfl ?_
      refine aw_if_eq (npc := 7) (tgt := 16) dX8_ask_4 rfl (by decide) (fun hc => absurd hc (by decide)) (fun _ => ?_)
      refine aw_iload_n (npc := 8) rfl dX8_ask_7 rfl ?_
      refine aw_iconst (npc := 9) (v := 0) (by decide) dX8_ask_8 rfl ?_
      refine aw_iconst (npc := 10) (v := 5) (by decide) dX8_ask_9 rfl ?_
      refine aw_callS (npc := 13) (N := mX8_in) (mc := 0) (ms := 0) (A := [.int k, .int 0, .int 5]) (S := []) (L0 := [some (.int k), some (.int 0), some (.int 5)]) dX8_ask_10 rfl km_X8_in kk_X8_83 rfl ⟨rfl, by decide⟩ rfl (Nat.le_of_ble_eq_true rfl) (Nat.zero_add _) (Nat.zero_add _) rfl ?_
      refine c_X8_in (fun hw6 => ?_) (fun hw6 => ?_)
      · refine aw_re (S' := [.int 1]) rfl ?_
        refine aw_if_ne (npc := 16) (tgt := 19) dX8_ask_13 rfl (by decide) (fun _ => ?_) (fun hc => absurd hc (by decide))
        refine aw_aload_n (npc := 20) rfl dX8_ask_19 rfl ?_
        refine aw_get (npc := 23) dX8_ask_20 rfl kf_X8_64 g69 rfl ?_
        refine aw_iload_n (npc := 24) rfl dX8_ask_23 rfl ?_
        refine aw_iald (npc := 25) (x := 0) (j := 4) dX8_ask_24 rfl g86 ⟨by decide, by decide⟩ rfl ?_
        refine aw_if_ne (npc := 28) (tgt := 31) dX8_ask_25 rfl (by decide) (fun hc => absurd (by decide) hc) (fun _ => ?_)
        refine aw_ldc (npc := 30) kc_X8_187 dX8_ask_28 rfl ?_
        refine aw_iret rfl dX8_ask_30 ?_
        exact fin_m hq (show sp_ask 4 k = (-1000000011) from (by unfold sp_ask; first | rfl | (simp only [wif_t hw1, wif_t hw6, wif_same, ite_self]; done) | (simp only [wif_t hw1, wif_t hw6, wif_same, ite_self]; rfl) | (simp [wif_t hw1, wif_t hw6, wif_same]; done)))
      · refine aw_re (S' := [.int 0]) rfl ?_
        refine aw_if_ne (npc := 16) (tgt := 19) dX8_ask_13 rfl (by decide) (fun hc => absurd (by decide) hc) (fun _ => ?_)
        refine aw_ldc (npc := 18) kc_X8_91 dX8_ask_16 rfl ?_
        refine aw_iret rfl dX8_ask_18 ?_
        exact fin_m hq (show sp_ask 4 k = (-1000000001) from (by unfold sp_ask; first | rfl | (simp only [wif_t hw1, wif_f hw6, wif_same, ite_self]; done) | (simp only [wif_t hw1, wif_f hw6, wif_same, ite_self]; rfl) | (simp [wif_t hw1, wif_f hw6, wif_same]; done)))
  · refine aw_re (S' := [.int 0]) rfl ?_
    refine aw_if_eq (npc := 7) (tgt := 16) dX8_ask_4 rfl (by decide) (fun _ => ?_) (fun hc => absurd (by decide) hc)
    refine aw_ldc (npc := 18) kc_X8_91 dX8_ask_16 rfl ?_
    refine aw_iret rfl dX8_ask_18 ?_
    exact fin_m hq (show sp_ask s k = (-1000000001) from (by unfold sp_ask; first | rfl | (simp only [wif_f hw1, wif_same, ite_self]; done) | (simp only [wif_f hw1, wif_same, ite_self]; rfl) | (simp [wif_f hw1, wif_same]; done)))
noncomputable def sp_item (s : Int32) (q : Int32) : Int32 := wif s 0 4 ((-1000000011)) (-1000000001)
set_option maxHeartbeats 40000000 in
set_option maxRecDepth 100000 in
theorem p_X7_item {X : List Int32} {d rc rs : Nat} {h : am_H} {Q : am_Q} {s : Int32} {q : Int32} (F : f0_X7 h) (hq : ∀ h9, am_fr 69 h9 h → Q (some (.int (sp_item s q))) 92 h9) : AW X mX7_item (d + 12) rc rs 0 [some (.ref 0), some (.int s), some (.int q), none] [] 92 h Q := by
  obtain ⟨f0, -, -, -, -, -, -, -, -, -, -, -, -, -, -, -, -, -, -, -, -, -, -, -, -, -, -, -, -, -, -, -, -, -, -, -, -, -, -, -, -, -, -, -, f44, -, -, -, -, -, -, -, -, -, f54, -, -, f57, -, -, f60, -, -, f63, -, -, f66, -, -⟩ := F
  refine aw_iload_n (npc := 1) rfl dX7_item_0 rfl ?_
  refine aw_callS (npc := 4) (N := mX7_isSlot) (mc := 0) (ms := 0) (A := [.int s]) (S := []) (L0 := [some (.int s)]) dX7_item_1 rfl km_X7_isSlot kk_X7_299 rfl ⟨rfl, by decide⟩ rfl (Nat.le_of_ble_eq_true rfl) (Nat.zero_add _) (Nat.zero_add _) rfl ?_
  refine c_X7_isSlot (fun hw1 => ?_) (fun hw1 => ?_)
  · rcases wi_c0_4 hw1 with rfl | rfl | rfl | rfl | rfl
    · refine aw_re (S' := [.int 1]) rfl ?_
      refine aw_if_ne (npc := 7) (tgt := 10) dX7_item_4 rfl (by decide) (fun _ => ?_) (fun hc => absurd hc (by decide))
      refine aw_aload_n (npc := 11) rfl dX7_item_10 rfl ?_
      refine aw_get (npc := 14) dX7_item_11 rfl kf_X7_53 f0 rfl ?_
      refine aw_iload_n (npc := 15) rfl dX7_item_14 rfl ?_
      refine aw_aald (npc := 16) (j := 0) dX7_item_15 rfl (by decide) f44 ⟨by decide, by decide⟩ rfl ?_
      refine aw_astore_n (npc := 17) (L' := [some (.ref 0), some (.int 0), some (.int q), some (.ref 54)]) dX7_item_16 rfl (by decide) rfl rfl ?_
      refine aw_aload_n (npc := 18) rfl dX7_item_17 rfl ?_
      refine aw_get (npc := 21) dX7_item_18 rfl kf_X7_302 f54 rfl ?_
      refine aw_if_ne (npc := 24) (tgt := 27) dX7_item_21 rfl (by decide) (fun hc => absurd (by decide) hc) (fun _ => ?_)
      refine aw_ldc (npc := 26) kc_X7_210 dX7_item_24 rfl ?_
      refine aw_iret rfl dX7_item_26 ?_
      exact fin_c hq am_fr0 (show sp_item 0 q = (-1000000011) from (by unfold sp_item; first | rfl | (simp only [wif_t hw1, wif_same, ite_self]; done) | (simp only [wif_t hw1, wif_same, ite_self]; rfl) | (simp [wif_t hw1, wif_same]; done)))
    · refine aw_re (S' := [.int 1]) rfl ?_
      refine aw_if_ne (npc := 7) (tgt := 10) dX7_item_4 rfl (by decide) (fun _ => ?_) (fun hc => absurd hc (by decide))
      refine aw_aload_n (npc := 11) rfl dX7_item_10 rfl ?_
      refine aw_get (npc := 14) dX7_item_11 rfl kf_X7_53 f0 rfl ?_
      refine aw_iload_n (npc := 15) rfl dX7_item_14 rfl ?_
      refine aw_aald (npc := 16) (j := 1) dX7_item_15 rfl (by decide) f44 ⟨by decide, by decide⟩ rfl ?_
      refine aw_astore_n (npc := 17) (L' := [some (.ref 0), some (.int 1), some (.int q), some (.ref 57)]) dX7_item_16 rfl (by decide) rfl rfl ?_
      refine aw_aload_n (npc := 18) rfl dX7_item_17 rfl ?_
      refine aw_get (npc := 21) dX7_item_18 rfl kf_X7_302 f57 rfl ?_
      refine aw_if_ne (npc := 24) (tgt := 27) dX7_item_21 rfl (by decide) (fun hc => absurd (by decide) hc) (fun _ => ?_)
      refine aw_ldc (npc := 26) kc_X7_210 dX7_item_24 rfl ?_
      refine aw_iret rfl dX7_item_26 ?_
      exact fin_c hq am_fr0 (show sp_item 1 q = (-1000000011) from (by unfold sp_item; first | rfl | (simp only [wif_t hw1, wif_same, ite_self]; done) | (simp only [wif_t hw1, wif_same, ite_self]; rfl) | (simp [wif_t hw1, wif_same]; done)))
    · refine aw_re (S' := [.int 1]) rfl ?_
      refine aw_if_ne (npc := 7) (tgt := 10) dX7_item_4 rfl (by decide) (fun _ => ?_) (fun hc => absurd hc (by decide))
      refine aw_aload_n (npc := 11) rfl dX7_item_10 rfl ?_
      refine aw_get (npc := 14) dX7_item_11 rfl kf_X7_53 f0 rfl ?_
      refine aw_iload_n (npc := 15) rfl dX7_item_14 rfl ?_
      refine aw_aald (npc := 16) (j := 2) dX7_item_15 rfl (by decide) f44 ⟨by decide, by decide⟩ rfl ?_
      refine aw_astore_n (npc := 17) (L' := [some (.ref 0), some (.int 2), some (.int q), some (.ref 60)]) dX7_item_16 rfl (by decide) rfl rfl ?_
      refine aw_aload_n (npc := 18) rfl dX7_item_17 rfl ?_
      refine aw_get (npc := 21) dX7_item_18 rfl kf_X7_302 f60 rfl ?_
      refine aw_if_ne (npc := 24) (tgt := 27) dX7_item_21 rfl (by decide) (fun hc => absurd (by decide) hc) (fun _ => ?_)
      refine aw_ldc (npc := 26) kc_X7_210 dX7_item_24 rfl ?_
      refine aw_iret rfl dX7_item_26 ?_
      exact fin_c hq am_fr0 (show sp_item 2 q = (-1000000011) from (by unfold sp_item; first | rfl | (simp only [wif_t hw1, wif_same, ite_self]; done) | (simp only [wif_t hw1, wif_same, ite_self]; rfl) | (simp [wif_t hw1, wif_same]; done)))
    · refine aw_re (S' := [.int 1]) rfl ?_
      refine aw_if_ne (npc := 7) (tgt := 10) dX7_item_4 rfl (by decide) (fun _ => ?_) (fun hc => absurd hc (by decide))
      refine aw_aload_n (npc := 11) rfl dX7_item_10 rfl ?_
      refine aw_get (npc := 14) dX7_item_11 rfl kf_X7_53 f0 rfl ?_
      refine aw_iload_n (npc := 15) rfl dX7_item_14 rfl ?_
      refine aw_aald (npc := 16) (j := 3) dX7_item_15 rfl (by decide) f44 ⟨by decide, by decide⟩ rfl ?_
      refine aw_astore_n (npc := 17) (L' := [some (.ref 0), some (.int 3), some (.int q), some (.ref 63)]) dX7_item_16 rfl (by decide) rfl rfl ?_
      refine aw_aload_n (npc := 18) rfl dX7_item_17 rfl ?_
      refine aw_get (npc := 21) dX7_item_18 rfl kf_X7_302 f63 rfl ?_
      refine aw_if_ne (npc := 24) (tgt := 27) dX7_item_21 rfl (by decide) (fun hc => absurd (by decide) hc) (fun _ => ?_)
      refine aw_ldc (npc := 26) kc_X7_210 dX7_item_24 rfl ?_
      refine aw_iret rfl dX7_item_26 ?_
      exact fin_c hq am_fr0 (show sp_item 3 q = (-1000000011) from (by unfold sp_item; first | rfl | (simp only [wif_t hw1, wif_same, ite_self]; done) | (simp only [wif_t hw1, wif_same, ite_self]; rfl) | (simp [wif_t hw1, wif_same]; done)))
    · refine aw_re (S' := [.int 1]) rfl ?_
      refine aw_if_ne (npc := 7) (tgt := 10) dX7_item_4 rfl (by decide) (fun _ => ?_) (fun hc => absurd hc (by decide))
      refine aw_aload_n (npc := 11) rfl dX7_item_10 rfl ?_
      refine aw_get (npc := 14) dX7_item_11 rfl kf_X7_53 f0 rfl ?_
      refine aw_iload_n (npc := 15) rfl dX7_item_14 rfl ?_
      refine aw_aald (npc := 16) (j := 4) dX7_item_15 rfl (by decide) f44 ⟨by decide, by decide⟩ rfl ?_
      refine aw_astore_n (npc := 17) (L' := [some (.ref 0), some (.int 4), some (.int q), some (.ref 66)]) dX7_item_16 rfl (by decide) rfl rfl ?_
      refine aw_aload_n (npc := 18) rfl dX7_item_17 rfl ?_
      refine aw_get (npc := 21) dX7_item_18 rfl kf_X7_302 f66 rfl ?_
      refine aw_if_ne (npc := 24) (tgt := 27) dX7_item_21 rfl (by decide) (fun hc => absurd (by decide) hc) (fun _ => ?_)
      refine aw_ldc (npc := 26) kc_X7_210 dX7_item_24 rfl ?_
      refine aw_iret rfl dX7_item_26 ?_
      exact fin_c hq am_fr0 (show sp_item 4 q = (-1000000011) from (by unfold sp_item; first | rfl | (simp only [wif_t hw1, wif_same, ite_self]; done) | (simp only [wif_t hw1, wif_same, ite_self]; rfl) | (simp [wif_t hw1, wif_same]; done)))
  · refine aw_re (S' := [.int 0]) rfl ?_
    refine aw_if_ne (npc := 7) (tgt := 10) dX7_item_4 rfl (by decide) (fun hc => absurd (by decide) hc) (fun _ => ?_)
    refine aw_ldc (npc := 9) kc_X7_78 dX7_item_7 rfl ?_
    refine aw_iret rfl dX7_item_9 ?_
    exact fin_c hq am_fr0 (show sp_item s q = (-1000000001) from (by unfold sp_item; first | rfl | (simp only [wif_f hw1, wif_same, ite_self]; done) | (simp only [wif_f hw1, wif_same, ite_self]; rfl) | (simp [wif_f hw1, wif_same]; done)))
set_option maxHeartbeats 40000000 in
set_option maxRecDepth 100000 in
theorem p_X8_item {X : List Int32} {d rc rs : Nat} {h : am_H} {Q : am_Q} {s : Int32} {q : Int32} (F : f0_X8 h) (hq : ∀ n9 h9, Q (some (.int (sp_item s q))) n9 h9) : AW X mX8_item (d + 12) rc rs 0 [some (.ref 69), some (.int s), some (.int q), none] [] 92 h Q := by
  obtain ⟨g69, -, -, -, -, -, -, -, -, -, -, -, -, -, -, -, -, g86, -, -, -, -, -⟩ := F
  refine aw_iload_n (npc := 1) rfl dX8_item_0 rfl ?_
  refine aw_callS (npc := 4) (N := mX8_isSlot) (mc := 0) (ms := 0) (A := [.int s]) (S := []) (L0 := [some (.int s)]) dX8_item_1 rfl km_X8_isSlot kk_X8_262 rfl ⟨rfl, by decide⟩ rfl (Nat.le_of_ble_eq_true rfl) (Nat.zero_add _) (Nat.zero_add _) rfl ?_
  refine c_X8_isSlot (fun hw1 => ?_) (fun hw1 => ?_)
  · rcases wi_c0_4 hw1 with rfl | rfl | rfl | rfl | rfl
    · refine aw_re (S' := [.int 1]) rfl ?_
      refine aw_if_ne (npc := 7) (tgt := 10) dX8_item_4 rfl (by decide) (fun _ => ?_) (fun hc => absurd hc (by decide))
      refine aw_aload_n (npc := 11) rfl dX8_item_10 rfl ?_
      refine aw_get (npc := 14) dX8_item_11 rfl kf_X8_64 g69 rfl ?_
      refine aw_iload_n (npc := 15) rfl dX8_item_14 rfl ?_
      refine aw_iald (npc := 16) (x := 0) (j := 0) dX8_item_15 rfl g86 ⟨by decide, by decide⟩ rfl ?_
      refine aw_if_ne (npc := 19) (tgt := 22) dX8_item_16 rfl (by decide) (fun hc => absurd (by decide) hc) (fun _ => ?_)
      refine aw_ldc (npc := 21) kc_X8_187 dX8_item_19 rfl ?_
      refine aw_iret rfl dX8_item_21 ?_
      exact fin_m hq (show sp_item 0 q = (-1000000011) from (by unfold sp_item; first | rfl | (simp only [wif_t hw1, wif_same, ite_self]; done) | (simp only [wif_t hw1, wif_same, ite_self]; rfl) | (simp [wif_t hw1, wif_same]; done)))
    · refine aw_re (S' := [.int 1]) rfl ?_
      refine aw_if_ne (npc := 7) (tgt := 10) dX8_item_4 rfl (by decide) (fun _ => ?_) (fun hc => absurd hc (by decide))
      refine aw_aload_n (npc := 11) rfl dX8_item_10 rfl ?_
      refine aw_get (npc := 14) dX8_item_11 rfl kf_X8_64 g69 rfl ?_
      refine aw_iload_n (npc := 15) rfl dX8_item_14 rfl ?_
      refine aw_iald (npc := 16) (x := 0) (j := 1) dX8_item_15 rfl g86 ⟨by decide, by decide⟩ rfl ?_
      refine aw_if_ne (npc := 19) (tgt := 22) dX8_item_16 rfl (by decide) (fun hc => absurd (by decide) hc) (fun _ => ?_)
      refine aw_ldc (npc := 21) kc_X8_187 dX8_item_19 rfl ?_
      refine aw_iret rfl dX8_item_21 ?_
      exact fin_m hq (show sp_item 1 q = (-1000000011) from (by unfold sp_item; first | rfl | (simp only [wif_t hw1, wif_same, ite_self]; done) | (simp only [wif_t hw1, wif_same, ite_self]; rfl) | (simp [wif_t hw1, wif_same]; done)))
    · refine aw_re (S' := [.int 1]) rfl ?_
      refine aw_if_ne (npc := 7) (tgt := 10) dX8_item_4 rfl (by decide) (fun _ => ?_) (fun hc => absurd hc (by decide))
      refine aw_aload_n (npc := 11) rfl dX8_item_10 rfl ?_
      refine aw_get (npc := 14) dX8_item_11 rfl kf_X8_64 g69 rfl ?_
      refine aw_iload_n (npc := 15) rfl dX8_item_14 rfl ?_
      refine aw_iald (npc := 16) (x := 0) (j := 2) dX8_item_15 rfl g86 ⟨by decide, by decide⟩ rfl ?_
      refine aw_if_ne (npc := 19) (tgt := 22) dX8_item_16 rfl (by decide) (fun hc => absurd (by decide) hc) (fun _ => ?_)
      refine aw_ldc (npc := 21) kc_X8_187 dX8_item_19 rfl ?_
      refine aw_iret rfl dX8_item_21 ?_
      exact fin_m hq (show sp_item 2 q = (-1000000011) from (by unfold sp_item; first | rfl | (simp only [wif_t hw1, wif_same, ite_self]; done) | (simp only [wif_t hw1, wif_same, ite_self]; rfl) | (simp [wif_t hw1, wif_same]; done)))
    · refine aw_re (S' := [.int 1]) rfl ?_
      refine aw_if_ne (npc := 7) (tgt := 10) dX8_item_4 rfl (by decide) (fun _ => ?_) (fun hc => absurd hc (by decide))
      refine aw_aload_n (npc := 11) rfl dX8_item_10 rfl ?_
      refine aw_get (npc := 14) dX8_item_11 rfl kf_X8_64 g69 rfl ?_
      refine aw_iload_n (npc := 15) rfl dX8_item_14 rfl ?_
      refine aw_iald (npc := 16) (x := 0) (j := 3) dX8_item_15 rfl g86 ⟨by decide, by decide⟩ rfl ?_
      refine aw_if_ne (npc := 19) (tgt := 22) dX8_item_16 rfl (by decide) (fun hc => absurd (by decide) hc) (fun _ => ?_)
      refine aw_ldc (npc := 21) kc_X8_187 dX8_item_19 rfl ?_
      refine aw_iret rfl dX8_item_21 ?_
      exact fin_m hq (show sp_item 3 q = (-1000000011) from (by unfold sp_item; first | rfl | (simp only [wif_t hw1, wif_same, ite_self]; done) | (simp only [wif_t hw1, wif_same, ite_self]; rfl) | (simp [wif_t hw1, wif_same]; done)))
    · refine aw_re (S' := [.int 1]) rfl ?_
      refine aw_if_ne (npc := 7) (tgt := 10) dX8_item_4 rfl (by decide) (fun _ => ?_) (fun hc => absurd hc (by decide))
      refine aw_aload_n (npc := 11) rfl dX8_item_10 rfl ?_
      refine aw_get (npc := 14) dX8_item_11 rfl kf_X8_64 g69 rfl ?_
      refine aw_iload_n (npc := 15) rfl dX8_item_14 rfl ?_
      refine aw_iald (npc := 16) (x := 0) (j := 4) dX8_item_15 rfl g86 ⟨by decide, by decide⟩ rfl ?_
      refine aw_if_ne (npc := 19) (tgt := 22) dX8_item_16 rfl (by decide) (fun hc => absurd (by decide) hc) (fun _ => ?_)
      refine aw_ldc (npc := 21) kc_X8_187 dX8_item_19 rfl ?_
      refine aw_iret rfl dX8_item_21 ?_
      exact fin_m hq (show sp_item 4 q = (-1000000011) from (by unfold sp_item; first | rfl | (simp only [wif_t hw1, wif_same, ite_self]; done) | (simp only [wif_t hw1, wif_same, ite_self]; rfl) | (simp [wif_t hw1, wif_same]; done)))
  · refine aw_re (S' := [.int 0]) rfl ?_
    refine aw_if_ne (npc := 7) (tgt := 10) dX8_item_4 rfl (by decide) (fun hc => absurd (by decide) hc) (fun _ => ?_)
    refine aw_ldc (npc := 9) kc_X8_91 dX8_item_7 rfl ?_
    refine aw_iret rfl dX8_item_9 ?_
    exact fin_m hq (show sp_item s q = (-1000000001) from (by unfold sp_item; first | rfl | (simp only [wif_f hw1, wif_same, ite_self]; done) | (simp only [wif_f hw1, wif_same, ite_self]; rfl) | (simp [wif_f hw1, wif_same]; done)))
noncomputable def sp_rest (s : Int32) (q : Int32) : Int32 := wif s 0 4 ((-1000000011)) (-1000000001)
set_option maxHeartbeats 40000000 in
set_option maxRecDepth 100000 in
theorem p_X7_rest {X : List Int32} {d rc rs : Nat} {h : am_H} {Q : am_Q} {s : Int32} {q : Int32} (F : f0_X7 h) (hq : ∀ h9, am_fr 69 h9 h → Q (some (.int (sp_rest s q))) 92 h9) : AW X mX7_rest (d + 12) rc rs 0 [some (.ref 0), some (.int s), some (.int q), none] [] 92 h Q := by
  obtain ⟨f0, -, -, -, -, -, -, -, -, -, -, -, -, -, -, -, -, -, -, -, -, -, -, -, -, -, -, -, -, -, -, -, -, -, -, -, -, -, -, -, -, -, -, -, f44, -, -, -, -, -, -, -, -, -, f54, -, -, f57, -, -, f60, -, -, f63, -, -, f66, -, -⟩ := F
  refine aw_iload_n (npc := 1) rfl dX7_rest_0 rfl ?_
  refine aw_callS (npc := 4) (N := mX7_isSlot) (mc := 0) (ms := 0) (A := [.int s]) (S := []) (L0 := [some (.int s)]) dX7_rest_1 rfl km_X7_isSlot kk_X7_299 rfl ⟨rfl, by decide⟩ rfl (Nat.le_of_ble_eq_true rfl) (Nat.zero_add _) (Nat.zero_add _) rfl ?_
  refine c_X7_isSlot (fun hw1 => ?_) (fun hw1 => ?_)
  · rcases wi_c0_4 hw1 with rfl | rfl | rfl | rfl | rfl
    · refine aw_re (S' := [.int 1]) rfl ?_
      refine aw_if_ne (npc := 7) (tgt := 10) dX7_rest_4 rfl (by decide) (fun _ => ?_) (fun hc => absurd hc (by decide))
      refine aw_aload_n (npc := 11) rfl dX7_rest_10 rfl ?_
      refine aw_get (npc := 14) dX7_rest_11 rfl kf_X7_53 f0 rfl ?_
      refine aw_iload_n (npc := 15) rfl dX7_rest_14 rfl ?_
      refine aw_aald (npc := 16) (j := 0) dX7_rest_15 rfl (by decide) f44 ⟨by decide, by decide⟩ rfl ?_
      refine aw_astore_n (npc := 17) (L' := [some (.ref 0), some (.int 0), some (.int q), some (.ref 54)]) dX7_rest_16 rfl (by decide) rfl rfl ?_
      refine aw_aload_n (npc := 18) rfl dX7_rest_17 rfl ?_
      refine aw_get (npc := 21) dX7_rest_18 rfl kf_X7_302 f54 rfl ?_
      refine aw_if_ne (npc := 24) (tgt := 27) dX7_rest_21 rfl (by decide) (fun hc => absurd (by decide) hc) (fun _ => ?_)
      refine aw_ldc (npc := 26) kc_X7_210 dX7_rest_24 rfl ?_
      refine aw_iret rfl dX7_rest_26 ?_
      exact fin_c hq am_fr0 (show sp_rest 0 q = (-1000000011) from (by unfold sp_rest; first | rfl | (simp only [wif_t hw1, wif_same, ite_self]; done) | (simp only [wif_t hw1, wif_same, ite_self]; rfl) | (simp [wif_t hw1, wif_same]; done)))
    · refine aw_re (S' := [.int 1]) rfl ?_
      refine aw_if_ne (npc := 7) (tgt := 10) dX7_rest_4 rfl (by decide) (fun _ => ?_) (fun hc => absurd hc (by decide))
      refine aw_aload_n (npc := 11) rfl dX7_rest_10 rfl ?_
      refine aw_get (npc := 14) dX7_rest_11 rfl kf_X7_53 f0 rfl ?_
      refine aw_iload_n (npc := 15) rfl dX7_rest_14 rfl ?_
      refine aw_aald (npc := 16) (j := 1) dX7_rest_15 rfl (by decide) f44 ⟨by decide, by decide⟩ rfl ?_
      refine aw_astore_n (npc := 17) (L' := [some (.ref 0), some (.int 1), some (.int q), some (.ref 57)]) dX7_rest_16 rfl (by decide) rfl rfl ?_
      refine aw_aload_n (npc := 18) rfl dX7_rest_17 rfl ?_
      refine aw_get (npc := 21) dX7_rest_18 rfl kf_X7_302 f57 rfl ?_
      refine aw_if_ne (npc := 24) (tgt := 27) dX7_rest_21 rfl (by decide) (fun hc => absurd (by decide) hc) (fun _ => ?_)
      refine aw_ldc (npc := 26) kc_X7_210 dX7_rest_24 rfl ?_
      refine aw_iret rfl dX7_rest_26 ?_
      exact fin_c hq am_fr0 (show sp_rest 1 q = (-1000000011) from (by unfold sp_rest; first | rfl | (simp only [wif_t hw1, wif_same, ite_self]; done) | (simp only [wif_t hw1, wif_same, ite_self]; rfl) | (simp [wif_t hw1, wif_same]; done)))
    · refine aw_re (S' := [.int 1]) rfl ?_
      refine aw_if_ne (npc := 7) (tgt := 10) dX7_rest_4 rfl (by decide) (fun _ => ?_) (fun hc => absurd hc (by decide))
      refine aw_aload_n (npc := 11) rfl dX7_rest_10 rfl ?_
      refine aw_get (npc := 14) dX7_rest_11 rfl kf_X7_53 f0 rfl ?_
      refine aw_iload_n (npc := 15) rfl dX7_rest_14 rfl ?_
      refine aw_aald (npc := 16) (j := 2) dX7_rest_15 rfl (by decide) f44 ⟨by decide, by decide⟩ rfl ?_
      refine aw_astore_n (npc := 17) (L' := [some (.ref 0), some (.int 2), some (.int q), some (.ref 60)]) dX7_rest_16 rfl (by decide) rfl rfl ?_
      refine aw_aload_n (npc := 18) rfl dX7_rest_17 rfl ?_
      refine aw_get (npc := 21) dX7_rest_18 rfl kf_X7_302 f60 rfl ?_
      refine aw_if_ne (npc := 24) (tgt := 27) dX7_rest_21 rfl (by decide) (fun hc => absurd (by decide) hc) (fun _ => ?_)
      refine aw_ldc (npc := 26) kc_X7_210 dX7_rest_24 rfl ?_
      refine aw_iret rfl dX7_rest_26 ?_
      exact fin_c hq am_fr0 (show sp_rest 2 q = (-1000000011) from (by unfold sp_rest; first | rfl | (simp only [wif_t hw1, wif_same, ite_self]; done) | (simp only [wif_t hw1, wif_same, ite_self]; rfl) | (simp [wif_t hw1, wif_same]; done)))
    · refine aw_re (S' := [.int 1]) rfl ?_
      refine aw_if_ne (npc := 7) (tgt := 10) dX7_rest_4 rfl (by decide) (fun _ => ?_) (fun hc => absurd hc (by decide))
      refine aw_aload_n (npc := 11) rfl dX7_rest_10 rfl ?_
      refine aw_get (npc := 14) dX7_rest_11 rfl kf_X7_53 f0 rfl ?_
      refine aw_iload_n (npc := 15) rfl dX7_rest_14 rfl ?_
      refine aw_aald (npc := 16) (j := 3) dX7_rest_15 rfl (by decide) f44 ⟨by decide, by decide⟩ rfl ?_
      refine aw_astore_n (npc := 17) (L' := [some (.ref 0), some (.int 3), some (.int q), some (.ref 63)]) dX7_rest_16 rfl (by decide) rfl rfl ?_
      refine aw_aload_n (npc := 18) rfl dX7_rest_17 rfl ?_
      refine aw_get (npc := 21) dX7_rest_18 rfl kf_X7_302 f63 rfl ?_
      refine aw_if_ne (npc := 24) (tgt := 27) dX7_rest_21 rfl (by decide) (fun hc => absurd (by decide) hc) (fun _ => ?_)
      refine aw_ldc (npc := 26) kc_X7_210 dX7_rest_24 rfl ?_
      refine aw_iret rfl dX7_rest_26 ?_
      exact fin_c hq am_fr0 (show sp_rest 3 q = (-1000000011) from (by unfold sp_rest; first | rfl | (simp only [wif_t hw1, wif_same, ite_self]; done) | (simp only [wif_t hw1, wif_same, ite_self]; rfl) | (simp [wif_t hw1, wif_same]; done)))
    · refine aw_re (S' := [.int 1]) rfl ?_
      refine aw_if_ne (npc := 7) (tgt := 10) dX7_rest_4 rfl (by decide) (fun _ => ?_) (fun hc => absurd hc (by decide))
      refine aw_aload_n (npc := 11) rfl dX7_rest_10 rfl ?_
      refine aw_get (npc := 14) dX7_rest_11 rfl kf_X7_53 f0 rfl ?_
      refine aw_iload_n (npc := 15) rfl dX7_rest_14 rfl ?_
      refine aw_aald (npc := 16) (j := 4) dX7_rest_15 rfl (by decide) f44 ⟨by decide, by decide⟩ rfl ?_
      refine aw_astore_n (npc := 17) (L' := [some (.ref 0), some (.int 4), some (.int q), some (.ref 66)]) dX7_rest_16 rfl (by decide) rfl rfl ?_
      refine aw_aload_n (npc := 18) rfl dX7_rest_17 rfl ?_
      refine aw_get (npc := 21) dX7_rest_18 rfl kf_X7_302 f66 rfl ?_
      refine aw_if_ne (npc := 24) (tgt := 27) dX7_rest_21 rfl (by decide) (fun hc => absurd (by decide) hc) (fun _ => ?_)
      refine aw_ldc (npc := 26) kc_X7_210 dX7_rest_24 rfl ?_
      refine aw_iret rfl dX7_rest_26 ?_
      exact fin_c hq am_fr0 (show sp_rest 4 q = (-1000000011) from (by unfold sp_rest; first | rfl | (simp only [wif_t hw1, wif_same, ite_self]; done) | (simp only [wif_t hw1, wif_same, ite_self]; rfl) | (simp [wif_t hw1, wif_same]; done)))
  · refine aw_re (S' := [.int 0]) rfl ?_
    refine aw_if_ne (npc := 7) (tgt := 10) dX7_rest_4 rfl (by decide) (fun hc => absurd (by decide) hc) (fun _ => ?_)
    refine aw_ldc (npc := 9) kc_X7_78 dX7_rest_7 rfl ?_
    refine aw_iret rfl dX7_rest_9 ?_
    exact fin_c hq am_fr0 (show sp_rest s q = (-1000000001) from (by unfold sp_rest; first | rfl | (simp only [wif_f hw1, wif_same, ite_self]; done) | (simp only [wif_f hw1, wif_same, ite_self]; rfl) | (simp [wif_f hw1, wif_same]; done)))
set_option maxHeartbeats 40000000 in
set_option maxRecDepth 100000 in
theorem p_X8_rest {X : List Int32} {d rc rs : Nat} {h : am_H} {Q : am_Q} {s : Int32} {q : Int32} (F : f0_X8 h) (hq : ∀ n9 h9, Q (some (.int (sp_rest s q))) n9 h9) : AW X mX8_rest (d + 12) rc rs 0 [some (.ref 69), some (.int s), some (.int q)] [] 92 h Q := by
  obtain ⟨g69, -, -, -, -, -, -, -, -, -, -, -, -, -, -, -, -, g86, -, -, -, -, -⟩ := F
  refine aw_iload_n (npc := 1) rfl dX8_rest_0 rfl ?_
  refine aw_callS (npc := 4) (N := mX8_isSlot) (mc := 0) (ms := 0) (A := [.int s]) (S := []) (L0 := [some (.int s)]) dX8_rest_1 rfl km_X8_isSlot kk_X8_262 rfl ⟨rfl, by decide⟩ rfl (Nat.le_of_ble_eq_true rfl) (Nat.zero_add _) (Nat.zero_add _) rfl ?_
  refine c_X8_isSlot (fun hw1 => ?_) (fun hw1 => ?_)
  · rcases wi_c0_4 hw1 with rfl | rfl | rfl | rfl | rfl
    · refine aw_re (S' := [.int 1]) rfl ?_
      refine aw_if_ne (npc := 7) (tgt := 10) dX8_rest_4 rfl (by decide) (fun _ => ?_) (fun hc => absurd hc (by decide))
      refine aw_aload_n (npc := 11) rfl dX8_rest_10 rfl ?_
      refine aw_get (npc := 14) dX8_rest_11 rfl kf_X8_64 g69 rfl ?_
      refine aw_iload_n (npc := 15) rfl dX8_rest_14 rfl ?_
      refine aw_iald (npc := 16) (x := 0) (j := 0) dX8_rest_15 rfl g86 ⟨by decide, by decide⟩ rfl ?_
      refine aw_if_ne (npc := 19) (tgt := 22) dX8_rest_16 rfl (by decide) (fun hc => absurd (by decide) hc) (fun _ => ?_)
      refine aw_ldc (npc := 21) kc_X8_187 dX8_rest_19 rfl ?_
      refine aw_iret rfl dX8_rest_21 ?_
      exact fin_m hq (show sp_rest 0 q = (-1000000011) from (by unfold sp_rest; first | rfl | (simp only [wif_t hw1, wif_same, ite_self]; done) | (simp only [wif_t hw1, wif_same, ite_self]; rfl) | (simp [wif_t hw1, wif_same]; done)))
    · refine aw_re (S' := [.int 1]) rfl ?_
      refine aw_if_ne (npc := 7) (tgt := 10) dX8_rest_4 rfl (by decide) (fun _ => ?_) (fun hc => absurd hc (by decide))
      refine aw_aload_n (npc := 11) rfl dX8_rest_10 rfl ?_
      refine aw_get (npc := 14) dX8_rest_11 rfl kf_X8_64 g69 rfl ?_
      refine aw_iload_n (npc := 15) rfl dX8_rest_14 rfl ?_
      refine aw_iald (npc := 16) (x := 0) (j := 1) dX8_rest_15 rfl g86 ⟨by decide, by decide⟩ rfl ?_
      refine aw_if_ne (npc := 19) (tgt := 22) dX8_rest_16 rfl (by decide) (fun hc => absurd (by decide) hc) (fun _ => ?_)
      refine aw_ldc (npc := 21) kc_X8_187 dX8_rest_19 rfl ?_
      refine aw_iret rfl dX8_rest_21 ?_
      exact fin_m hq (show sp_rest 1 q = (-1000000011) from (by unfold sp_rest; first | rfl | (simp only [wif_t hw1, wif_same, ite_self]; done) | (simp only [wif_t hw1, wif_same, ite_self]; rfl) | (simp [wif_t hw1, wif_same]; done)))
    · refine aw_re (S' := [.int 1]) rfl ?_
      refine aw_if_ne (npc := 7) (tgt := 10) dX8_rest_4 rfl (by decide) (fun _ => ?_) (fun hc => absurd hc (by decide))
      refine aw_aload_n (npc := 11) rfl dX8_rest_10 rfl ?_
      refine aw_get (npc := 14) dX8_rest_11 rfl kf_X8_64 g69 rfl ?_
      refine aw_iload_n (npc := 15) rfl dX8_rest_14 rfl ?_
      refine aw_iald (npc := 16) (x := 0) (j := 2) dX8_rest_15 rfl g86 ⟨by decide, by decide⟩ rfl ?_
      refine aw_if_ne (npc := 19) (tgt := 22) dX8_rest_16 rfl (by decide) (fun hc => absurd (by decide) hc) (fun _ => ?_)
      refine aw_ldc (npc := 21) kc_X8_187 dX8_rest_19 rfl ?_
      refine aw_iret rfl dX8_rest_21 ?_
      exact fin_m hq (show sp_rest 2 q = (-1000000011) from (by unfold sp_rest; first | rfl | (simp only [wif_t hw1, wif_same, ite_self]; done) | (simp only [wif_t hw1, wif_same, ite_self]; rfl) | (simp [wif_t hw1, wif_same]; done)))
    · refine aw_re (S' := [.int 1]) rfl ?_
      refine aw_if_ne (npc := 7) (tgt := 10) dX8_rest_4 rfl (by decide) (fun _ => ?_) (fun hc => absurd hc (by decide))
      refine aw_aload_n (npc := 11) rfl dX8_rest_10 rfl ?_
      refine aw_get (npc := 14) dX8_rest_11 rfl kf_X8_64 g69 rfl ?_
      refine aw_iload_n (npc := 15) rfl dX8_rest_14 rfl ?_
      refine aw_iald (npc := 16) (x := 0) (j := 3) dX8_rest_15 rfl g86 ⟨by decide, by decide⟩ rfl ?_
      refine aw_if_ne (npc := 19) (tgt := 22) dX8_rest_16 rfl (by decide) (fun hc => absurd (by decide) hc) (fun _ => ?_)
      refine aw_ldc (npc := 21) kc_X8_187 dX8_rest_19 rfl ?_
      refine aw_iret rfl dX8_rest_21 ?_
      exact fin_m hq (show sp_rest 3 q = (-1000000011) from (by unfold sp_rest; first | rfl | (simp only [wif_t hw1, wif_same, ite_self]; done) | (simp only [wif_t hw1, wif_same, ite_self]; rfl) | (simp [wif_t hw1, wif_same]; done)))
    · refine aw_re (S' := [.int 1]) rfl ?_
      refine aw_if_ne (npc := 7) (tgt := 10) dX8_rest_4 rfl (by decide) (fun _ => ?_) (fun hc => absurd hc (by decide))
      refine aw_aload_n (npc := 11) rfl dX8_rest_10 rfl ?_
      refine aw_get (npc := 14) dX8_rest_11 rfl kf_X8_64 g69 rfl ?_
      refine aw_iload_n (npc := 15) rfl dX8_rest_14 rfl ?_
      refine aw_iald (npc := 16) (x := 0) (j := 4) dX8_rest_15 rfl g86 ⟨by decide, by decide⟩ rfl ?_
      refine aw_if_ne (npc := 19) (tgt := 22) dX8_rest_16 rfl (by decide) (fun hc => absurd (by decide) hc) (fun _ => ?_)
      refine aw_ldc (npc := 21) kc_X8_187 dX8_rest_19 rfl ?_
      refine aw_iret rfl dX8_rest_21 ?_
      exact fin_m hq (show sp_rest 4 q = (-1000000011) from (by unfold sp_rest; first | rfl | (simp only [wif_t hw1, wif_same, ite_self]; done) | (simp only [wif_t hw1, wif_same, ite_self]; rfl) | (simp [wif_t hw1, wif_same]; done)))
  · refine aw_re (S' := [.int 0]) rfl ?_
    refine aw_if_ne (npc := 7) (tgt := 10) dX8_rest_4 rfl (by decide) (fun hc => absurd (by decide) hc) (fun _ => ?_)
    refine aw_ldc (npc := 9) kc_X8_91 dX8_rest_7 rfl ?_
    refine aw_iret rfl dX8_rest_9 ?_
    exact fin_m hq (show sp_rest s q = (-1000000001) from (by unfold sp_rest; first | rfl | (simp only [wif_f hw1, wif_same, ite_self]; done) | (simp only [wif_f hw1, wif_same, ite_self]; rfl) | (simp [wif_f hw1, wif_same]; done)))
noncomputable def sp_tell (v : Int32) : Int32 := 1
set_option maxHeartbeats 40000000 in
set_option maxRecDepth 100000 in
theorem p_X7_tell {X : List Int32} {d rc rs : Nat} {h : am_H} {Q : am_Q} {v : Int32} (F : f0_X7 h) (hq : ∀ h9, am_fr 69 h9 h → Q (some (.int (sp_tell v))) 92 h9) : AW X mX7_tell (d + 12) rc rs 0 [some (.ref 0), some (.int v)] [] 92 h Q := by
  obtain ⟨f0, -, -, -, -, -, -, -, -, -, -, -, -, -, -, -, -, -, -, -, -, -, -, -, -, -, -, -, -, -, -, -, -, -, -, -, -, -, -, -, -, -, -, -, -, f45, -, -, -, -, -, -, -, -, -, -, -, -, -, -, -, -, -, -, -, -, -, -, -⟩ := F
  refine aw_aload_n (npc := 1) rfl dX7_tell_0 rfl ?_
  refine aw_get (npc := 4) dX7_tell_1 rfl kf_X7_61 f0 rfl ?_
  refine aw_bipush (npc := 6) (v := 60) (by decide) dX7_tell_4 rfl ?_
  refine aw_icmp_lt (npc := 9) (tgt := 12) dX7_tell_6 rfl (by decide) (fun _ => ?_) (fun hc => absurd (by decide) hc)
  refine aw_aload_n (npc := 13) rfl dX7_tell_12 rfl ?_
  refine aw_get (npc := 16) dX7_tell_13 rfl kf_X7_57 f0 rfl ?_
  refine aw_aload_n (npc := 17) rfl dX7_tell_16 rfl ?_
  refine aw_get (npc := 20) dX7_tell_17 rfl kf_X7_61 f0 rfl ?_
  refine aw_iload_n (npc := 21) rfl dX7_tell_20 rfl ?_
  refine aw_iast (npc := 22) (j := 0) dX7_tell_21 rfl f45 ⟨by decide, by decide⟩ (Nat.le_of_ble_eq_true rfl) rfl ?_
  refine aw_aload_n (npc := 23) rfl dX7_tell_22 rfl ?_
  refine aw_dup (npc := 24) rfl dX7_tell_23 rfl ?_
  refine aw_get (npc := 27) dX7_tell_24 rfl kf_X7_61 (am_ne (by decide) f0) rfl ?_
  refine aw_iconst (npc := 28) (v := 1) (by decide) dX7_tell_27 rfl ?_
  refine aw_iaddV (npc := 29) (v := 1) dX7_tell_28 rfl (by decide) ?_
  refine aw_put (npc := 32) dX7_tell_29 rfl kf_X7_61 (am_ne (by decide) f0) (Nat.le_of_ble_eq_true rfl) (am_ok_int _) rfl ?_
  refine aw_aload_n (npc := 33) rfl dX7_tell_32 rfl ?_
  refine aw_get (npc := 36) dX7_tell_33 rfl kf_X7_61 am_eq rfl ?_
  refine aw_iret rfl dX7_tell_36 ?_
  exact fin_c hq (am_frU (by decide) (am_frU (by decide) am_fr0)) (show sp_tell v = 1 from (by unfold sp_tell; first | rfl | (simp only [wif_same, ite_self]; done) | (simp only [wif_same, ite_self]; rfl) | (simp [wif_same]; done)))
set_option maxHeartbeats 40000000 in
set_option maxRecDepth 100000 in
theorem p_X8_tell {X : List Int32} {d rc rs : Nat} {h : am_H} {Q : am_Q} {v : Int32} (F : f0_X8 h) (hq : ∀ n9 h9, Q (some (.int (sp_tell v))) n9 h9) : AW X mX8_tell (d + 12) rc rs 0 [some (.ref 69), some (.int v)] [] 92 h Q := by
  obtain ⟨g69, -, -, -, -, -, -, -, -, -, -, -, -, -, -, -, -, -, -, -, -, -, g91⟩ := F
  refine aw_aload_n (npc := 1) rfl dX8_tell_0 rfl ?_
  refine aw_get (npc := 4) dX8_tell_1 rfl kf_X8_266 g69 rfl ?_
  refine aw_bipush (npc := 6) (v := 60) (by decide) dX8_tell_4 rfl ?_
  refine aw_icmp_ne (npc := 9) (tgt := 12) dX8_tell_6 rfl (by decide) (fun _ => ?_) (fun hc => absurd hc (by decide))
  refine aw_aload_n (npc := 13) rfl dX8_tell_12 rfl ?_
  refine aw_get (npc := 16) dX8_tell_13 rfl kf_X8_79 g69 rfl ?_
  refine aw_aload_n (npc := 17) rfl dX8_tell_16 rfl ?_
  refine aw_get (npc := 20) dX8_tell_17 rfl kf_X8_266 g69 rfl ?_
  refine aw_iload_n (npc := 21) rfl dX8_tell_20 rfl ?_
  refine aw_iast (npc := 22) (j := 0) dX8_tell_21 rfl g91 ⟨by decide, by decide⟩ (Nat.le_of_ble_eq_true rfl) rfl ?_
  refine aw_aload_n (npc := 23) rfl dX8_tell_22 rfl ?_
  refine aw_dup (npc := 24) rfl dX8_tell_23 rfl ?_
  refine aw_get (npc := 27) dX8_tell_24 rfl kf_X8_266 (am_ne (by decide) g69) rfl ?_
  refine aw_iconst (npc := 28) (v := 1) (by decide) dX8_tell_27 rfl ?_
  refine aw_iaddV (npc := 29) (v := 1) dX8_tell_28 rfl (by decide) ?_
  refine aw_put (npc := 32) dX8_tell_29 rfl kf_X8_266 (am_ne (by decide) g69) (Nat.le_of_ble_eq_true rfl) (am_ok_int _) rfl ?_
  refine aw_aload_n (npc := 33) rfl dX8_tell_32 rfl ?_
  refine aw_get (npc := 36) dX8_tell_33 rfl kf_X8_266 am_eq rfl ?_
  refine aw_iret rfl dX8_tell_36 ?_
  exact fin_m hq (show sp_tell v = 1 from (by unfold sp_tell; first | rfl | (simp only [wif_same, ite_self]; done) | (simp only [wif_same, ite_self]; rfl) | (simp [wif_same]; done)))
noncomputable def sp_check (n : Int32) : Int32 := wif n 1 30 ((-1000000002)) (-1000000001)
set_option maxHeartbeats 40000000 in
set_option maxRecDepth 100000 in
theorem p_X7_check {X : List Int32} {d rc rs : Nat} {h : am_H} {Q : am_Q} {n : Int32} (F : f0_X7 h) (hq : ∀ h9, am_fr 69 h9 h → Q (some (.int (sp_check n))) 92 h9) : AW X mX7_check (d + 12) rc rs 0 [some (.ref 0), some (.int n), none, none, none, none] [] 92 h Q := by
  obtain ⟨f0, -, -, -, -, -, -, -, -, -, -, -, -, -, -, -, -, -, -, -, -, -, -, -, -, -, -, -, -, -, -, -, -, -, -, -, -, -, -, -, -, -, -, -, -, -, -, -, -, -, -, -, -, -, -, -, -, -, -, -, -, -, -, -, -, -, -, -, -⟩ := F
  refine aw_aload_n (npc := 1) rfl dX7_check_0 rfl ?_
  refine aw_get (npc := 4) dX7_check_1 rfl kf_X7_61 f0 rfl ?_
  refine aw_istore_n (npc := 5) (L' := [some (.ref 0), some (.int n), some (.int 0), none, none, none]) dX7_check_4 rfl (by decide) rfl rfl ?_
  refine aw_aload_n (npc := 6) rfl dX7_check_5 rfl ?_
  refine aw_iconst (npc := 7) (v := 0) (by decide) dX7_check_6 rfl ?_
  refine aw_put (npc := 10) dX7_check_7 rfl kf_X7_61 f0 (Nat.le_of_ble_eq_true rfl) (am_ok_int _) rfl ?_
  refine aw_iload_n (npc := 11) rfl dX7_check_10 rfl ?_
  refine aw_iconst (npc := 12) (v := 1) (by decide) dX7_check_11 rfl ?_
  refine aw_bipush (npc := 14) (v := 30) (by decide) dX7_check_12 rfl ?_
  refine aw_callS (npc := 17) (N := mX7_within) (mc := 0) (ms := 0) (A := [.int n, .int 1, .int 30]) (S := []) (L0 := [some (.int n), some (.int 1), some (.int 30)]) dX7_check_14 rfl km_X7_within kk_X7_74 rfl ⟨rfl, by decide⟩ rfl (Nat.le_of_ble_eq_true rfl) (Nat.zero_add _) (Nat.zero_add _) rfl ?_
  refine c_X7_within (fun hw1 => ?_) (fun hw1 => ?_)
  · refine aw_re (S' := [.int 1]) rfl ?_
    refine aw_if_ne (npc := 20) (tgt := 23) dX7_check_17 rfl (by decide) (fun _ => ?_) (fun hc => absurd hc (by decide))
    refine aw_aload_n (npc := 24) rfl dX7_check_23 rfl ?_
    refine aw_get (npc := 27) dX7_check_24 rfl kf_X7_22 am_eq rfl ?_
    refine aw_if_ne (npc := 30) (tgt := 34) dX7_check_27 rfl (by decide) (fun hc => absurd (by decide) hc) (fun _ => ?_)
    refine aw_ldcw (npc := 33) kc_X7_321 dX7_check_30 rfl ?_
    refine aw_iret rfl dX7_check_33 ?_
    exact fin_c hq (am_frU (by decide) am_fr0) (show sp_check n = (-1000000002) from (by unfold sp_check; first | rfl | (simp only [wif_t hw1, wif_same, ite_self]; done) | (simp only [wif_t hw1, wif_same, ite_self]; rfl) | (simp [wif_t hw1, wif_same]; done)))
  · refine aw_re (S' := [.int 0]) rfl ?_
    refine aw_if_ne (npc := 20) (tgt := 23) dX7_check_17 rfl (by decide) (fun hc => absurd (by decide) hc) (fun _ => ?_)
    refine aw_ldc (npc := 22) kc_X7_78 dX7_check_20 rfl ?_
    refine aw_iret rfl dX7_check_22 ?_
    exact fin_c hq (am_frU (by decide) am_fr0) (show sp_check n = (-1000000001) from (by unfold sp_check; first | rfl | (simp only [wif_f hw1, wif_same, ite_self]; done) | (simp only [wif_f hw1, wif_same, ite_self]; rfl) | (simp [wif_f hw1, wif_same]; done)))
set_option maxHeartbeats 40000000 in
set_option maxRecDepth 100000 in
theorem p_X8_check {X : List Int32} {d rc rs : Nat} {h : am_H} {Q : am_Q} {n : Int32} (F : f0_X8 h) (hq : ∀ n9 h9, Q (some (.int (sp_check n))) n9 h9) : AW X mX8_check (d + 12) rc rs 0 [some (.ref 69), some (.int n), none, none, none, none] [] 92 h Q := by
  obtain ⟨g69, -, -, -, -, -, -, -, -, -, -, -, -, -, -, -, -, -, -, -, -, -, -⟩ := F
  refine aw_aload_n (npc := 1) rfl dX8_check_0 rfl ?_
  refine aw_get (npc := 4) dX8_check_1 rfl kf_X8_266 g69 rfl ?_
  refine aw_istore_n (npc := 5) (L' := [some (.ref 69), some (.int n), some (.int 0), none, none, none]) dX8_check_4 rfl (by decide) rfl rfl ?_
  refine aw_aload_n (npc := 6) rfl dX8_check_5 rfl ?_
  refine aw_iconst (npc := 7) (v := 0) (by decide) dX8_check_6 rfl ?_
  refine aw_put (npc := 10) dX8_check_7 rfl kf_X8_266 g69 (Nat.le_of_ble_eq_true rfl) (am_ok_int _) rfl ?_
  refine aw_iload_n (npc := 11) rfl dX8_check_10 rfl ?_
  refine aw_iconst (npc := 12) (v := 1) (by decide) dX8_check_11 rfl ?_
  refine aw_bipush (npc := 14) (v := 30) (by decide) dX8_check_12 rfl ?_
  refine aw_callS (npc := 17) (N := mX8_in) (mc := 0) (ms := 0) (A := [.int n, .int 1, .int 30]) (S := []) (L0 := [some (.int n), some (.int 1), some (.int 30)]) dX8_check_14 rfl km_X8_in kk_X8_83 rfl ⟨rfl, by decide⟩ rfl (Nat.le_of_ble_eq_true rfl) (Nat.zero_add _) (Nat.zero_add _) rfl ?_
  refine c_X8_in (fun hw1 => ?_) (fun hw1 => ?_)
  · refine aw_re (S' := [.int 1]) rfl ?_
    refine aw_if_ne (npc := 20) (tgt := 23) dX8_check_17 rfl (by decide) (fun _ => ?_) (fun hc => absurd hc (by decide))
    refine aw_aload_n (npc := 24) rfl dX8_check_23 rfl ?_
    refine aw_get (npc := 27) dX8_check_24 rfl kf_X8_269 am_eq rfl ?_
    refine aw_if_ne (npc := 30) (tgt := 34) dX8_check_27 rfl (by decide) (fun hc => absurd (by decide) hc) (fun _ => ?_)
    refine aw_ldcw (npc := 33) kc_X8_265 dX8_check_30 rfl ?_
    refine aw_iret rfl dX8_check_33 ?_
    exact fin_m hq (show sp_check n = (-1000000002) from (by unfold sp_check; first | rfl | (simp only [wif_t hw1, wif_same, ite_self]; done) | (simp only [wif_t hw1, wif_same, ite_self]; rfl) | (simp [wif_t hw1, wif_same]; done)))
  · refine aw_re (S' := [.int 0]) rfl ?_
    refine aw_if_ne (npc := 20) (tgt := 23) dX8_check_17 rfl (by decide) (fun hc => absurd (by decide) hc) (fun _ => ?_)
    refine aw_ldc (npc := 22) kc_X8_91 dX8_check_20 rfl ?_
    refine aw_iret rfl dX8_check_22 ?_
    exact fin_m hq (show sp_check n = (-1000000001) from (by unfold sp_check; first | rfl | (simp only [wif_f hw1, wif_same, ite_self]; done) | (simp only [wif_f hw1, wif_same, ite_self]; rfl) | (simp [wif_f hw1, wif_same]; done)))
noncomputable def sp_back : Int32 := -1000000002
set_option maxHeartbeats 40000000 in
set_option maxRecDepth 100000 in
theorem p_X7_back {X : List Int32} {d rc rs : Nat} {h : am_H} {Q : am_Q} (F : f0_X7 h) (hq : ∀ h9, am_fr 69 h9 h → Q (some (.int (sp_back))) 92 h9) : AW X mX7_back (d + 12) rc rs 0 [some (.ref 0)] [] 92 h Q := by
  obtain ⟨f0, -, -, -, -, -, -, -, -, -, -, -, -, -, -, -, -, -, -, -, -, -, -, -, -, -, -, -, -, -, -, -, -, -, -, -, -, -, -, -, -, -, -, -, -, -, -, -, -, -, -, -, -, -, -, -, -, -, -, -, -, -, -, -, -, -, -, -, -⟩ := F
  refine aw_aload_n (npc := 1) rfl dX7_back_0 rfl ?_
  refine aw_get (npc := 4) dX7_back_1 rfl kf_X7_22 f0 rfl ?_
  refine aw_if_ne (npc := 7) (tgt := 11) dX7_back_4 rfl (by decide) (fun hc => absurd (by decide) hc) (fun _ => ?_)
  refine aw_ldcw (npc := 10) kc_X7_321 dX7_back_7 rfl ?_
  refine aw_iret rfl dX7_back_10 ?_
  exact fin_c hq am_fr0 (show sp_back = (-1000000002) from (by unfold sp_back; first | rfl | (simp only [wif_same, ite_self]; done) | (simp only [wif_same, ite_self]; rfl) | (simp [wif_same]; done)))
set_option maxHeartbeats 40000000 in
set_option maxRecDepth 100000 in
theorem p_X8_back {X : List Int32} {d rc rs : Nat} {h : am_H} {Q : am_Q} (F : f0_X8 h) (hq : ∀ n9 h9, Q (some (.int (sp_back))) n9 h9) : AW X mX8_back (d + 12) rc rs 0 [some (.ref 69)] [] 92 h Q := by
  obtain ⟨g69, -, -, -, -, -, -, -, -, -, -, -, -, -, -, -, -, -, -, -, -, -, -⟩ := F
  refine aw_aload_n (npc := 1) rfl dX8_back_0 rfl ?_
  refine aw_get (npc := 4) dX8_back_1 rfl kf_X8_269 g69 rfl ?_
  refine aw_if_ne (npc := 7) (tgt := 11) dX8_back_4 rfl (by decide) (fun hc => absurd (by decide) hc) (fun _ => ?_)
  refine aw_ldcw (npc := 10) kc_X8_265 dX8_back_7 rfl ?_
  refine aw_iret rfl dX8_back_10 ?_
  exact fin_m hq (show sp_back = (-1000000002) from (by unfold sp_back; first | rfl | (simp only [wif_same, ite_self]; done) | (simp only [wif_same, ite_self]; rfl) | (simp [wif_same]; done)))
