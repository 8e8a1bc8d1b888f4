def wort (k p : Int32) : Int32 := if k = 1 then p + 4 else if k = 2 then 99 - p else if k = 3 then 2 * (p + 4) else if k = 4 then 99 - p - 9 else if k = 5 then 7 else p
def orN (v : Int32) : Int32 := if v < 0 then (-1000000005) else v
theorem w90 (p : Int32) : 99 - p - 9 = 90 - p := by
  rw [Int32.sub_sub, Int32.add_comm, ← Int32.sub_sub]; rfl
set_option maxHeartbeats 4000000 in
set_option maxRecDepth 100000 in
theorem c_X7_worthOf {X : List Int32} {d rc rs n : Nat} {Q : am_Q} {h : am_H} {k : Int32} {p : Int32} (hq : Q (some (.int (wort k p))) n h) : AW X mX7_worthOf (d + 0) rc rs 0 [some (.int k), some (.int p)] [] n h Q := by
  refine aw_iload_n (npc := 1) rfl dX7_worthOf_0 rfl ?_
  rcases sw_1_5 k with rfl | rfl | rfl | rfl | rfl | hs1
  · refine aw_tableIn (npc := 36) dX7_worthOf_1 (by decide) (by decide) rfl (by decide) ?_
    refine aw_iload_n (npc := 37) rfl dX7_worthOf_36 rfl ?_
    refine aw_iconst (npc := 38) (v := 4) (by decide) dX7_worthOf_37 rfl ?_
    refine aw_iadd (npc := 39) dX7_worthOf_38 rfl ?_
    refine aw_iret rfl dX7_worthOf_39 ?_
    exact (show wort 1 p = (p + 4) by simp [wort, orN, cI]) ▸ hq
  · refine aw_tableIn (npc := 46) dX7_worthOf_1 (by decide) (by decide) rfl (by decide) ?_
    refine aw_bipush (npc := 48) (v := 99) (by decide) dX7_worthOf_46 rfl ?_
    refine aw_iload_n (npc := 49) rfl dX7_worthOf_48 rfl ?_
    refine aw_isub (npc := 50) dX7_worthOf_49 rfl ?_
    refine aw_iret rfl dX7_worthOf_50 ?_
    exact (show wort 2 p = (99 - p) by simp [wort, orN, cI]) ▸ hq
  · refine aw_tableIn (npc := 40) dX7_worthOf_1 (by decide) (by decide) rfl (by decide) ?_
    refine aw_iconst (npc := 41) (v := 2) (by decide) dX7_worthOf_40 rfl ?_
    refine aw_iload_n (npc := 42) rfl dX7_worthOf_41 rfl ?_
    refine aw_iconst (npc := 43) (v := 4) (by decide) dX7_worthOf_42 rfl ?_
    refine aw_iadd (npc := 44) dX7_worthOf_43 rfl ?_
    refine aw_imul (npc := 45) dX7_worthOf_44 rfl ?_
    refine aw_iret rfl dX7_worthOf_45 ?_
    exact (show wort 3 p = (2 * (p + 4)) by simp [wort, orN, cI]) ▸ hq
  · refine aw_tableIn (npc := 51) dX7_worthOf_1 (by decide) (by decide) rfl (by decide) ?_
    refine aw_bipush (npc := 53) (v := 99) (by decide) dX7_worthOf_51 rfl ?_
    refine aw_iload_n (npc := 54) rfl dX7_worthOf_53 rfl ?_
    refine aw_isub (npc := 55) dX7_worthOf_54 rfl ?_
    refine aw_bipush (npc := 57) (v := 9) (by decide) dX7_worthOf_55 rfl ?_
    refine aw_isub (npc := 58) dX7_worthOf_57 rfl ?_
    refine aw_iret rfl dX7_worthOf_58 ?_
    exact (show wort 4 p = ((99 - p) - 9) by simp [wort, orN, cI]) ▸ hq
  · refine aw_tableIn (npc := 59) dX7_worthOf_1 (by decide) (by decide) rfl (by decide) ?_
    refine aw_bipush (npc := 61) (v := 7) (by decide) dX7_worthOf_59 rfl ?_
    refine aw_iret rfl dX7_worthOf_61 ?_
    exact (show wort 5 p = 7 by simp [wort, orN, cI]) ▸ hq
  · refine aw_tableOut (npc := 62) dX7_worthOf_1 hs1.1 (by decide) ?_
    refine aw_iload_n (npc := 63) rfl dX7_worthOf_62 rfl ?_
    refine aw_iret rfl dX7_worthOf_63 ?_
    exact (show wort k p = p by simp [wort, orN, cI, hs1.2.1, hs1.2.2.1, hs1.2.2.2.1, hs1.2.2.2.2.1, hs1.2.2.2.2.2]) ▸ hq
set_option maxHeartbeats 4000000 in
set_option maxRecDepth 100000 in
theorem c_X7_orNone {X : List Int32} {d rc rs n : Nat} {Q : am_Q} {h : am_H} {v : Int32} (hq : Q (some (.int (orN v))) n h) : AW X mX7_orNone (d + 0) rc rs 0 [some (.int v)] [] n h Q := by
  refine aw_iload_n (npc := 1) rfl dX7_orNone_0 rfl ?_
  refine aw_if_ge (npc := 4) (tgt := 9) dX7_orNone_1 rfl (by decide) (fun hc1 => ?_) (fun hc1 => ?_)
  · refine aw_iload_n (npc := 10) rfl dX7_orNone_9 rfl ?_
    refine aw_iret rfl dX7_orNone_10 ?_
    exact (show orN v = v by simp [orN, Int32.not_lt.mpr hc1]) ▸ hq
  · refine aw_ldc (npc := 6) kc_X7_200 dX7_orNone_4 rfl ?_
    refine aw_goto (npc := 10) dX7_orNone_6 (by decide) ?_
    refine aw_iret rfl dX7_orNone_10 ?_
    exact (show orN v = (-1000000005) by simp [orN, Int32.not_le.mp hc1]) ▸ hq
set_option maxHeartbeats 4000000 in
set_option maxRecDepth 100000 in
theorem c_X8_told0 {X : List Int32} {d rc rs n : Nat} {Q : am_Q} {h : am_H} {v : Int32} (hq : Q (some (.int (orN v))) n h) : AW X mX8_told0 (d + 0) rc rs 0 [some (.int v)] [] n h Q := by
  refine aw_iload_n (npc := 1) rfl dX8_told0_0 rfl ?_
  refine aw_if_ge (npc := 4) (tgt := 9) dX8_told0_1 rfl (by decide) (fun hc1 => ?_) (fun hc1 => ?_)
  · refine aw_iload_n (npc := 10) rfl dX8_told0_9 rfl ?_
    refine aw_iret rfl dX8_told0_10 ?_
    exact (show orN v = v by simp [orN, Int32.not_lt.mpr hc1]) ▸ hq
  · refine aw_ldc (npc := 6) kc_X8_82 dX8_told0_4 rfl ?_
    refine aw_goto (npc := 10) dX8_told0_6 (by decide) ?_
    refine aw_iret rfl dX8_told0_10 ?_
    exact (show orN v = (-1000000005) by simp [orN, Int32.not_le.mp hc1]) ▸ hq
set_option maxHeartbeats 4000000 in
set_option maxRecDepth 100000 in
theorem m_worthOf {X : List Int32} {d rc rs n : Nat} {Q : am_Q} {h : am_H} {o N : Nat → Int32} {a : Nat → Nat → Int32} {f : Nat} (F : MR o N a h) (hf : f < 8) (hk : wi (N (22 + 5 * f)) 0 5) (hq : Q (some (.int (wort (N (22 + 5 * f)) (N (24 + 5 * f))))) n h) : AW X mX8_worthOf (d + 2) rc rs 0 [some (.ref 69), some (.int (nI f)), none] [] n h Q := by
  refine aw_aload_n (npc := 1) rfl dX8_worthOf_0 rfl ?_
  refine aw_iload_n (npc := 2) rfl dX8_worthOf_1 rfl ?_
  refine aw_iconst (npc := 3) (v := 2) (by decide) dX8_worthOf_2 rfl ?_
  refine aw_callV (npc := 6) (N := mX8_of) (b := 69) (mc := 0) (ms := 0) (A := [.int (nI f), .int 2]) (S := []) (L0 := [some (.ref 69), some (.int (nI f)), some (.int 2)]) dX8_worthOf_3 rfl km_X8_of kk_X8_101 F.1 ⟨by decide, rfl⟩ rfl ⟨rfl, by decide⟩ rfl (Nat.le_of_ble_eq_true rfl) (Nat.zero_add _) (Nat.zero_add _) rfl ?_
  refine m_of2 (f := f) F (by omega) ?_
  refine aw_re (S' := [.int (N (24 + 5 * f))]) rfl ?_
  refine aw_istore_n (npc := 7) (L' := [some (.ref 69), some (.int (nI f)), some (.int (N (24 + 5 * f)))]) dX8_worthOf_6 rfl (by decide) rfl rfl ?_
  refine aw_aload_n (npc := 8) rfl dX8_worthOf_7 rfl ?_
  refine aw_iload_n (npc := 9) rfl dX8_worthOf_8 rfl ?_
  refine aw_iconst (npc := 10) (v := 0) (by decide) dX8_worthOf_9 rfl ?_
  refine aw_callV (npc := 13) (N := mX8_of) (b := 69) (mc := 0) (ms := 0) (A := [.int (nI f), .int 0]) (S := []) (L0 := [some (.ref 69), some (.int (nI f)), some (.int 0)]) dX8_worthOf_10 rfl km_X8_of kk_X8_101 F.1 ⟨by decide, rfl⟩ rfl ⟨rfl, by decide⟩ rfl (Nat.le_of_ble_eq_true rfl) (Nat.zero_add _) (Nat.zero_add _) rfl ?_
  refine m_of0 (f := f) F (by omega) ?_
  refine aw_re (S' := [.int (N (22 + 5 * f))]) rfl ?_
  rcases wi_c0_5 hk with ek | ek | ek | ek | ek | ek
  · refine aw_top (y := 0) ek ?_
    refine aw_tableOut (npc := 71) dX8_worthOf_13 (by decide) (by decide) ?_
    refine aw_iload_n (npc := 72) rfl dX8_worthOf_71 rfl ?_
    refine aw_iret rfl dX8_worthOf_72 ?_
    exact (show wort (N (22 + 5 * f)) (N (24 + 5 * f)) = (N (24 + 5 * f)) by rw [ek]; simp [wort, w90]) ▸ hq
  · refine aw_top (y := 1) ek ?_
    refine aw_tableIn (npc := 48) dX8_worthOf_13 (by decide) (by decide) rfl (by decide) ?_
    refine aw_iload_n (npc := 49) rfl dX8_worthOf_48 rfl ?_
    refine aw_iconst (npc := 50) (v := 4) (by decide) dX8_worthOf_49 rfl ?_
    refine aw_iadd (npc := 51) dX8_worthOf_50 rfl ?_
    refine aw_iret rfl dX8_worthOf_51 ?_
    exact (show wort (N (22 + 5 * f)) (N (24 + 5 * f)) = ((N (24 + 5 * f)) + 4) by rw [ek]; simp [wort, w90]) ▸ hq
  · refine aw_top (y := 2) ek ?_
    refine aw_tableIn (npc := 52) dX8_worthOf_13 (by decide) (by decide) rfl (by decide) ?_
    refine aw_bipush (npc := 54) (v := 99) (by decide) dX8_worthOf_52 rfl ?_
    refine aw_iload_n (npc := 55) rfl dX8_worthOf_54 rfl ?_
    refine aw_isub (npc := 56) dX8_worthOf_55 rfl ?_
    refine aw_iret rfl dX8_worthOf_56 ?_
    exact (show wort (N (22 + 5 * f)) (N (24 + 5 * f)) = (99 - (N (24 + 5 * f))) by rw [ek]; simp [wort, w90]) ▸ hq
  · refine aw_top (y := 3) ek ?_
    refine aw_tableIn (npc := 57) dX8_worthOf_13 (by decide) (by decide) rfl (by decide) ?_
    refine aw_iconst (npc := 58) (v := 2) (by decide) dX8_worthOf_57 rfl ?_
    refine aw_iload_n (npc := 59) rfl dX8_worthOf_58 rfl ?_
    refine aw_iconst (npc := 60) (v := 4) (by decide) dX8_worthOf_59 rfl ?_
    refine aw_iadd (npc := 61) dX8_worthOf_60 rfl ?_
    refine aw_imul (npc := 62) dX8_worthOf_61 rfl ?_
    refine aw_iret rfl dX8_worthOf_62 ?_
    exact (show wort (N (22 + 5 * f)) (N (24 + 5 * f)) = (2 * ((N (24 + 5 * f)) + 4)) by rw [ek]; simp [wort, w90]) ▸ hq
  · refine aw_top (y := 4) ek ?_
    refine aw_tableIn (npc := 63) dX8_worthOf_13 (by decide) (by decide) rfl (by decide) ?_
    refine aw_bipush (npc := 65) (v := 90) (by decide) dX8_worthOf_63 rfl ?_
    refine aw_iload_n (npc := 66) rfl dX8_worthOf_65 rfl ?_
    refine aw_isub (npc := 67) dX8_worthOf_66 rfl ?_
    refine aw_iret rfl dX8_worthOf_67 ?_
    exact (show wort (N (22 + 5 * f)) (N (24 + 5 * f)) = (90 - (N (24 + 5 * f))) by rw [ek]; simp [wort, w90]) ▸ hq
  · refine aw_top (y := 5) ek ?_
    refine aw_tableIn (npc := 68) dX8_worthOf_13 (by decide) (by decide) rfl (by decide) ?_
    refine aw_bipush (npc := 70) (v := 7) (by decide) dX8_worthOf_68 rfl ?_
    refine aw_iret rfl dX8_worthOf_70 ?_
    exact (show wort (N (22 + 5 * f)) (N (24 + 5 * f)) = 7 by rw [ek]; simp [wort, w90]) ▸ hq
def coV (N : Nat → Int32) (tn wc w : Int32) : Int32 := if w = 0 then N 1 else if w = 1 then N 2 else if w = 2 then N 3 else if w = 3 then N 4 else if w = 4 then N 5 else if w = 5 then N 7 else if w = 6 then wc else if w = 7 then tn else if w = 8 then N 0 else (-1000000001)
set_option maxHeartbeats 4000000 in
set_option maxRecDepth 100000 in
theorem C_count {X : List Int32} {d rc rs n : Nat} {Q : am_Q} {h : am_H} {N : Nat → Int32} {tx : List Value} {lk mv : Nat → Int32} {ik wc : Int32} {fr c : Nat} {w : Int32} {r tp cd : Nat → Int32} {tn : Int32} (O : OB ik wc h) (F : QR 1 N tx lk mv h) (Rd : RD r tn tp cd h) (hq : Q (some (.int (coV N tn wc w))) n h) : AW X mX7_count (d + 12) rc rs 0 [some (.ref 0), some (.int w)] [] n h Q := by
  refine aw_iload_n (npc := 1) rfl dX7_count_0 rfl ?_
  rcases sw_0_8 w with rfl | rfl | rfl | rfl | rfl | rfl | rfl | rfl | rfl | hs1
  · refine aw_tableIn (npc := 52) dX7_count_1 (by decide) (by decide) rfl (by decide) ?_
    refine aw_aload_n (npc := 53) rfl dX7_count_52 rfl ?_
    refine aw_get (npc := 56) dX7_count_53 rfl kf_X7_10 O.1 rfl ?_
    refine aw_get (npc := 59) dX7_count_56 rfl kf_X7_79 F.1 rfl ?_
    refine aw_iret rfl dX7_count_59 ?_
    exact (show coV N tn wc 0 = (N 1) by simp [coV, cI]) ▸ hq
  · refine aw_tableIn (npc := 60) dX7_count_1 (by decide) (by decide) rfl (by decide) ?_
    refine aw_aload_n (npc := 61) rfl dX7_count_60 rfl ?_
    refine aw_get (npc := 64) dX7_count_61 rfl kf_X7_10 O.1 rfl ?_
    refine aw_get (npc := 67) dX7_count_64 rfl kf_X7_160 F.1 rfl ?_
    refine aw_iret rfl dX7_count_67 ?_
    exact (show coV N tn wc 1 = (N 2) by simp [coV, cI]) ▸ hq
  · refine aw_tableIn (npc := 68) dX7_count_1 (by decide) (by decide) rfl (by decide) ?_
    refine aw_aload_n (npc := 69) rfl dX7_count_68 rfl ?_
    refine aw_get (npc := 72) dX7_count_69 rfl kf_X7_10 O.1 rfl ?_
    refine aw_get (npc := 75) dX7_count_72 rfl kf_X7_139 F.1 rfl ?_
    refine aw_iret rfl dX7_count_75 ?_
    exact (show coV N tn wc 2 = (N 3) by simp [coV, cI]) ▸ hq
  · refine aw_tableIn (npc := 76) dX7_count_1 (by decide) (by decide) rfl (by decide) ?_
    refine aw_aload_n (npc := 77) rfl dX7_count_76 rfl ?_
    refine aw_get (npc := 80) dX7_count_77 rfl kf_X7_10 O.1 rfl ?_
    refine aw_get (npc := 83) dX7_count_80 rfl kf_X7_142 F.1 rfl ?_
    refine aw_iret rfl dX7_count_83 ?_
    exact (show coV N tn wc 3 = (N 4) by simp [coV, cI]) ▸ hq
  · refine aw_tableIn (npc := 84) dX7_count_1 (by decide) (by decide) rfl (by decide) ?_
    refine aw_aload_n (npc := 85) rfl dX7_count_84 rfl ?_
    refine aw_get (npc := 88) dX7_count_85 rfl kf_X7_10 O.1 rfl ?_
    refine aw_get (npc := 91) dX7_count_88 rfl kf_X7_145 F.1 rfl ?_
    refine aw_iret rfl dX7_count_91 ?_
    exact (show coV N tn wc 4 = (N 5) by simp [coV, cI]) ▸ hq
  · refine aw_tableIn (npc := 92) dX7_count_1 (by decide) (by decide) rfl (by decide) ?_
    refine aw_aload_n (npc := 93) rfl dX7_count_92 rfl ?_
    refine aw_get (npc := 96) dX7_count_93 rfl kf_X7_10 O.1 rfl ?_
    refine aw_get (npc := 99) dX7_count_96 rfl kf_X7_246 F.1 rfl ?_
    refine aw_iret rfl dX7_count_99 ?_
    exact (show coV N tn wc 5 = (N 7) by simp [coV, cI]) ▸ hq
  · refine aw_tableIn (npc := 100) dX7_count_1 (by decide) (by decide) rfl (by decide) ?_
    refine aw_aload_n (npc := 101) rfl dX7_count_100 rfl ?_
    refine aw_get (npc := 104) dX7_count_101 rfl kf_X7_61 O.1 rfl ?_
    refine aw_iret rfl dX7_count_104 ?_
    exact (show coV N tn wc 6 = wc by simp [coV, cI]) ▸ hq
  · refine aw_tableIn (npc := 105) dX7_count_1 (by decide) (by decide) rfl (by decide) ?_
    refine aw_aload_n (npc := 106) rfl dX7_count_105 rfl ?_
    refine aw_get (npc := 109) dX7_count_106 rfl kf_X7_44 O.1 rfl ?_
    refine aw_get (npc := 112) dX7_count_109 rfl kf_X7_234 Rd.2.1 rfl ?_
    refine aw_iret rfl dX7_count_112 ?_
    exact (show coV N tn wc 7 = tn by simp [coV, cI]) ▸ hq
  · refine aw_tableIn (npc := 113) dX7_count_1 (by decide) (by decide) rfl (by decide) ?_
    refine aw_aload_n (npc := 114) rfl dX7_count_113 rfl ?_
    refine aw_get (npc := 117) dX7_count_114 rfl kf_X7_10 O.1 rfl ?_
    refine aw_get (npc := 120) dX7_count_117 rfl kf_X7_157 F.1 rfl ?_
    refine aw_iret rfl dX7_count_120 ?_
    exact (show coV N tn wc 8 = (N 0) by simp [coV, cI]) ▸ hq
  · refine aw_tableOut (npc := 121) dX7_count_1 hs1.1 (by decide) ?_
    refine aw_ldc (npc := 123) kc_X7_78 dX7_count_121 rfl ?_
    refine aw_iret rfl dX7_count_123 ?_
    exact (show coV N tn wc w = (-1000000001) by simp [coV, cI, hs1.2.1, hs1.2.2.1, hs1.2.2.2.1, hs1.2.2.2.2.1, hs1.2.2.2.2.2.1, hs1.2.2.2.2.2.2.1, hs1.2.2.2.2.2.2.2.1, hs1.2.2.2.2.2.2.2.2.1, hs1.2.2.2.2.2.2.2.2.2]) ▸ hq
set_option maxHeartbeats 4000000 in
set_option maxRecDepth 100000 in
theorem M_count {X : List Int32} {d rc rs n : Nat} {Q : am_Q} {h : am_H} {o N : Nat → Int32} {a : Nat → Nat → Int32} {fr c : Nat} {w : Int32} (F : MR o N a h) (hq : Q (some (.int (coV N (o 9) (o 35) w))) n h) : AW X mX8_count (d + 12) rc rs 0 [some (.ref 69), some (.int w)] [] n h Q := by
  refine aw_iload_n (npc := 1) rfl dX8_count_0 rfl ?_
  rcases sw_0_8 w with rfl | rfl | rfl | rfl | rfl | rfl | rfl | rfl | rfl | hs1
  · refine aw_tableIn (npc := 52) dX8_count_1 (by decide) (by decide) rfl (by decide) ?_
    refine aw_aload_n (npc := 53) rfl dX8_count_52 rfl ?_
    refine aw_get (npc := 56) dX8_count_53 rfl kf_X8_9 F.1 rfl ?_
    refine aw_iconst (npc := 57) (v := 1) (by decide) dX8_count_56 rfl ?_
    refine aw_iald (npc := 58) (x := N 1) (j := 1) dX8_count_57 rfl F.2.1 ⟨by decide, by decide⟩ (tl_at (by omega)) ?_
    refine aw_iret rfl dX8_count_58 ?_
    exact (show coV N (o 9) (o 35) 0 = (N 1) by simp [coV, cI]) ▸ hq
  · refine aw_tableIn (npc := 59) dX8_count_1 (by decide) (by decide) rfl (by decide) ?_
    refine aw_aload_n (npc := 60) rfl dX8_count_59 rfl ?_
    refine aw_get (npc := 63) dX8_count_60 rfl kf_X8_9 F.1 rfl ?_
    refine aw_iconst (npc := 64) (v := 2) (by decide) dX8_count_63 rfl ?_
    refine aw_iald (npc := 65) (x := N 2) (j := 2) dX8_count_64 rfl F.2.1 ⟨by decide, by decide⟩ (tl_at (by omega)) ?_
    refine aw_iret rfl dX8_count_65 ?_
    exact (show coV N (o 9) (o 35) 1 = (N 2) by simp [coV, cI]) ▸ hq
  · refine aw_tableIn (npc := 66) dX8_count_1 (by decide) (by decide) rfl (by decide) ?_
    refine aw_aload_n (npc := 67) rfl dX8_count_66 rfl ?_
    refine aw_get (npc := 70) dX8_count_67 rfl kf_X8_9 F.1 rfl ?_
    refine aw_iconst (npc := 71) (v := 1) (by decide) dX8_count_70 rfl ?_
    refine aw_iload_n (npc := 72) rfl dX8_count_71 rfl ?_
    refine aw_iaddV (npc := 73) (v := 3) dX8_count_72 rfl (by decide) ?_
    refine aw_iald (npc := 74) (x := N 3) (j := 3) dX8_count_73 rfl F.2.1 ⟨by decide, by decide⟩ (tl_at (by omega)) ?_
    refine aw_iret rfl dX8_count_74 ?_
    exact (show coV N (o 9) (o 35) 2 = (N 3) by simp [coV, cI]) ▸ hq
  · refine aw_tableIn (npc := 66) dX8_count_1 (by decide) (by decide) rfl (by decide) ?_
    refine aw_aload_n (npc := 67) rfl dX8_count_66 rfl ?_
    refine aw_get (npc := 70) dX8_count_67 rfl kf_X8_9 F.1 rfl ?_
    refine aw_iconst (npc := 71) (v := 1) (by decide) dX8_count_70 rfl ?_
    refine aw_iload_n (npc := 72) rfl dX8_count_71 rfl ?_
    refine aw_iaddV (npc := 73) (v := 4) dX8_count_72 rfl (by decide) ?_
    refine aw_iald (npc := 74) (x := N 4) (j := 4) dX8_count_73 rfl F.2.1 ⟨by decide, by decide⟩ (tl_at (by omega)) ?_
    refine aw_iret rfl dX8_count_74 ?_
    exact (show coV N (o 9) (o 35) 3 = (N 4) by simp [coV, cI]) ▸ hq
  · refine aw_tableIn (npc := 66) dX8_count_1 (by decide) (by decide) rfl (by decide) ?_
    refine aw_aload_n (npc := 67) rfl dX8_count_66 rfl ?_
    refine aw_get (npc := 70) dX8_count_67 rfl kf_X8_9 F.1 rfl ?_
    refine aw_iconst (npc := 71) (v := 1) (by decide) dX8_count_70 rfl ?_
    refine aw_iload_n (npc := 72) rfl dX8_count_71 rfl ?_
    refine aw_iaddV (npc := 73) (v := 5) dX8_count_72 rfl (by decide) ?_
    refine aw_iald (npc := 74) (x := N 5) (j := 5) dX8_count_73 rfl F.2.1 ⟨by decide, by decide⟩ (tl_at (by omega)) ?_
    refine aw_iret rfl dX8_count_74 ?_
    exact (show coV N (o 9) (o 35) 4 = (N 5) by simp [coV, cI]) ▸ hq
  · refine aw_tableIn (npc := 75) dX8_count_1 (by decide) (by decide) rfl (by decide) ?_
    refine aw_aload_n (npc := 76) rfl dX8_count_75 rfl ?_
    refine aw_get (npc := 79) dX8_count_76 rfl kf_X8_9 F.1 rfl ?_
    refine aw_bipush (npc := 81) (v := 7) (by decide) dX8_count_79 rfl ?_
    refine aw_iald (npc := 82) (x := N 7) (j := 7) dX8_count_81 rfl F.2.1 ⟨by decide, by decide⟩ (tl_at (by omega)) ?_
    refine aw_iret rfl dX8_count_82 ?_
    exact (show coV N (o 9) (o 35) 5 = (N 7) by simp [coV, cI]) ▸ hq
  · refine aw_tableIn (npc := 83) dX8_count_1 (by decide) (by decide) rfl (by decide) ?_
    refine aw_aload_n (npc := 84) rfl dX8_count_83 rfl ?_
    refine aw_get (npc := 87) dX8_count_84 rfl kf_X8_266 F.1 rfl ?_
    refine aw_iret rfl dX8_count_87 ?_
    exact (show coV N (o 9) (o 35) 6 = (o 35) by simp [coV, cI]) ▸ hq
  · refine aw_tableIn (npc := 88) dX8_count_1 (by decide) (by decide) rfl (by decide) ?_
    refine aw_aload_n (npc := 89) rfl dX8_count_88 rfl ?_
    refine aw_get (npc := 92) dX8_count_89 rfl kf_X8_192 F.1 rfl ?_
    refine aw_iret rfl dX8_count_92 ?_
    exact (show coV N (o 9) (o 35) 7 = (o 9) by simp [coV, cI]) ▸ hq
  · refine aw_tableIn (npc := 93) dX8_count_1 (by decide) (by decide) rfl (by decide) ?_
    refine aw_aload_n (npc := 94) rfl dX8_count_93 rfl ?_
    refine aw_get (npc := 97) dX8_count_94 rfl kf_X8_9 F.1 rfl ?_
    refine aw_iconst (npc := 98) (v := 0) (by decide) dX8_count_97 rfl ?_
    refine aw_iald (npc := 99) (x := N 0) (j := 0) dX8_count_98 rfl F.2.1 ⟨by decide, by decide⟩ (tl_at (by omega)) ?_
    refine aw_iret rfl dX8_count_99 ?_
    exact (show coV N (o 9) (o 35) 8 = (N 0) by simp [coV, cI]) ▸ hq
  · refine aw_tableOut (npc := 100) dX8_count_1 hs1.1 (by decide) ?_
    refine aw_ldc (npc := 102) kc_X8_91 dX8_count_100 rfl ?_
    refine aw_iret rfl dX8_count_102 ?_
    exact (show coV N (o 9) (o 35) w = (-1000000001) by simp [coV, cI, hs1.2.1, hs1.2.2.1, hs1.2.2.2.1, hs1.2.2.2.2.1, hs1.2.2.2.2.2.1, hs1.2.2.2.2.2.2.1, hs1.2.2.2.2.2.2.2.1, hs1.2.2.2.2.2.2.2.2.1, hs1.2.2.2.2.2.2.2.2.2]) ▸ hq
noncomputable def tbV (N : Nat → Int32) (fr : Nat) (w : Int32) : Int32 := if w = 0 then hs0 N else if w = 1 then hs1 N else if w = 2 then cI (peace N) 1 0 else if w = 3 then snum N else if w = 4 then N 6 else if w = 5 then sumM 25 N fr 0 0 else if w = 6 then sumM 26 N fr 0 0 else (-1000000001)
set_option maxHeartbeats 4000000 in
set_option maxRecDepth 100000 in
theorem C_table {X : List Int32} {d rc rs n : Nat} {Q : am_Q} {h : am_H} {N : Nat → Int32} {tx : List Value} {lk mv : Nat → Int32} {ik wc : Int32} {fr c : Nat} {w : Int32} (O : OB ik wc h) (F : QR 1 N tx lk mv h) (hR : RG N fr c) (hq : Q (some (.int (tbV N fr w))) n h) : AW X mX7_table (d + 12) rc rs 0 [some (.ref 0), some (.int w)] [] n h Q := by
  have h8r := hR.2.1
  have h14r := hR.2.2.2.1
  refine aw_iload_n (npc := 1) rfl dX7_table_0 rfl ?_
  rcases sw_0_6 w with rfl | rfl | rfl | rfl | rfl | rfl | rfl | hs1
  · refine aw_tableIn (npc := 44) dX7_table_1 (by decide) (by decide) rfl (by decide) ?_
    refine aw_aload_n (npc := 45) rfl dX7_table_44 rfl ?_
    refine aw_get (npc := 48) dX7_table_45 rfl kf_X7_10 O.1 rfl ?_
    refine aw_iconst (npc := 49) (v := 0) (by decide) dX7_table_48 rfl ?_
    refine aw_callV (npc := 52) (N := mX0_hasOf) (b := 1) (mc := 0) (ms := 0) (A := [.int 0]) (S := []) (L0 := [some (.ref 1), some (.int 0), none, none, none]) dX7_table_49 rfl km_X0_hasOf kk_X7_166 F.1 ⟨by decide, rfl⟩ rfl ⟨rfl, by decide⟩ rfl (Nat.le_of_ble_eq_true rfl) (Nat.zero_add _) (Nat.zero_add _) rfl ?_
    refine g_has0 F ?_
    refine aw_re (S' := [.int (hs0 N)]) rfl ?_
    refine aw_iret rfl dX7_table_52 ?_
    exact (show tbV N fr 0 = (hs0 N) by simp [tbV, cI]) ▸ hq
  · refine aw_tableIn (npc := 53) dX7_table_1 (by decide) (by decide) rfl (by decide) ?_
    refine aw_aload_n (npc := 54) rfl dX7_table_53 rfl ?_
    refine aw_get (npc := 57) dX7_table_54 rfl kf_X7_10 O.1 rfl ?_
    refine aw_iconst (npc := 58) (v := 1) (by decide) dX7_table_57 rfl ?_
    refine aw_callV (npc := 61) (N := mX0_hasOf) (b := 1) (mc := 0) (ms := 0) (A := [.int 1]) (S := []) (L0 := [some (.ref 1), some (.int 1), none, none, none]) dX7_table_58 rfl km_X0_hasOf kk_X7_166 F.1 ⟨by decide, rfl⟩ rfl ⟨rfl, by decide⟩ rfl (Nat.le_of_ble_eq_true rfl) (Nat.zero_add _) (Nat.zero_add _) rfl ?_
    refine g_has1 F ?_
    refine aw_re (S' := [.int (hs1 N)]) rfl ?_
    refine aw_iret rfl dX7_table_61 ?_
    exact (show tbV N fr 1 = (hs1 N) by simp [tbV, cI]) ▸ hq
  · refine aw_tableIn (npc := 62) dX7_table_1 (by decide) (by decide) rfl (by decide) ?_
    refine aw_aload_n (npc := 63) rfl dX7_table_62 rfl ?_
    refine aw_get (npc := 66) dX7_table_63 rfl kf_X7_10 O.1 rfl ?_
    refine aw_callV (npc := 69) (N := mX0_isPeace) (b := 1) (mc := 0) (ms := 0) (A := []) (S := []) (L0 := [some (.ref 1)]) dX7_table_66 rfl km_X0_isPeace kk_X7_169 F.1 ⟨by decide, rfl⟩ rfl ⟨rfl, by decide⟩ rfl (Nat.le_of_ble_eq_true rfl) (Nat.zero_add _) (Nat.zero_add _) rfl ?_
    refine g_peace F (fun hp2 => ?_) (fun hp2 => ?_)
    · refine aw_re (S' := [.int 1]) rfl ?_
      refine aw_if_eq (npc := 72) (tgt := 76) dX7_table_69 rfl (by decide) (fun hc => absurd hc (by decide)) (fun _ => ?_)
      refine aw_iconst (npc := 73) (v := 1) (by decide) dX7_table_72 rfl ?_
      refine aw_goto (npc := 77) dX7_table_73 (by decide) ?_
      refine aw_iret rfl dX7_table_77 ?_
      exact (show tbV N fr 2 = 1 by simp [tbV, cI, hp2]) ▸ hq
    · refine aw_re (S' := [.int 0]) rfl ?_
      refine aw_if_eq (npc := 72) (tgt := 76) dX7_table_69 rfl (by decide) (fun _ => ?_) (fun hc => absurd (by decide) hc)
      refine aw_iconst (npc := 77) (v := 0) (by decide) dX7_table_76 rfl ?_
      refine aw_iret rfl dX7_table_77 ?_
      exact (show tbV N fr 2 = 0 by simp [tbV, cI, hp2]) ▸ hq
  · refine aw_tableIn (npc := 78) dX7_table_1 (by decide) (by decide) rfl (by decide) ?_
    refine aw_aload_n (npc := 79) rfl dX7_table_78 rfl ?_
    refine aw_get (npc := 82) dX7_table_79 rfl kf_X7_10 O.1 rfl ?_
    refine aw_callV (npc := 85) (N := mX0_standsAsNumber) (b := 1) (mc := 0) (ms := 0) (A := []) (S := []) (L0 := [some (.ref 1), none, none]) dX7_table_82 rfl km_X0_standsAsNumber kk_X7_173 F.1 ⟨by decide, rfl⟩ rfl ⟨rfl, by decide⟩ rfl (Nat.le_of_ble_eq_true rfl) (Nat.zero_add _) (Nat.zero_add _) rfl ?_
    refine g_snum F ?_
    refine aw_re (S' := [.int (snum N)]) rfl ?_
    refine aw_iret rfl dX7_table_85 ?_
    exact (show tbV N fr 3 = (snum N) by simp [tbV, cI]) ▸ hq
  · refine aw_tableIn (npc := 86) dX7_table_1 (by decide) (by decide) rfl (by decide) ?_
    refine aw_aload_n (npc := 87) rfl dX7_table_86 rfl ?_
    refine aw_get (npc := 90) dX7_table_87 rfl kf_X7_10 O.1 rfl ?_
    refine aw_get (npc := 93) dX7_table_90 rfl kf_X7_176 F.1 rfl ?_
    refine aw_iret rfl dX7_table_93 ?_
    exact (show tbV N fr 4 = (N 6) by simp [tbV, cI]) ▸ hq
  · refine aw_tableIn (npc := 94) dX7_table_1 (by decide) (by decide) rfl (by decide) ?_
    refine aw_aload_n (npc := 95) rfl dX7_table_94 rfl ?_
    refine aw_get (npc := 98) dX7_table_95 rfl kf_X7_10 O.1 rfl ?_
    refine aw_aload_n (npc := 99) rfl dX7_table_98 rfl ?_
    refine aw_get (npc := 102) dX7_table_99 rfl kf_X7_10 O.1 rfl ?_
    refine aw_get (npc := 105) dX7_table_102 rfl kf_X7_99 F.1 rfl ?_
    refine aw_callV (npc := 108) (N := mX0_sumOverFriends) (b := 1) (mc := 0) (ms := 0) (A := [.ref 8]) (S := []) (L0 := [some (.ref 1), some (.ref 8), none, none]) dX7_table_105 rfl km_X0_sumOverFriends kk_X7_179 F.1 ⟨by decide, rfl⟩ rfl ⟨rfl, by decide⟩ rfl (Nat.le_of_ble_eq_true rfl) (Nat.zero_add _) (Nat.zero_add _) rfl ?_
    refine g_sumS (b := 1) F hR.1 h8r ?_
    refine aw_re (S' := [.int (sumM 25 N fr 0 0)]) rfl ?_
    refine aw_iret rfl dX7_table_108 ?_
    exact (show tbV N fr 5 = (sumM 25 N fr 0 0) by simp [tbV, cI]) ▸ hq
  · refine aw_tableIn (npc := 109) dX7_table_1 (by decide) (by decide) rfl (by decide) ?_
    refine aw_aload_n (npc := 110) rfl dX7_table_109 rfl ?_
    refine aw_get (npc := 113) dX7_table_110 rfl kf_X7_10 O.1 rfl ?_
    refine aw_aload_n (npc := 114) rfl dX7_table_113 rfl ?_
    refine aw_get (npc := 117) dX7_table_114 rfl kf_X7_10 O.1 rfl ?_
    refine aw_get (npc := 120) dX7_table_117 rfl kf_X7_102 F.1 rfl ?_
    refine aw_callV (npc := 123) (N := mX0_sumOverFriends) (b := 1) (mc := 0) (ms := 0) (A := [.ref 9]) (S := []) (L0 := [some (.ref 1), some (.ref 9), none, none]) dX7_table_120 rfl km_X0_sumOverFriends kk_X7_179 F.1 ⟨by decide, rfl⟩ rfl ⟨rfl, by decide⟩ rfl (Nat.le_of_ble_eq_true rfl) (Nat.zero_add _) (Nat.zero_add _) rfl ?_
    refine g_sumY (b := 1) F hR.1 h8r ?_
    refine aw_re (S' := [.int (sumM 26 N fr 0 0)]) rfl ?_
    refine aw_iret rfl dX7_table_123 ?_
    exact (show tbV N fr 6 = (sumM 26 N fr 0 0) by simp [tbV, cI]) ▸ hq
  · refine aw_tableOut (npc := 124) dX7_table_1 hs1.1 (by decide) ?_
    refine aw_ldc (npc := 126) kc_X7_78 dX7_table_124 rfl ?_
    refine aw_iret rfl dX7_table_126 ?_
    exact (show tbV N fr w = (-1000000001) by simp [tbV, cI, hs1.2.1, hs1.2.2.1, hs1.2.2.2.1, hs1.2.2.2.2.1, hs1.2.2.2.2.2.1, hs1.2.2.2.2.2.2.1, hs1.2.2.2.2.2.2.2]) ▸ hq
set_option maxHeartbeats 4000000 in
set_option maxRecDepth 100000 in
theorem M_table {X : List Int32} {d rc rs n : Nat} {Q : am_Q} {h : am_H} {o N : Nat → Int32} {a : Nat → Nat → Int32} {fr c : Nat} {w : Int32} (F : MR o N a h) (hR : RG N fr c) (hq : Q (some (.int (tbV N fr w))) n h) : AW X mX8_table (d + 12) rc rs 0 [some (.ref 69), some (.int w)] [] n h Q := by
  have h8r := hR.2.1
  have h14r := hR.2.2.2.1
  refine aw_iload_n (npc := 1) rfl dX8_table_0 rfl ?_
  rcases sw_0_6 w with rfl | rfl | rfl | rfl | rfl | rfl | rfl | hs1
  · refine aw_tableIn (npc := 44) dX8_table_1 (by decide) (by decide) rfl (by decide) ?_
    refine aw_aload_n (npc := 45) rfl dX8_table_44 rfl ?_
    refine aw_iload_n (npc := 46) rfl dX8_table_45 rfl ?_
    refine aw_callV (npc := 49) (N := mX8_has) (b := 69) (mc := 0) (ms := 0) (A := [.int 0]) (S := []) (L0 := [some (.ref 69), some (.int 0), none, none, none]) dX8_table_46 rfl km_X8_has kk_X8_143 F.1 ⟨by decide, rfl⟩ rfl ⟨rfl, by decide⟩ rfl (Nat.le_of_ble_eq_true rfl) (Nat.zero_add _) (Nat.zero_add _) rfl ?_
    refine m_has0 F ?_
    refine aw_re (S' := [.int (hs0 N)]) rfl ?_
    refine aw_iret rfl dX8_table_49 ?_
    exact (show tbV N fr 0 = (hs0 N) by simp [tbV, cI]) ▸ hq
  · refine aw_tableIn (npc := 44) dX8_table_1 (by decide) (by decide) rfl (by decide) ?_
    refine aw_aload_n (npc := 45) rfl dX8_table_44 rfl ?_
    refine aw_iload_n (npc := 46) rfl dX8_table_45 rfl ?_
    refine aw_callV (npc := 49) (N := mX8_has) (b := 69) (mc := 0) (ms := 0) (A := [.int 1]) (S := []) (L0 := [some (.ref 69), some (.int 1), none, none, none]) dX8_table_46 rfl km_X8_has kk_X8_143 F.1 ⟨by decide, rfl⟩ rfl ⟨rfl, by decide⟩ rfl (Nat.le_of_ble_eq_true rfl) (Nat.zero_add _) (Nat.zero_add _) rfl ?_
    refine m_has1 F ?_
    refine aw_re (S' := [.int (hs1 N)]) rfl ?_
    refine aw_iret rfl dX8_table_49 ?_
    exact (show tbV N fr 1 = (hs1 N) by simp [tbV, cI]) ▸ hq
  · refine aw_tableIn (npc := 50) dX8_table_1 (by decide) (by decide) rfl (by decide) ?_
    refine aw_aload_n (npc := 51) rfl dX8_table_50 rfl ?_
    refine aw_callV (npc := 54) (N := mX8_isPeace) (b := 69) (mc := 0) (ms := 0) (A := []) (S := []) (L0 := [some (.ref 69)]) dX8_table_51 rfl km_X8_isPeace kk_X8_149 F.1 ⟨by decide, rfl⟩ rfl ⟨rfl, by decide⟩ rfl (Nat.le_of_ble_eq_true rfl) (Nat.zero_add _) (Nat.zero_add _) rfl ?_
    refine m_peace F (fun hp2 => ?_) (fun hp2 => ?_)
    · refine aw_re (S' := [.int 1]) rfl ?_
      refine aw_if_eq (npc := 57) (tgt := 61) dX8_table_54 rfl (by decide) (fun hc => absurd hc (by decide)) (fun _ => ?_)
      refine aw_iconst (npc := 58) (v := 1) (by decide) dX8_table_57 rfl ?_
      refine aw_goto (npc := 62) dX8_table_58 (by decide) ?_
      refine aw_iret rfl dX8_table_62 ?_
      exact (show tbV N fr 2 = 1 by simp [tbV, cI, hp2]) ▸ hq
    · refine aw_re (S' := [.int 0]) rfl ?_
      refine aw_if_eq (npc := 57) (tgt := 61) dX8_table_54 rfl (by decide) (fun _ => ?_) (fun hc => absurd (by decide) hc)
      refine aw_iconst (npc := 62) (v := 0) (by decide) dX8_table_61 rfl ?_
      refine aw_iret rfl dX8_table_62 ?_
      exact (show tbV N fr 2 = 0 by simp [tbV, cI, hp2]) ▸ hq
  · refine aw_tableIn (npc := 63) dX8_table_1 (by decide) (by decide) rfl (by decide) ?_
    refine aw_aload_n (npc := 64) rfl dX8_table_63 rfl ?_
    refine aw_callV (npc := 67) (N := mX8_stands) (b := 69) (mc := 0) (ms := 0) (A := []) (S := []) (L0 := [some (.ref 69), none, none]) dX8_table_64 rfl km_X8_stands kk_X8_166 F.1 ⟨by decide, rfl⟩ rfl ⟨rfl, by decide⟩ rfl (Nat.le_of_ble_eq_true rfl) (Nat.zero_add _) (Nat.zero_add _) rfl ?_
    refine m_stands F ?_
    refine aw_re (S' := [.int (snum N)]) rfl ?_
    refine aw_iret rfl dX8_table_67 ?_
    exact (show tbV N fr 3 = (snum N) by simp [tbV, cI]) ▸ hq
  · refine aw_tableIn (npc := 68) dX8_table_1 (by decide) (by decide) rfl (by decide) ?_
    refine aw_aload_n (npc := 69) rfl dX8_table_68 rfl ?_
    refine aw_get (npc := 72) dX8_table_69 rfl kf_X8_9 F.1 rfl ?_
    refine aw_bipush (npc := 74) (v := 6) (by decide) dX8_table_72 rfl ?_
    refine aw_iald (npc := 75) (x := N 6) (j := 6) dX8_table_74 rfl F.2.1 ⟨by decide, by decide⟩ (tl_at (by omega)) ?_
    refine aw_iret rfl dX8_table_75 ?_
    exact (show tbV N fr 4 = (N 6) by simp [tbV, cI]) ▸ hq
  · refine aw_tableIn (npc := 76) dX8_table_1 (by decide) (by decide) rfl (by decide) ?_
    refine aw_aload_n (npc := 77) rfl dX8_table_76 rfl ?_
    refine aw_iconst (npc := 78) (v := 3) (by decide) dX8_table_77 rfl ?_
    refine aw_callV (npc := 81) (N := mX8_sumOf) (b := 69) (mc := 0) (ms := 0) (A := [.int 3]) (S := []) (L0 := [some (.ref 69), some (.int 3), none, none]) dX8_table_78 rfl km_X8_sumOf kk_X8_160 F.1 ⟨by decide, rfl⟩ rfl ⟨rfl, by decide⟩ rfl (Nat.le_of_ble_eq_true rfl) (Nat.zero_add _) (Nat.zero_add _) rfl ?_
    refine m_sumS F hR.1 h8r ?_
    refine aw_re (S' := [.int (sumM 25 N fr 0 0)]) rfl ?_
    refine aw_iret rfl dX8_table_81 ?_
    exact (show tbV N fr 5 = (sumM 25 N fr 0 0) by simp [tbV, cI]) ▸ hq
  · refine aw_tableIn (npc := 82) dX8_table_1 (by decide) (by decide) rfl (by decide) ?_
    refine aw_aload_n (npc := 83) rfl dX8_table_82 rfl ?_
    refine aw_iconst (npc := 84) (v := 4) (by decide) dX8_table_83 rfl ?_
    refine aw_callV (npc := 87) (N := mX8_sumOf) (b := 69) (mc := 0) (ms := 0) (A := [.int 4]) (S := []) (L0 := [some (.ref 69), some (.int 4), none, none]) dX8_table_84 rfl km_X8_sumOf kk_X8_160 F.1 ⟨by decide, rfl⟩ rfl ⟨rfl, by decide⟩ rfl (Nat.le_of_ble_eq_true rfl) (Nat.zero_add _) (Nat.zero_add _) rfl ?_
    refine m_sumY F hR.1 h8r ?_
    refine aw_re (S' := [.int (sumM 26 N fr 0 0)]) rfl ?_
    refine aw_iret rfl dX8_table_87 ?_
    exact (show tbV N fr 6 = (sumM 26 N fr 0 0) by simp [tbV, cI]) ▸ hq
  · refine aw_tableOut (npc := 88) dX8_table_1 hs1.1 (by decide) ?_
    refine aw_ldc (npc := 90) kc_X8_91 dX8_table_88 rfl ?_
    refine aw_iret rfl dX8_table_90 ?_
    exact (show tbV N fr w = (-1000000001) by simp [tbV, cI, hs1.2.1, hs1.2.2.1, hs1.2.2.2.1, hs1.2.2.2.2.1, hs1.2.2.2.2.2.1, hs1.2.2.2.2.2.2.1, hs1.2.2.2.2.2.2.2]) ▸ hq
noncomputable def toV (N : Nat → Int32) (τ f w : Int32) : Int32 := cI (wi f 0 (N 1 - 1)) (if w = 0 then N (22 + 5 * fN f) else if w = 1 then N (23 + 5 * fN f) else if w = 2 then N (24 + 5 * fN f) else if w = 3 then N (25 + 5 * fN f) else if w = 4 then N (26 + 5 * fN f) else if w = 5 then τ else if w = 6 then orN (ty N (fN f)) else if w = 7 then wort (N (22 + 5 * fN f)) (N (24 + 5 * fN f)) else (-1000000001)) (-1000000001)
set_option maxHeartbeats 4000000 in
set_option maxRecDepth 100000 in
theorem C_told {X : List Int32} {d rc rs n : Nat} {Q : am_Q} {h : am_H} {N : Nat → Int32} {tx : List Value} {lk mv : Nat → Int32} {ik wc : Int32} {fr c : Nat} {f : Int32} {w : Int32} {tb : TB} (O : OB ik wc h) (F : QR 1 N tx lk mv h) (G : TT tb h) (hR : RG N fr c) (hv : TXv tb.1 c tx) (hq : ∀ v9 h9, (∃ τ, (wi f 0 (N 1 - 1) → w = 5 → TNr tb tx lk N (fN f) τ) ∧ v9 = toV N τ f w) → QR 1 N tx lk mv h9 → TT tb h9 → am_fp (fun k => k < 92) h9 h → Q (some (.int v9)) n h9) : AW X mX7_told (d + 12) rc rs 0 [some (.ref 0), some (.int f), some (.int w)] [] n h Q := by
  have h8r := hR.2.1
  have h14r := hR.2.2.2.1
  refine aw_aload_n (npc := 1) rfl dX7_told_0 rfl ?_
  refine aw_get (npc := 4) dX7_told_1 rfl kf_X7_10 O.1 rfl ?_
  refine aw_iload_n (npc := 5) rfl dX7_told_4 rfl ?_
  refine aw_callV (npc := 8) (N := mX0_isFriend) (b := 1) (mc := 0) (ms := 0) (A := [.int f]) (S := []) (L0 := [some (.ref 1), some (.int f)]) dX7_told_5 rfl km_X0_isFriend kk_X7_87 F.1 ⟨by decide, rfl⟩ rfl ⟨rfl, by decide⟩ rfl (Nat.le_of_ble_eq_true rfl) (Nat.zero_add _) (Nat.zero_add _) rfl ?_
  refine g_isFriend F (fun hw1 => ?_) (fun hw1 => ?_)
  · obtain ⟨fn, hfn, efn⟩ := wi_idx hR.1 (by have z := hR.2.1; omega) hw1
    subst efn
    have h8fn : fn < 8 := by have z := hR.2.1; omega
    have ffn : fN (nI fn) = fn := fN_nI (by omega)
    refine aw_re (S' := [.int 1]) rfl ?_
    refine aw_if_ne (npc := 11) (tgt := 14) dX7_told_8 rfl (by decide) (fun _ => ?_) (fun hc => absurd hc (by decide))
    refine aw_iload_n (npc := 15) rfl dX7_told_14 rfl ?_
    rcases sw_0_7 w with rfl | rfl | rfl | rfl | rfl | rfl | rfl | rfl | hs2
    · refine aw_tableIn (npc := 60) dX7_told_15 (by decide) (by decide) rfl (by decide) ?_
      refine aw_aload_n (npc := 61) rfl dX7_told_60 rfl ?_
      refine aw_get (npc := 64) dX7_told_61 rfl kf_X7_10 O.1 rfl ?_
      refine aw_get (npc := 67) dX7_told_64 rfl kf_X7_90 F.1 rfl ?_
      refine aw_iload_n (npc := 68) rfl dX7_told_67 rfl ?_
      refine aw_iald (npc := 69) (x := N (22 + 5 * fn)) (j := fn) dX7_told_68 rfl F.2.2.2.2.1 (am_ix_nI (by omega)) (tl_at (by omega)) ?_
      refine aw_iret rfl dX7_told_69 ?_
      exact hq _ _ ⟨0, fun _ z => absurd z (by simp [hw1, ffn]), by simp [toV, cI, hw1, ffn]⟩ F G am_fp0
    · refine aw_tableIn (npc := 70) dX7_told_15 (by decide) (by decide) rfl (by decide) ?_
      refine aw_aload_n (npc := 71) rfl dX7_told_70 rfl ?_
      refine aw_get (npc := 74) dX7_told_71 rfl kf_X7_10 O.1 rfl ?_
      refine aw_get (npc := 77) dX7_told_74 rfl kf_X7_93 F.1 rfl ?_
      refine aw_iload_n (npc := 78) rfl dX7_told_77 rfl ?_
      refine aw_iald (npc := 79) (x := N (23 + 5 * fn)) (j := fn) dX7_told_78 rfl F.2.2.2.2.2.1 (am_ix_nI (by omega)) (tl_at (by omega)) ?_
      refine aw_iret rfl dX7_told_79 ?_
      exact hq _ _ ⟨0, fun _ z => absurd z (by simp [hw1, ffn]), by simp [toV, cI, hw1, ffn]⟩ F G am_fp0
    · refine aw_tableIn (npc := 80) dX7_told_15 (by decide) (by decide) rfl (by decide) ?_
      refine aw_aload_n (npc := 81) rfl dX7_told_80 rfl ?_
      refine aw_get (npc := 84) dX7_told_81 rfl kf_X7_10 O.1 rfl ?_
      refine aw_get (npc := 87) dX7_told_84 rfl kf_X7_96 F.1 rfl ?_
      refine aw_iload_n (npc := 88) rfl dX7_told_87 rfl ?_
      refine aw_iald (npc := 89) (x := N (24 + 5 * fn)) (j := fn) dX7_told_88 rfl F.2.2.2.2.2.2.1 (am_ix_nI (by omega)) (tl_at (by omega)) ?_
      refine aw_iret rfl dX7_told_89 ?_
      exact hq _ _ ⟨0, fun _ z => absurd z (by simp [hw1, ffn]), by simp [toV, cI, hw1, ffn]⟩ F G am_fp0
    · refine aw_tableIn (npc := 90) dX7_told_15 (by decide) (by decide) rfl (by decide) ?_
      refine aw_aload_n (npc := 91) rfl dX7_told_90 rfl ?_
      refine aw_get (npc := 94) dX7_told_91 rfl kf_X7_10 O.1 rfl ?_
      refine aw_get (npc := 97) dX7_told_94 rfl kf_X7_99 F.1 rfl ?_
      refine aw_iload_n (npc := 98) rfl dX7_told_97 rfl ?_
      refine aw_iald (npc := 99) (x := N (25 + 5 * fn)) (j := fn) dX7_told_98 rfl F.2.2.2.2.2.2.2.1 (am_ix_nI (by omega)) (tl_at (by omega)) ?_
      refine aw_iret rfl dX7_told_99 ?_
      exact hq _ _ ⟨0, fun _ z => absurd z (by simp [hw1, ffn]), by simp [toV, cI, hw1, ffn]⟩ F G am_fp0
    · refine aw_tableIn (npc := 100) dX7_told_15 (by decide) (by decide) rfl (by decide) ?_
      refine aw_aload_n (npc := 101) rfl dX7_told_100 rfl ?_
      refine aw_get (npc := 104) dX7_told_101 rfl kf_X7_10 O.1 rfl ?_
      refine aw_get (npc := 107) dX7_told_104 rfl kf_X7_102 F.1 rfl ?_
      refine aw_iload_n (npc := 108) rfl dX7_told_107 rfl ?_
      refine aw_iald (npc := 109) (x := N (26 + 5 * fn)) (j := fn) dX7_told_108 rfl F.2.2.2.2.2.2.2.2.1 (am_ix_nI (by omega)) (tl_at (by omega)) ?_
      refine aw_iret rfl dX7_told_109 ?_
      exact hq _ _ ⟨0, fun _ z => absurd z (by simp [hw1, ffn]), by simp [toV, cI, hw1, ffn]⟩ F G am_fp0
    · refine aw_tableIn (npc := 110) dX7_told_15 (by decide) (by decide) rfl (by decide) ?_
      refine aw_aload_n (npc := 111) rfl dX7_told_110 rfl ?_
      refine aw_get (npc := 114) dX7_told_111 rfl kf_X7_10 O.1 rfl ?_
      refine aw_iload_n (npc := 115) rfl dX7_told_114 rfl ?_
      refine aw_callV (npc := 118) (N := mX0_toneOf) (b := 1) (mc := 0) (ms := 0) (A := [.int (nI fn)]) (S := []) (L0 := [some (.ref 1), some (.int (nI fn)), none, none]) dX7_told_115 rfl km_X0_toneOf kk_X7_105 F.1 ⟨by decide, rfl⟩ rfl ⟨rfl, by decide⟩ rfl (Nat.le_of_ble_eq_true rfl) (Nat.zero_add _) (Nat.zero_add _) rfl ?_
      refine g_tone (f := fn) F G hR.2.2.1 hv (by omega) (hR.2.2.2.2.1 fn (by omega)).1 (by omega) (fun τ3 hp4 ht5 F6 G7 fz8 => ?_)
      have O9 := ob_frame O (fz8 0 (by omega)) (fz8 43 (by omega)) (fz8 44 (by omega))
      refine aw_re (S' := [.int τ3]) rfl ?_
      refine aw_iret rfl dX7_told_118 ?_
      exact hq _ _ ⟨τ3, fun _ _ => ffn.symm ▸ ht5, by simp [toV, cI, hw1, ffn]⟩ F6 G7 (am_fpT (fun k (hk : k < 92) => fz8 k (by omega)) am_fp0)
    · refine aw_tableIn (npc := 119) dX7_told_15 (by decide) (by decide) rfl (by decide) ?_
      refine aw_aload_n (npc := 120) rfl dX7_told_119 rfl ?_
      refine aw_get (npc := 123) dX7_told_120 rfl kf_X7_10 O.1 rfl ?_
      refine aw_iload_n (npc := 124) rfl dX7_told_123 rfl ?_
      refine aw_callV (npc := 127) (N := mX0_termYielded) (b := 1) (mc := 0) (ms := 0) (A := [.int (nI fn)]) (S := []) (L0 := [some (.ref 1), some (.int (nI fn)), none, none, none, none, none, none, none, none, none, none]) dX7_told_124 rfl km_X0_termYielded kk_X7_109 F.1 ⟨by decide, rfl⟩ rfl ⟨rfl, by decide⟩ rfl (Nat.le_of_ble_eq_true rfl) (Nat.zero_add _) (Nat.zero_add _) rfl ?_
      refine g_term (f := fn) F (by omega) (hR.2.2.2.2.1 fn (by omega)).1 (hR.2.2.2.2.1 fn (by omega)).2.1 ?_
      refine aw_re (S' := [.int (ty N fn)]) rfl ?_
      refine aw_callS (npc := 130) (N := mX7_orNone) (mc := 0) (ms := 0) (A := [.int (ty N fn)]) (S := []) (L0 := [some (.int (ty N fn))]) dX7_told_127 rfl km_X7_orNone kk_X7_112 rfl ⟨rfl, by decide⟩ rfl (Nat.le_of_ble_eq_true rfl) (Nat.zero_add _) (Nat.zero_add _) rfl ?_
      refine c_X7_orNone ?_
      refine aw_re (S' := [.int (orN (ty N fn))]) rfl ?_
      refine aw_iret rfl dX7_told_130 ?_
      exact hq _ _ ⟨0, fun _ z => absurd z (by simp [hw1, ffn]), by simp [toV, cI, hw1, ffn]⟩ F G am_fp0
    · refine aw_tableIn (npc := 131) dX7_told_15 (by decide) (by decide) rfl (by decide) ?_
      refine aw_aload_n (npc := 132) rfl dX7_told_131 rfl ?_
      refine aw_get (npc := 135) dX7_told_132 rfl kf_X7_10 O.1 rfl ?_
      refine aw_get (npc := 138) dX7_told_135 rfl kf_X7_90 F.1 rfl ?_
      refine aw_iload_n (npc := 139) rfl dX7_told_138 rfl ?_
      refine aw_iald (npc := 140) (x := N (22 + 5 * fn)) (j := fn) dX7_told_139 rfl F.2.2.2.2.1 (am_ix_nI (by omega)) (tl_at (by omega)) ?_
      refine aw_aload_n (npc := 141) rfl dX7_told_140 rfl ?_
      refine aw_get (npc := 144) dX7_told_141 rfl kf_X7_10 O.1 rfl ?_
      refine aw_get (npc := 147) dX7_told_144 rfl kf_X7_96 F.1 rfl ?_
      refine aw_iload_n (npc := 148) rfl dX7_told_147 rfl ?_
      refine aw_iald (npc := 149) (x := N (24 + 5 * fn)) (j := fn) dX7_told_148 rfl F.2.2.2.2.2.2.1 (am_ix_nI (by omega)) (tl_at (by omega)) ?_
      refine aw_callS (npc := 152) (N := mX7_worthOf) (mc := 0) (ms := 0) (A := [.int (N (22 + 5 * fn)), .int (N (24 + 5 * fn))]) (S := []) (L0 := [some (.int (N (22 + 5 * fn))), some (.int (N (24 + 5 * fn)))]) dX7_told_149 rfl km_X7_worthOf kk_X7_115 rfl ⟨rfl, by decide⟩ rfl (Nat.le_of_ble_eq_true rfl) (Nat.zero_add _) (Nat.zero_add _) rfl ?_
      refine c_X7_worthOf ?_
      refine aw_re (S' := [.int (wort (N (22 + 5 * fn)) (N (24 + 5 * fn)))]) rfl ?_
      refine aw_iret rfl dX7_told_152 ?_
      exact hq _ _ ⟨0, fun _ z => absurd z (by simp [hw1, ffn]), by simp [toV, cI, hw1, ffn]⟩ F G am_fp0
    · refine aw_tableOut (npc := 153) dX7_told_15 hs2.1 (by decide) ?_
      refine aw_ldc (npc := 155) kc_X7_78 dX7_told_153 rfl ?_
      refine aw_iret rfl dX7_told_155 ?_
      exact hq _ _ ⟨0, fun _ z => absurd z (by simp [hw1, ffn, hs2.2.1, hs2.2.2.1, hs2.2.2.2.1, hs2.2.2.2.2.1, hs2.2.2.2.2.2.1, hs2.2.2.2.2.2.2.1, hs2.2.2.2.2.2.2.2.1, hs2.2.2.2.2.2.2.2.2]), by simp [toV, cI, hw1, ffn, hs2.2.1, hs2.2.2.1, hs2.2.2.2.1, hs2.2.2.2.2.1, hs2.2.2.2.2.2.1, hs2.2.2.2.2.2.2.1, hs2.2.2.2.2.2.2.2.1, hs2.2.2.2.2.2.2.2.2]⟩ F G am_fp0
  · refine aw_re (S' := [.int 0]) rfl ?_
    refine aw_if_ne (npc := 11) (tgt := 14) dX7_told_8 rfl (by decide) (fun hc => absurd (by decide) hc) (fun _ => ?_)
    refine aw_ldc (npc := 13) kc_X7_78 dX7_told_11 rfl ?_
    refine aw_iret rfl dX7_told_13 ?_
    exact hq _ _ ⟨0, fun z _ => absurd z hw1, by simp [toV, cI, hw1]⟩ F G am_fp0
theorem wi_c0_7 {x : Int32} (h : wi x 0 7) : x = 0 ∨ x = 1 ∨ x = 2 ∨ x = 3 ∨ x = 4 ∨ x = 5 ∨ x = 6 ∨ x = 7 := by
  have h1 : ¬ x.toInt < 0 := fun q => h.1 (Int32.lt_iff_toInt_lt.mpr (by simpa using q))
  have h2 : ¬ 7 < x.toInt := fun q => h.2 (Int32.lt_iff_toInt_lt.mpr (by simpa using q))
  rcases sw_0_7 x with q | q | q | q | q | q | q | q | q
  · exact Or.inl q
  · exact Or.inr (Or.inl q)
  · exact Or.inr (Or.inr (Or.inl q))
  · exact Or.inr (Or.inr (Or.inr (Or.inl q)))
  · exact Or.inr (Or.inr (Or.inr (Or.inr (Or.inl q))))
  · exact Or.inr (Or.inr (Or.inr (Or.inr (Or.inr (Or.inl q)))))
  · exact Or.inr (Or.inr (Or.inr (Or.inr (Or.inr (Or.inr (Or.inl q))))))
  · exact Or.inr (Or.inr (Or.inr (Or.inr (Or.inr (Or.inr (Or.inr q))))))
  · exact absurd q.1 (by omega)
set_option maxHeartbeats 4000000 in
set_option maxRecDepth 100000 in
theorem M_told {X : List Int32} {d rc rs n : Nat} {Q : am_Q} {h : am_H} {o N : Nat → Int32} {a : Nat → Nat → Int32} {fr c : Nat} {f : Int32} {w : Int32} (F : MR o N a h) (hR : RG N fr c) (hT : TXM N c) (hq : ∀ v9 a9 h9, (∃ τ, (wi f 0 (N 1 - 1) → w = 5 → MTr N c (fN f) τ) ∧ v9 = toV N τ f w) → MR o N a9 h9 → ak a9 a → am_fp (fun k => k < 69 ∨ 92 ≤ k) h9 h → Q (some (.int v9)) n h9) : AW X mX8_told (d + 12) rc rs 0 [some (.ref 69), some (.int f), some (.int w)] [] n h Q := by
  have h8r := hR.2.1
  have h14r := hR.2.2.2.1
  refine aw_aload_n (npc := 1) rfl dX8_told_0 rfl ?_
  refine aw_iload_n (npc := 2) rfl dX8_told_1 rfl ?_
  refine aw_callV (npc := 5) (N := mX8_isFriend) (b := 69) (mc := 0) (ms := 0) (A := [.int f]) (S := []) (L0 := [some (.ref 69), some (.int f)]) dX8_told_2 rfl km_X8_isFriend kk_X8_114 F.1 ⟨by decide, rfl⟩ rfl ⟨rfl, by decide⟩ rfl (Nat.le_of_ble_eq_true rfl) (Nat.zero_add _) (Nat.zero_add _) rfl ?_
  refine m_isFriend F (fun hw1 => ?_) (fun hw1 => ?_)
  · obtain ⟨fn, hfn, efn⟩ := wi_idx hR.1 (by have z := hR.2.1; omega) hw1
    subst efn
    have h8fn : fn < 8 := by have z := hR.2.1; omega
    have ffn : fN (nI fn) = fn := fN_nI (by omega)
    refine aw_re (S' := [.int 1]) rfl ?_
    refine aw_if_eq (npc := 8) (tgt := 18) dX8_told_5 rfl (by decide) (fun hc => absurd hc (by decide)) (fun _ => ?_)
    refine aw_iload_n (npc := 9) rfl dX8_told_8 rfl ?_
    refine aw_iconst (npc := 10) (v := 0) (by decide) dX8_told_9 rfl ?_
    refine aw_bipush (npc := 12) (v := 7) (by decide) dX8_told_10 rfl ?_
    refine aw_callS (npc := 15) (N := mX8_in) (mc := 0) (ms := 0) (A := [.int w, .int 0, .int 7]) (S := []) (L0 := [some (.int w), some (.int 0), some (.int 7)]) dX8_told_12 rfl km_X8_in kk_X8_83 rfl ⟨rfl, by decide⟩ rfl (Nat.le_of_ble_eq_true rfl) (Nat.zero_add _) (Nat.zero_add _) rfl ?_
    refine c_X8_in (fun hw2 => ?_) (fun hw2 => ?_)
    · rcases wi_c0_7 hw2 with rfl | rfl | rfl | rfl | rfl | rfl | rfl | rfl
      · refine aw_re (S' := [.int 1]) rfl ?_
        refine aw_if_ne (npc := 18) (tgt := 21) dX8_told_15 rfl (by decide) (fun _ => ?_) (fun hc => absurd hc (by decide))
        refine aw_iload_n (npc := 22) rfl dX8_told_21 rfl ?_
        refine aw_iconst (npc := 23) (v := 5) (by decide) dX8_told_22 rfl ?_
        refine aw_icmp_ge (npc := 26) (tgt := 35) dX8_told_23 rfl (by decide) (fun hc => absurd hc (by decide)) (fun _ => ?_)
        refine aw_aload_n (npc := 27) rfl dX8_told_26 rfl ?_
        refine aw_iload_n (npc := 28) rfl dX8_told_27 rfl ?_
        refine aw_iload_n (npc := 29) rfl dX8_told_28 rfl ?_
        refine aw_callV (npc := 32) (N := mX8_of) (b := 69) (mc := 0) (ms := 0) (A := [.int (nI fn), .int 0]) (S := []) (L0 := [some (.ref 69), some (.int (nI fn)), some (.int 0)]) dX8_told_29 rfl km_X8_of kk_X8_101 F.1 ⟨by decide, rfl⟩ rfl ⟨rfl, by decide⟩ rfl (Nat.le_of_ble_eq_true rfl) (Nat.zero_add _) (Nat.zero_add _) rfl ?_
        refine m_of0 (f := fn) F (by omega) ?_
        refine aw_re (S' := [.int (N (22 + 5 * fn))]) rfl ?_
        refine aw_goto (npc := 70) dX8_told_32 (by decide) ?_
        refine aw_iret rfl dX8_told_70 ?_
        exact hq _ _ _ ⟨0, fun _ z => absurd z (by simp [hw1, ffn]), by simp [toV, cI, hw1, ffn]⟩ F (fun _ _ _ => rfl) am_fp0
      · refine aw_re (S' := [.int 1]) rfl ?_
        refine aw_if_ne (npc := 18) (tgt := 21) dX8_told_15 rfl (by decide) (fun _ => ?_) (fun hc => absurd hc (by decide))
        refine aw_iload_n (npc := 22) rfl dX8_told_21 rfl ?_
        refine aw_iconst (npc := 23) (v := 5) (by decide) dX8_told_22 rfl ?_
        refine aw_icmp_ge (npc := 26) (tgt := 35) dX8_told_23 rfl (by decide) (fun hc => absurd hc (by decide)) (fun _ => ?_)
        refine aw_aload_n (npc := 27) rfl dX8_told_26 rfl ?_
        refine aw_iload_n (npc := 28) rfl dX8_told_27 rfl ?_
        refine aw_iload_n (npc := 29) rfl dX8_told_28 rfl ?_
        refine aw_callV (npc := 32) (N := mX8_of) (b := 69) (mc := 0) (ms := 0) (A := [.int (nI fn), .int 1]) (S := []) (L0 := [some (.ref 69), some (.int (nI fn)), some (.int 1)]) dX8_told_29 rfl km_X8_of kk_X8_101 F.1 ⟨by decide, rfl⟩ rfl ⟨rfl, by decide⟩ rfl (Nat.le_of_ble_eq_true rfl) (Nat.zero_add _) (Nat.zero_add _) rfl ?_
        refine m_of1 (f := fn) F (by omega) ?_
        refine aw_re (S' := [.int (N (23 + 5 * fn))]) rfl ?_
        refine aw_goto (npc := 70) dX8_told_32 (by decide) ?_
        refine aw_iret rfl dX8_told_70 ?_
        exact hq _ _ _ ⟨0, fun _ z => absurd z (by simp [hw1, ffn]), by simp [toV, cI, hw1, ffn]⟩ F (fun _ _ _ => rfl) am_fp0
      · refine aw_re (S' := [.int 1]) rfl ?_
        refine aw_if_ne (npc := 18) (tgt := 21) dX8_told_15 rfl (by decide) (fun _ => ?_) (fun hc => absurd hc (by decide))
        refine aw_iload_n (npc := 22) rfl dX8_told_21 rfl ?_
        refine aw_iconst (npc := 23) (v := 5) (by decide) dX8_told_22 rfl ?_
        refine aw_icmp_ge (npc := 26) (tgt := 35) dX8_told_23 rfl (by decide) (fun hc => absurd hc (by decide)) (fun _ => ?_)
        refine aw_aload_n (npc := 27) rfl dX8_told_26 rfl ?_
        refine aw_iload_n (npc := 28) rfl dX8_told_27 rfl ?_
        refine aw_iload_n (npc := 29) rfl dX8_told_28 rfl ?_
        refine aw_callV (npc := 32) (N := mX8_of) (b := 69) (mc := 0) (ms := 0) (A := [.int (nI fn), .int 2]) (S := []) (L0 := [some (.ref 69), some (.int (nI fn)), some (.int 2)]) dX8_told_29 rfl km_X8_of kk_X8_101 F.1 ⟨by decide, rfl⟩ rfl ⟨rfl, by decide⟩ rfl (Nat.le_of_ble_eq_true rfl) (Nat.zero_add _) (Nat.zero_add _) rfl ?_
        refine m_of2 (f := fn) F (by omega) ?_
        refine aw_re (S' := [.int (N (24 + 5 * fn))]) rfl ?_
        refine aw_goto (npc := 70) dX8_told_32 (by decide) ?_
        refine aw_iret rfl dX8_told_70 ?_
        exact hq _ _ _ ⟨0, fun _ z => absurd z (by simp [hw1, ffn]), by simp [toV, cI, hw1, ffn]⟩ F (fun _ _ _ => rfl) am_fp0
      · refine aw_re (S' := [.int 1]) rfl ?_
        refine aw_if_ne (npc := 18) (tgt := 21) dX8_told_15 rfl (by decide) (fun _ => ?_) (fun hc => absurd hc (by decide))
        refine aw_iload_n (npc := 22) rfl dX8_told_21 rfl ?_
        refine aw_iconst (npc := 23) (v := 5) (by decide) dX8_told_22 rfl ?_
        refine aw_icmp_ge (npc := 26) (tgt := 35) dX8_told_23 rfl (by decide) (fun hc => absurd hc (by decide)) (fun _ => ?_)
        refine aw_aload_n (npc := 27) rfl dX8_told_26 rfl ?_
        refine aw_iload_n (npc := 28) rfl dX8_told_27 rfl ?_
        refine aw_iload_n (npc := 29) rfl dX8_told_28 rfl ?_
        refine aw_callV (npc := 32) (N := mX8_of) (b := 69) (mc := 0) (ms := 0) (A := [.int (nI fn), .int 3]) (S := []) (L0 := [some (.ref 69), some (.int (nI fn)), some (.int 3)]) dX8_told_29 rfl km_X8_of kk_X8_101 F.1 ⟨by decide, rfl⟩ rfl ⟨rfl, by decide⟩ rfl (Nat.le_of_ble_eq_true rfl) (Nat.zero_add _) (Nat.zero_add _) rfl ?_
        refine m_of3 (f := fn) F (by omega) ?_
        refine aw_re (S' := [.int (N (25 + 5 * fn))]) rfl ?_
        refine aw_goto (npc := 70) dX8_told_32 (by decide) ?_
        refine aw_iret rfl dX8_told_70 ?_
        exact hq _ _ _ ⟨0, fun _ z => absurd z (by simp [hw1, ffn]), by simp [toV, cI, hw1, ffn]⟩ F (fun _ _ _ => rfl) am_fp0
      · refine aw_re (S' := [.int 1]) rfl ?_
        refine aw_if_ne (npc := 18) (tgt := 21) dX8_told_15 rfl (by decide) (fun _ => ?_) (fun hc => absurd hc (by decide))
        refine aw_iload_n (npc := 22) rfl dX8_told_21 rfl ?_
        refine aw_iconst (npc := 23) (v := 5) (by decide) dX8_told_22 rfl ?_
        refine aw_icmp_ge (npc := 26) (tgt := 35) dX8_told_23 rfl (by decide) (fun hc => absurd hc (by decide)) (fun _ => ?_)
        refine aw_aload_n (npc := 27) rfl dX8_told_26 rfl ?_
        refine aw_iload_n (npc := 28) rfl dX8_told_27 rfl ?_
        refine aw_iload_n (npc := 29) rfl dX8_told_28 rfl ?_
        refine aw_callV (npc := 32) (N := mX8_of) (b := 69) (mc := 0) (ms := 0) (A := [.int (nI fn), .int 4]) (S := []) (L0 := [some (.ref 69), some (.int (nI fn)), some (.int 4)]) dX8_told_29 rfl km_X8_of kk_X8_101 F.1 ⟨by decide, rfl⟩ rfl ⟨rfl, by decide⟩ rfl (Nat.le_of_ble_eq_true rfl) (Nat.zero_add _) (Nat.zero_add _) rfl ?_
        refine m_of4 (f := fn) F (by omega) ?_
        refine aw_re (S' := [.int (N (26 + 5 * fn))]) rfl ?_
        refine aw_goto (npc := 70) dX8_told_32 (by decide) ?_
        refine aw_iret rfl dX8_told_70 ?_
        exact hq _ _ _ ⟨0, fun _ z => absurd z (by simp [hw1, ffn]), by simp [toV, cI, hw1, ffn]⟩ F (fun _ _ _ => rfl) am_fp0
      · refine aw_re (S' := [.int 1]) rfl ?_
        refine aw_if_ne (npc := 18) (tgt := 21) dX8_told_15 rfl (by decide) (fun _ => ?_) (fun hc => absurd hc (by decide))
        refine aw_iload_n (npc := 22) rfl dX8_told_21 rfl ?_
        refine aw_iconst (npc := 23) (v := 5) (by decide) dX8_told_22 rfl ?_
        refine aw_icmp_ge (npc := 26) (tgt := 35) dX8_told_23 rfl (by decide) (fun _ => ?_) (fun hc => absurd (by decide) hc)
        refine aw_iload_n (npc := 36) rfl dX8_told_35 rfl ?_
        refine aw_iconst (npc := 37) (v := 5) (by decide) dX8_told_36 rfl ?_
        refine aw_icmp_ne (npc := 40) (tgt := 48) dX8_told_37 rfl (by decide) (fun hc => absurd (by decide) hc) (fun _ => ?_)
        refine aw_aload_n (npc := 41) rfl dX8_told_40 rfl ?_
        refine aw_iload_n (npc := 42) rfl dX8_told_41 rfl ?_
        refine aw_callV (npc := 45) (N := mX8_toneOf) (b := 69) (mc := 0) (ms := 0) (A := [.int (nI fn)]) (S := []) (L0 := [some (.ref 69), some (.int (nI fn)), none, none]) dX8_told_42 rfl km_X8_toneOf kk_X8_118 F.1 ⟨by decide, rfl⟩ rfl ⟨rfl, by decide⟩ rfl (Nat.le_of_ble_eq_true rfl) (Nat.zero_add _) (Nat.zero_add _) rfl ?_
        refine m_tone (c := c) (f := fn) F hT (by omega) (hR.2.2.2.2.1 fn (by omega)).1 (fun τ3 a94 hp5 ht6 F7 ka8 fz9 => ?_)
        refine aw_re (S' := [.int τ3]) rfl ?_
        refine aw_goto (npc := 70) dX8_told_45 (by decide) ?_
        refine aw_iret rfl dX8_told_70 ?_
        exact hq _ _ _ ⟨τ3, fun _ _ => ffn.symm ▸ ht6, by simp [toV, cI, hw1, ffn]⟩ F7 ka8 (am_fpT (fun k (hk : k < 69 ∨ 92 ≤ k) => fz9 k (by omega)) am_fp0)
      · refine aw_re (S' := [.int 1]) rfl ?_
        refine aw_if_ne (npc := 18) (tgt := 21) dX8_told_15 rfl (by decide) (fun _ => ?_) (fun hc => absurd hc (by decide))
        refine aw_iload_n (npc := 22) rfl dX8_told_21 rfl ?_
        refine aw_iconst (npc := 23) (v := 5) (by decide) dX8_told_22 rfl ?_
        refine aw_icmp_ge (npc := 26) (tgt := 35) dX8_told_23 rfl (by decide) (fun _ => ?_) (fun hc => absurd (by decide) hc)
        refine aw_iload_n (npc := 36) rfl dX8_told_35 rfl ?_
        refine aw_iconst (npc := 37) (v := 5) (by decide) dX8_told_36 rfl ?_
        refine aw_icmp_ne (npc := 40) (tgt := 48) dX8_told_37 rfl (by decide) (fun _ => ?_) (fun hc => absurd hc (by decide))
        refine aw_iload_n (npc := 49) rfl dX8_told_48 rfl ?_
        refine aw_bipush (npc := 51) (v := 6) (by decide) dX8_told_49 rfl ?_
        refine aw_icmp_ne (npc := 54) (tgt := 65) dX8_told_51 rfl (by decide) (fun hc => absurd (by decide) hc) (fun _ => ?_)
        refine aw_aload_n (npc := 55) rfl dX8_told_54 rfl ?_
        refine aw_iload_n (npc := 56) rfl dX8_told_55 rfl ?_
        refine aw_callV (npc := 59) (N := mX8_termOf) (b := 69) (mc := 0) (ms := 0) (A := [.int (nI fn)]) (S := []) (L0 := [some (.ref 69), some (.int (nI fn)), none, none, none]) dX8_told_56 rfl km_X8_termOf kk_X8_121 F.1 ⟨by decide, rfl⟩ rfl ⟨rfl, by decide⟩ rfl (Nat.le_of_ble_eq_true rfl) (Nat.zero_add _) (Nat.zero_add _) rfl ?_
        refine m_term (f := fn) F (by omega) (hR.2.2.2.2.1 fn (by omega)).1 (hR.2.2.2.2.1 fn (by omega)).2.1 ?_
        refine aw_re (S' := [.int (bI (mt N fn))]) rfl ?_
        refine aw_top (y := ty N fn) (mt_ty (hR.2.2.2.2.1 fn (by omega)).1 (hR.2.2.2.2.1 fn (by omega)).2.1 hR.2.2.2.2.2.1 hR.2.2.2.2.2.2.1) ?_
        refine aw_callS (npc := 62) (N := mX8_told0) (mc := 0) (ms := 0) (A := [.int (ty N fn)]) (S := []) (L0 := [some (.int (ty N fn))]) dX8_told_59 rfl km_X8_told0 kk_X8_124 rfl ⟨rfl, by decide⟩ rfl (Nat.le_of_ble_eq_true rfl) (Nat.zero_add _) (Nat.zero_add _) rfl ?_
        refine c_X8_told0 ?_
        refine aw_re (S' := [.int (orN (ty N fn))]) rfl ?_
        refine aw_goto (npc := 70) dX8_told_62 (by decide) ?_
        refine aw_iret rfl dX8_told_70 ?_
        exact hq _ _ _ ⟨0, fun _ z => absurd z (by simp [hw1, ffn]), by simp [toV, cI, hw1, ffn]⟩ F (fun _ _ _ => rfl) am_fp0
      · refine aw_re (S' := [.int 1]) rfl ?_
        refine aw_if_ne (npc := 18) (tgt := 21) dX8_told_15 rfl (by decide) (fun _ => ?_) (fun hc => absurd hc (by decide))
        refine aw_iload_n (npc := 22) rfl dX8_told_21 rfl ?_
        refine aw_iconst (npc := 23) (v := 5) (by decide) dX8_told_22 rfl ?_
        refine aw_icmp_ge (npc := 26) (tgt := 35) dX8_told_23 rfl (by decide) (fun _ => ?_) (fun hc => absurd (by decide) hc)
        refine aw_iload_n (npc := 36) rfl dX8_told_35 rfl ?_
        refine aw_iconst (npc := 37) (v := 5) (by decide) dX8_told_36 rfl ?_
        refine aw_icmp_ne (npc := 40) (tgt := 48) dX8_told_37 rfl (by decide) (fun _ => ?_) (fun hc => absurd hc (by decide))
        refine aw_iload_n (npc := 49) rfl dX8_told_48 rfl ?_
        refine aw_bipush (npc := 51) (v := 6) (by decide) dX8_told_49 rfl ?_
        refine aw_icmp_ne (npc := 54) (tgt := 65) dX8_told_51 rfl (by decide) (fun _ => ?_) (fun hc => absurd hc (by decide))
        refine aw_aload_n (npc := 66) rfl dX8_told_65 rfl ?_
        refine aw_iload_n (npc := 67) rfl dX8_told_66 rfl ?_
        refine aw_callV (npc := 70) (N := mX8_worthOf) (b := 69) (mc := 0) (ms := 0) (A := [.int (nI fn)]) (S := []) (L0 := [some (.ref 69), some (.int (nI fn)), none]) dX8_told_67 rfl km_X8_worthOf kk_X8_127 F.1 ⟨by decide, rfl⟩ rfl ⟨rfl, by decide⟩ rfl (Nat.le_of_ble_eq_true rfl) (Nat.zero_add _) (Nat.zero_add _) rfl ?_
        refine m_worthOf (f := fn) F (by omega) (hR.2.2.2.2.1 fn (by omega)).1 ?_
        refine aw_re (S' := [.int (wort (N (22 + 5 * fn)) (N (24 + 5 * fn)))]) rfl ?_
        refine aw_iret rfl dX8_told_70 ?_
        exact hq _ _ _ ⟨0, fun _ z => absurd z (by simp [hw1, ffn]), by simp [toV, cI, hw1, ffn]⟩ F (fun _ _ _ => rfl) am_fp0
    · refine aw_re (S' := [.int 0]) rfl ?_
      refine aw_if_ne (npc := 18) (tgt := 21) dX8_told_15 rfl (by decide) (fun hc => absurd (by decide) hc) (fun _ => ?_)
      refine aw_ldc (npc := 20) kc_X8_91 dX8_told_18 rfl ?_
      refine aw_iret rfl dX8_told_20 ?_
      exact hq _ _ _ ⟨0, fun _ z => absurd z (by simp [hw1, hw2, ffn, nwi_1 hw2 (k := 0) ⟨by decide, by decide⟩, nwi_1 hw2 (k := 1) ⟨by decide, by decide⟩, nwi_1 hw2 (k := 2) ⟨by decide, by decide⟩, nwi_1 hw2 (k := 3) ⟨by decide, by decide⟩, nwi_1 hw2 (k := 4) ⟨by decide, by decide⟩, nwi_1 hw2 (k := 5) ⟨by decide, by decide⟩, nwi_1 hw2 (k := 6) ⟨by decide, by decide⟩, nwi_1 hw2 (k := 7) ⟨by decide, by decide⟩]), by simp [toV, cI, hw1, hw2, ffn, nwi_1 hw2 (k := 0) ⟨by decide, by decide⟩, nwi_1 hw2 (k := 1) ⟨by decide, by decide⟩, nwi_1 hw2 (k := 2) ⟨by decide, by decide⟩, nwi_1 hw2 (k := 3) ⟨by decide, by decide⟩, nwi_1 hw2 (k := 4) ⟨by decide, by decide⟩, nwi_1 hw2 (k := 5) ⟨by decide, by decide⟩, nwi_1 hw2 (k := 6) ⟨by decide, by decide⟩, nwi_1 hw2 (k := 7) ⟨by decide, by decide⟩]⟩ F (fun _ _ _ => rfl) am_fp0
  · refine aw_re (S' := [.int 0]) rfl ?_
    refine aw_if_eq (npc := 8) (tgt := 18) dX8_told_5 rfl (by decide) (fun _ => ?_) (fun hc => absurd (by decide) hc)
    refine aw_ldc (npc := 20) kc_X8_91 dX8_told_18 rfl ?_
    refine aw_iret rfl dX8_told_20 ?_
    exact hq _ _ _ ⟨0, fun z _ => absurd z hw1, by simp [toV, cI, hw1]⟩ F (fun _ _ _ => rfl) am_fp0
