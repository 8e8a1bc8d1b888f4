def rkM (x : Int32) : Int32 := if x = -1 then 1 else if x = -2 then 2 else if -5 ≤ x then 3 else if -7 ≤ x then 4 else if -9 ≤ x then 5 else 6
set_option maxHeartbeats 4000000 in
set_option maxRecDepth 100000 in
theorem m_rank {X : List Int32} {d rc rs n : Nat} {Q : am_Q} {h : am_H} {x : Int32} (hq : Q (some (.int (rkM x))) n h) : AW X mX8_rank d rc rs 0 [some (.int x)] [] n h Q := by
  refine aw_iload_n (npc := 1) rfl dX8_rank_0 rfl ?_
  refine aw_iconst (npc := 2) (v := -1) (by decide) dX8_rank_1 rfl ?_
  refine aw_icmp_ne (npc := 5) (tgt := 9) dX8_rank_2 rfl (by decide) (fun hc1 => ?_) (fun hc1 => ?_)
  · refine aw_iload_n (npc := 10) rfl dX8_rank_9 rfl ?_
    refine aw_bipush (npc := 12) (v := -2) (by decide) dX8_rank_10 rfl ?_
    refine aw_icmp_ne (npc := 15) (tgt := 19) dX8_rank_12 rfl (by decide) (fun hc2 => ?_) (fun hc2 => ?_)
    · refine aw_iload_n (npc := 20) rfl dX8_rank_19 rfl ?_
      refine aw_bipush (npc := 22) (v := -5) (by decide) dX8_rank_20 rfl ?_
      refine aw_icmp_lt (npc := 25) (tgt := 29) dX8_rank_22 rfl (by decide) (fun hc3 => ?_) (fun hc3 => ?_)
      · refine aw_iload_n (npc := 30) rfl dX8_rank_29 rfl ?_
        refine aw_bipush (npc := 32) (v := -7) (by decide) dX8_rank_30 rfl ?_
        refine aw_icmp_lt (npc := 35) (tgt := 39) dX8_rank_32 rfl (by decide) (fun hc4 => ?_) (fun hc4 => ?_)
        · refine aw_iload_n (npc := 40) rfl dX8_rank_39 rfl ?_
          refine aw_bipush (npc := 42) (v := -9) (by decide) dX8_rank_40 rfl ?_
          refine aw_icmp_lt (npc := 45) (tgt := 49) dX8_rank_42 rfl (by decide) (fun hc5 => ?_) (fun hc5 => ?_)
          · refine aw_bipush (npc := 51) (v := 6) (by decide) dX8_rank_49 rfl ?_
            refine aw_iret rfl dX8_rank_51 ?_
            exact (show rkM x = 6 by simp [rkM, hc1, hc2, Int32.not_le.mpr hc3, Int32.not_le.mpr hc4, Int32.not_le.mpr hc5]) ▸ hq
          · refine aw_iconst (npc := 46) (v := 5) (by decide) dX8_rank_45 rfl ?_
            refine aw_goto (npc := 51) dX8_rank_46 (by decide) ?_
            refine aw_iret rfl dX8_rank_51 ?_
            exact (show rkM x = 5 by simp [rkM, hc1, hc2, Int32.not_le.mpr hc3, Int32.not_le.mpr hc4, Int32.not_lt.mp hc5]) ▸ hq
        · refine aw_iconst (npc := 36) (v := 4) (by decide) dX8_rank_35 rfl ?_
          refine aw_goto (npc := 51) dX8_rank_36 (by decide) ?_
          refine aw_iret rfl dX8_rank_51 ?_
          exact (show rkM x = 4 by simp [rkM, hc1, hc2, Int32.not_le.mpr hc3, Int32.not_lt.mp hc4]) ▸ hq
      · refine aw_iconst (npc := 26) (v := 3) (by decide) dX8_rank_25 rfl ?_
        refine aw_goto (npc := 51) dX8_rank_26 (by decide) ?_
        refine aw_iret rfl dX8_rank_51 ?_
        exact (show rkM x = 3 by simp [rkM, hc1, hc2, Int32.not_lt.mp hc3]) ▸ hq
    · refine aw_iconst (npc := 16) (v := 2) (by decide) dX8_rank_15 rfl ?_
      refine aw_goto (npc := 51) dX8_rank_16 (by decide) ?_
      refine aw_iret rfl dX8_rank_51 ?_
      exact (show rkM x = 2 by simp [rkM, hc1, hc2]) ▸ hq
  · refine aw_iconst (npc := 6) (v := 1) (by decide) dX8_rank_5 rfl ?_
    refine aw_goto (npc := 51) dX8_rank_6 (by decide) ?_
    refine aw_iret rfl dX8_rank_51 ?_
    exact (show rkM x = 1 by simp [rkM, hc1]) ▸ hq
def sgm (b : Int32) : Int32 := if b = 124 then -1 else if b = 38 then -2 else if b = 60 then -3 else if b = 61 then -4 else if b = 62 then -5 else if b = 43 then -6 else if b = 45 then -7 else if b = 42 then -8 else if b = 47 then -9 else 0
def sgV (t : Nat) (b : Int32) : Int32 := if t = 3 then sgm b else 0
set_option maxHeartbeats 4000000 in
set_option maxRecDepth 100000 in
theorem m_sign {X : List Int32} {d rc rs n : Nat} {Q : am_Q} {L : Nat} {N : Nat → Int32} {a : Nat → Nat → Int32} {o : Nat → Int32} {h : am_H} {t : Nat} {y : Int32} (F : MR o N a h) (ht : t ≤ 5) (h12 : o 12 = nI t) (h13 : o 13 = y) (hq : Q (some (.int (sgV t y))) n h) : AW X mX8_signHere d rc rs 0 [some (.ref 69)] [] n h Q := by
  refine aw_aload_n (npc := 1) rfl dX8_signHere_0 rfl ?_
  refine aw_get (npc := 4) dX8_signHere_1 rfl kf_X8_204 F.1 rfl ?_
  refine aw_top (y := nI t) (h12) ?_
  refine aw_iconst (npc := 5) (v := 3) (by decide) dX8_signHere_4 rfl ?_
  refine aw_icmp_eq (npc := 8) (tgt := 10) dX8_signHere_5 rfl (by decide) (fun hc1 => ?_) (fun hc1 => ?_)
  · have hc1N := (nI_eq (a := t) (b := 3) (by omega) (by omega)).mp hc1
    refine aw_aload_n (npc := 11) rfl dX8_signHere_10 rfl ?_
    refine aw_get (npc := 14) dX8_signHere_11 rfl kf_X8_210 F.1 rfl ?_
    refine aw_top (y := y) (h13) ?_
    by_cases hk2 : y = 38
    · subst hk2
      refine aw_lookup (npc := 98) (off := 84) dX8_signHere_14 rfl (by decide) (by decide) ?_
      refine aw_bipush (npc := 100) (v := -2) (by decide) dX8_signHere_98 rfl ?_
      refine aw_iret rfl dX8_signHere_100 ?_
      exact (show sgV t 38 = (-2) by simp [sgV, sgm, hc1N]) ▸ hq
    by_cases hk3 : y = 42
    · subst hk3
      refine aw_lookup (npc := 116) (off := 102) dX8_signHere_14 rfl (by decide) (by decide) ?_
      refine aw_bipush (npc := 118) (v := -8) (by decide) dX8_signHere_116 rfl ?_
      refine aw_iret rfl dX8_signHere_118 ?_
      exact (show sgV t 42 = (-8) by simp [sgV, sgm, hc1N]) ▸ hq
    by_cases hk4 : y = 43
    · subst hk4
      refine aw_lookup (npc := 110) (off := 96) dX8_signHere_14 rfl (by decide) (by decide) ?_
      refine aw_bipush (npc := 112) (v := -6) (by decide) dX8_signHere_110 rfl ?_
      refine aw_iret rfl dX8_signHere_112 ?_
      exact (show sgV t 43 = (-6) by simp [sgV, sgm, hc1N]) ▸ hq
    by_cases hk5 : y = 45
    · subst hk5
      refine aw_lookup (npc := 113) (off := 99) dX8_signHere_14 rfl (by decide) (by decide) ?_
      refine aw_bipush (npc := 115) (v := -7) (by decide) dX8_signHere_113 rfl ?_
      refine aw_iret rfl dX8_signHere_115 ?_
      exact (show sgV t 45 = (-7) by simp [sgV, sgm, hc1N]) ▸ hq
    by_cases hk6 : y = 47
    · subst hk6
      refine aw_lookup (npc := 119) (off := 105) dX8_signHere_14 rfl (by decide) (by decide) ?_
      refine aw_bipush (npc := 121) (v := -9) (by decide) dX8_signHere_119 rfl ?_
      refine aw_iret rfl dX8_signHere_121 ?_
      exact (show sgV t 47 = (-9) by simp [sgV, sgm, hc1N]) ▸ hq
    by_cases hk7 : y = 60
    · subst hk7
      refine aw_lookup (npc := 101) (off := 87) dX8_signHere_14 rfl (by decide) (by decide) ?_
      refine aw_bipush (npc := 103) (v := -3) (by decide) dX8_signHere_101 rfl ?_
      refine aw_iret rfl dX8_signHere_103 ?_
      exact (show sgV t 60 = (-3) by simp [sgV, sgm, hc1N]) ▸ hq
    by_cases hk8 : y = 61
    · subst hk8
      refine aw_lookup (npc := 104) (off := 90) dX8_signHere_14 rfl (by decide) (by decide) ?_
      refine aw_bipush (npc := 106) (v := -4) (by decide) dX8_signHere_104 rfl ?_
      refine aw_iret rfl dX8_signHere_106 ?_
      exact (show sgV t 61 = (-4) by simp [sgV, sgm, hc1N]) ▸ hq
    by_cases hk9 : y = 62
    · subst hk9
      refine aw_lookup (npc := 107) (off := 93) dX8_signHere_14 rfl (by decide) (by decide) ?_
      refine aw_bipush (npc := 109) (v := -5) (by decide) dX8_signHere_107 rfl ?_
      refine aw_iret rfl dX8_signHere_109 ?_
      exact (show sgV t 62 = (-5) by simp [sgV, sgm, hc1N]) ▸ hq
    by_cases hk10 : y = 124
    · subst hk10
      refine aw_lookup (npc := 96) (off := 82) dX8_signHere_14 rfl (by decide) (by decide) ?_
      refine aw_iconst (npc := 97) (v := -1) (by decide) dX8_signHere_96 rfl ?_
      refine aw_iret rfl dX8_signHere_97 ?_
      exact (show sgV t 124 = (-1) by simp [sgV, sgm, hc1N]) ▸ hq
    refine aw_lookup (npc := 122) (off := 108) dX8_signHere_14 rfl ((lv_osw (k := 38) hk2 rfl).trans ((lv_osw (k := 42) hk3 rfl).trans ((lv_osw (k := 43) hk4 rfl).trans ((lv_osw (k := 45) hk5 rfl).trans ((lv_osw (k := 47) hk6 rfl).trans ((lv_osw (k := 60) hk7 rfl).trans ((lv_osw (k := 61) hk8 rfl).trans ((lv_osw (k := 62) hk9 rfl).trans ((lv_osw (k := 124) hk10 rfl).trans (rfl)))))))))) (by decide) ?_
    refine aw_iconst (npc := 123) (v := 0) (by decide) dX8_signHere_122 rfl ?_
    refine aw_iret rfl dX8_signHere_123 ?_
    exact (show sgV t y = 0 by simp [sgV, sgm, hc1N, hk2, hk3, hk4, hk5, hk6, hk7, hk8, hk9, hk10]) ▸ hq
  · have hc1N : ¬ t = 3 := fun z9q => hc1 ((nI_eq (a := t) (b := 3) (by omega) (by omega)).mpr z9q)
    refine aw_iconst (npc := 9) (v := 0) (by decide) dX8_signHere_8 rfl ?_
    refine aw_iret rfl dX8_signHere_9 ?_
    exact (show sgV t y = 0 by simp [sgV, sgm, hc1N]) ▸ hq
def nmS (y : Int32) : Nat := if y = 0 then 3 else if y = 1 then 4 else 5
set_option maxHeartbeats 4000000 in
set_option maxRecDepth 100000 in
theorem m_nameOf {X : List Int32} {d rc rs n : Nat} {Q : am_Q} {L : Nat} {N : Nat → Int32} {a : Nat → Nat → Int32} {o : Nat → Int32} {h : am_H} {v : Nat} {y : Int32} (F : MR o N a h) (hv : v < 128) (h15 : o 15 = y) (hq : Q (some (.int (bI (nmF (nmS y) v)))) n h) : AW X mX8_nameOf d rc rs 0 [some (.ref 69), some (.int (nI v))] [] n h Q := by
  refine aw_aload_n (npc := 1) rfl dX8_nameOf_0 rfl ?_
  refine aw_get (npc := 4) dX8_nameOf_1 rfl kf_X8_216 F.1 rfl ?_
  refine aw_top (y := y) (h15) ?_
  by_cases hk1 : y = 0
  · subst hk1
    refine aw_lookup (npc := 32) (off := 28) dX8_nameOf_4 rfl (by decide) (by decide) ?_
    refine aw_iload_n (npc := 33) rfl dX8_nameOf_32 rfl ?_
    refine aw_bipush (npc := 35) (v := 112) (by decide) dX8_nameOf_33 rfl ?_
    refine aw_icmp_ne (npc := 38) (tgt := 42) dX8_nameOf_35 rfl (by decide) (fun hc2 => ?_) (fun hc2 => ?_)
    · have hc2N : ¬ v = 112 := fun z9q => hc2 ((nI_eq (a := v) (b := 112) (by omega) (by omega)).mpr z9q)
      have hc2M := Ne.symm hc2N
      refine aw_iload_n (npc := 43) rfl dX8_nameOf_42 rfl ?_
      refine aw_bipush (npc := 45) (v := 104) (by decide) dX8_nameOf_43 rfl ?_
      refine aw_icmp_ne (npc := 48) (tgt := 52) dX8_nameOf_45 rfl (by decide) (fun hc3 => ?_) (fun hc3 => ?_)
      · have hc3N : ¬ v = 104 := fun z9q => hc3 ((nI_eq (a := v) (b := 104) (by omega) (by omega)).mpr z9q)
        have hc3M := Ne.symm hc3N
        refine aw_iload_n (npc := 53) rfl dX8_nameOf_52 rfl ?_
        refine aw_bipush (npc := 55) (v := 115) (by decide) dX8_nameOf_53 rfl ?_
        refine aw_icmp_ne (npc := 58) (tgt := 62) dX8_nameOf_55 rfl (by decide) (fun hc4 => ?_) (fun hc4 => ?_)
        · have hc4N : ¬ v = 115 := fun z9q => hc4 ((nI_eq (a := v) (b := 115) (by omega) (by omega)).mpr z9q)
          have hc4M := Ne.symm hc4N
          refine aw_iconst (npc := 63) (v := -1) (by decide) dX8_nameOf_62 rfl ?_
          refine aw_iret rfl dX8_nameOf_63 ?_
          exact (show bI (nmF (nmS 0) v) = (-1) by simp [nmS, nmF, bI, nI0, show nI 1 = 1 from rfl, show nI 2 = 2 from rfl, hc2M, hc3M, hc4M]) ▸ hq
        · have hc4N := (nI_eq (a := v) (b := 115) (by omega) (by omega)).mp hc4
          have hc4M := Eq.symm hc4N
          refine aw_iconst (npc := 59) (v := 2) (by decide) dX8_nameOf_58 rfl ?_
          refine aw_goto (npc := 63) dX8_nameOf_59 (by decide) ?_
          refine aw_iret rfl dX8_nameOf_63 ?_
          exact (show bI (nmF (nmS 0) v) = 2 by simp [nmS, nmF, bI, nI0, show nI 1 = 1 from rfl, show nI 2 = 2 from rfl, hc2M, hc3M, hc4M]) ▸ hq
      · have hc3N := (nI_eq (a := v) (b := 104) (by omega) (by omega)).mp hc3
        have hc3M := Eq.symm hc3N
        refine aw_iconst (npc := 49) (v := 1) (by decide) dX8_nameOf_48 rfl ?_
        refine aw_goto (npc := 63) dX8_nameOf_49 (by decide) ?_
        refine aw_iret rfl dX8_nameOf_63 ?_
        exact (show bI (nmF (nmS 0) v) = 1 by simp [nmS, nmF, bI, nI0, show nI 1 = 1 from rfl, show nI 2 = 2 from rfl, hc2M, hc3M]) ▸ hq
    · have hc2N := (nI_eq (a := v) (b := 112) (by omega) (by omega)).mp hc2
      have hc2M := Eq.symm hc2N
      refine aw_iconst (npc := 39) (v := 0) (by decide) dX8_nameOf_38 rfl ?_
      refine aw_goto (npc := 63) dX8_nameOf_39 (by decide) ?_
      refine aw_iret rfl dX8_nameOf_63 ?_
      exact (show bI (nmF (nmS 0) v) = 0 by simp [nmS, nmF, bI, nI0, show nI 1 = 1 from rfl, show nI 2 = 2 from rfl, hc2M]) ▸ hq
  by_cases hk5 : y = 1
  · subst hk5
    refine aw_lookup (npc := 64) (off := 60) dX8_nameOf_4 rfl (by decide) (by decide) ?_
    refine aw_iload_n (npc := 65) rfl dX8_nameOf_64 rfl ?_
    refine aw_bipush (npc := 67) (v := 108) (by decide) dX8_nameOf_65 rfl ?_
    refine aw_icmp_ne (npc := 70) (tgt := 74) dX8_nameOf_67 rfl (by decide) (fun hc6 => ?_) (fun hc6 => ?_)
    · have hc6N : ¬ v = 108 := fun z9q => hc6 ((nI_eq (a := v) (b := 108) (by omega) (by omega)).mpr z9q)
      have hc6M := Ne.symm hc6N
      refine aw_iload_n (npc := 75) rfl dX8_nameOf_74 rfl ?_
      refine aw_bipush (npc := 77) (v := 112) (by decide) dX8_nameOf_75 rfl ?_
      refine aw_icmp_ne (npc := 80) (tgt := 84) dX8_nameOf_77 rfl (by decide) (fun hc7 => ?_) (fun hc7 => ?_)
      · have hc7N : ¬ v = 112 := fun z9q => hc7 ((nI_eq (a := v) (b := 112) (by omega) (by omega)).mpr z9q)
        have hc7M := Ne.symm hc7N
        refine aw_iconst (npc := 85) (v := -1) (by decide) dX8_nameOf_84 rfl ?_
        refine aw_iret rfl dX8_nameOf_85 ?_
        exact (show bI (nmF (nmS 1) v) = (-1) by simp [nmS, nmF, bI, nI0, show nI 1 = 1 from rfl, show nI 2 = 2 from rfl, hc6M, hc7M]) ▸ hq
      · have hc7N := (nI_eq (a := v) (b := 112) (by omega) (by omega)).mp hc7
        have hc7M := Eq.symm hc7N
        refine aw_iconst (npc := 81) (v := 1) (by decide) dX8_nameOf_80 rfl ?_
        refine aw_goto (npc := 85) dX8_nameOf_81 (by decide) ?_
        refine aw_iret rfl dX8_nameOf_85 ?_
        exact (show bI (nmF (nmS 1) v) = 1 by simp [nmS, nmF, bI, nI0, show nI 1 = 1 from rfl, show nI 2 = 2 from rfl, hc6M, hc7M]) ▸ hq
    · have hc6N := (nI_eq (a := v) (b := 108) (by omega) (by omega)).mp hc6
      have hc6M := Eq.symm hc6N
      refine aw_iconst (npc := 71) (v := 0) (by decide) dX8_nameOf_70 rfl ?_
      refine aw_goto (npc := 85) dX8_nameOf_71 (by decide) ?_
      refine aw_iret rfl dX8_nameOf_85 ?_
      exact (show bI (nmF (nmS 1) v) = 0 by simp [nmS, nmF, bI, nI0, show nI 1 = 1 from rfl, show nI 2 = 2 from rfl, hc6M]) ▸ hq
  refine aw_lookup (npc := 86) (off := 82) dX8_nameOf_4 rfl ((lv_osw (k := 0) hk1 rfl).trans ((lv_osw (k := 1) hk5 rfl).trans (rfl))) (by decide) ?_
  refine aw_iload_n (npc := 87) rfl dX8_nameOf_86 rfl ?_
  refine aw_bipush (npc := 89) (v := 121) (by decide) dX8_nameOf_87 rfl ?_
  refine aw_icmp_ne (npc := 92) (tgt := 96) dX8_nameOf_89 rfl (by decide) (fun hc8 => ?_) (fun hc8 => ?_)
  · have hc8N : ¬ v = 121 := fun z9q => hc8 ((nI_eq (a := v) (b := 121) (by omega) (by omega)).mpr z9q)
    have hc8M := Ne.symm hc8N
    refine aw_iload_n (npc := 97) rfl dX8_nameOf_96 rfl ?_
    refine aw_bipush (npc := 99) (v := 110) (by decide) dX8_nameOf_97 rfl ?_
    refine aw_icmp_ne (npc := 102) (tgt := 106) dX8_nameOf_99 rfl (by decide) (fun hc9 => ?_) (fun hc9 => ?_)
    · have hc9N : ¬ v = 110 := fun z9q => hc9 ((nI_eq (a := v) (b := 110) (by omega) (by omega)).mpr z9q)
      have hc9M := Ne.symm hc9N
      refine aw_iconst (npc := 107) (v := -1) (by decide) dX8_nameOf_106 rfl ?_
      refine aw_iret rfl dX8_nameOf_107 ?_
      exact (show bI (nmF (nmS y) v) = (-1) by simp [nmS, nmF, bI, nI0, show nI 1 = 1 from rfl, show nI 2 = 2 from rfl, hk1, hk5, hc8M, hc9M]) ▸ hq
    · have hc9N := (nI_eq (a := v) (b := 110) (by omega) (by omega)).mp hc9
      have hc9M := Eq.symm hc9N
      refine aw_iconst (npc := 103) (v := 1) (by decide) dX8_nameOf_102 rfl ?_
      refine aw_goto (npc := 107) dX8_nameOf_103 (by decide) ?_
      refine aw_iret rfl dX8_nameOf_107 ?_
      exact (show bI (nmF (nmS y) v) = 1 by simp [nmS, nmF, bI, nI0, show nI 1 = 1 from rfl, show nI 2 = 2 from rfl, hk1, hk5, hc8M, hc9M]) ▸ hq
  · have hc8N := (nI_eq (a := v) (b := 121) (by omega) (by omega)).mp hc8
    have hc8M := Eq.symm hc8N
    refine aw_iconst (npc := 93) (v := 0) (by decide) dX8_nameOf_92 rfl ?_
    refine aw_goto (npc := 107) dX8_nameOf_93 (by decide) ?_
    refine aw_iret rfl dX8_nameOf_107 ?_
    exact (show bI (nmF (nmS y) v) = 0 by simp [nmS, nmF, bI, nI0, show nI 1 = 1 from rfl, show nI 2 = 2 from rfl, hk1, hk5, hc8M]) ▸ hq
