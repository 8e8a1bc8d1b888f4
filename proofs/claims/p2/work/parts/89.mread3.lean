def kz0 (tp : Nat → Int32) (f e : Nat) : Prop := e = f + 4 ∧ tp (f + 0) = 116 ∧ tp (f + 1) = 111 ∧ tp (f + 2) = 110 ∧ tp (f + 3) = 101
set_option maxHeartbeats 4000000 in
set_option maxRecDepth 100000 in
theorem m_kw0 {X : List Int32} {d rc rs n : Nat} {Q : am_Q} {L : Nat} {N : Nat → Int32} {a : Nat → Nat → Int32} {o : Nat → Int32} {h : am_H} {f e : Nat} {v2 v3 v4 : Option Value} (F : MR o N a h) (h10 : o 10 = nI e) (h11 : o 11 = nI f) (hfe : f ≤ e) (he : e ≤ 96) (kt : kz0 (a 75) f e → ∀ u2 u3 u4 : Int32, AW X mX8_takesKey (d + 1) rc rs 110 [some (.ref 69), some (.int 0), some (.int u2), some (.int u3), some (.int u4)] [] n h Q) (kf : ¬ kz0 (a 75) f e → ∀ u2 u3 u4 : Int32, AW X mX8_takesKey (d + 1) rc rs 121 [some (.ref 69), some (.int 0), some (.int u2), some (.int u3), some (.int u4)] [] n h Q) : AW X mX8_takesKey (d + 1) rc rs 17 [some (.ref 69), some (.int 0), v2, v3, v4] [] n h Q := by
  refine aw_aload_n (npc := 18) rfl dX8_takesKey_17 rfl ?_
  refine aw_get (npc := 21) dX8_takesKey_18 rfl kf_X8_36 F.1 rfl ?_
  refine aw_iload_n (npc := 22) rfl dX8_takesKey_21 rfl ?_
  refine aw_iconst (npc := 23) (v := 1) (by decide) dX8_takesKey_22 rfl ?_
  refine aw_iaddV (npc := 24) (v := 1) dX8_takesKey_23 rfl (by decide) ?_
  refine aw_iald (npc := 25) (x := 4) (j := 1) dX8_takesKey_24 rfl F.2.2.2.2.2.2.2.2.1 ⟨by decide, by decide⟩ rfl ?_
  refine aw_aload_n (npc := 26) rfl dX8_takesKey_25 rfl ?_
  refine aw_get (npc := 29) dX8_takesKey_26 rfl kf_X8_36 F.1 rfl ?_
  refine aw_iload_n (npc := 30) rfl dX8_takesKey_29 rfl ?_
  refine aw_iald (npc := 31) (x := 0) (j := 0) dX8_takesKey_30 rfl F.2.2.2.2.2.2.2.2.1 ⟨by decide, by decide⟩ rfl ?_
  refine aw_isubV (npc := 32) (v := 4) dX8_takesKey_31 rfl (by decide) ?_
  refine aw_istore_n (npc := 33) (L' := [some (.ref 69), some (.int 0), some (.int 4), v3, v4]) dX8_takesKey_32 rfl (by decide) rfl rfl ?_
  refine aw_iload_n (npc := 34) rfl dX8_takesKey_33 rfl ?_
  refine aw_aload_n (npc := 35) rfl dX8_takesKey_34 rfl ?_
  refine aw_get (npc := 38) dX8_takesKey_35 rfl kf_X8_195 F.1 rfl ?_
  refine aw_top (y := nI e) (h10) ?_
  refine aw_aload_n (npc := 39) rfl dX8_takesKey_38 rfl ?_
  refine aw_get (npc := 42) dX8_takesKey_39 rfl kf_X8_198 F.1 rfl ?_
  refine aw_top (y := nI f) (h11) ?_
  refine aw_isubV (npc := 43) (v := nI (e - f)) dX8_takesKey_42 rfl (pk_sub (by omega)) ?_
  refine aw_icmp_ne (npc := 46) (tgt := 50) dX8_takesKey_43 rfl (by decide) (fun hc1 => ?_) (fun hc1 => ?_)
  · have hc1N : ¬ 4 = (e - f) := fun z9q => hc1 ((nI_eq (a := 4) (b := (e - f)) (by omega) (by omega)).mpr z9q)
    refine aw_iconst (npc := 51) (v := 0) (by decide) dX8_takesKey_50 rfl ?_
    refine aw_istore_n (npc := 52) (L' := [some (.ref 69), some (.int 0), some (.int 4), some (.int 0), v4]) dX8_takesKey_51 rfl (by decide) rfl rfl ?_
    refine aw_iconst (npc := 53) (v := 0) (by decide) dX8_takesKey_52 rfl ?_
    refine aw_istore (npc := 55) (L' := [some (.ref 69), some (.int 0), some (.int 4), some (.int 0), some (.int 0)]) dX8_takesKey_53 rfl (by decide) rfl rfl ?_
    refine aw_iload (npc := 57) rfl dX8_takesKey_55 rfl ?_
    refine aw_iload_n (npc := 58) rfl dX8_takesKey_57 rfl ?_
    refine aw_icmp_ge (npc := 61) (tgt := 106) dX8_takesKey_58 rfl (by decide) (fun hc => absurd hc (by decide)) (fun _ => ?_)
    refine aw_iload_n (npc := 62) rfl dX8_takesKey_61 rfl ?_
    refine aw_if_eq (npc := 65) (tgt := 106) dX8_takesKey_62 rfl (by decide) (fun _ => ?_) (fun hc => absurd (by decide) hc)
    refine aw_iload_n (npc := 107) rfl dX8_takesKey_106 rfl ?_
    refine aw_if_eq (npc := 110) (tgt := 121) dX8_takesKey_107 rfl (by decide) (fun _ => ?_) (fun hc => absurd (by decide) hc)
    exact kf (fun z => hc1N (by have z2 := z.1; omega)) _ _ _
  · have hc1N := (nI_eq (a := 4) (b := (e - f)) (by omega) (by omega)).mp hc1
    refine aw_iconst (npc := 47) (v := 1) (by decide) dX8_takesKey_46 rfl ?_
    refine aw_goto (npc := 51) dX8_takesKey_47 (by decide) ?_
    refine aw_istore_n (npc := 52) (L' := [some (.ref 69), some (.int 0), some (.int 4), some (.int 1), v4]) dX8_takesKey_51 rfl (by decide) rfl rfl ?_
    refine aw_iconst (npc := 53) (v := 0) (by decide) dX8_takesKey_52 rfl ?_
    refine aw_istore (npc := 55) (L' := [some (.ref 69), some (.int 0), some (.int 4), some (.int 1), some (.int 0)]) dX8_takesKey_53 rfl (by decide) rfl rfl ?_
    refine aw_iload (npc := 57) rfl dX8_takesKey_55 rfl ?_
    refine aw_iload_n (npc := 58) rfl dX8_takesKey_57 rfl ?_
    refine aw_icmp_ge (npc := 61) (tgt := 106) dX8_takesKey_58 rfl (by decide) (fun hc => absurd hc (by decide)) (fun _ => ?_)
    refine aw_iload_n (npc := 62) rfl dX8_takesKey_61 rfl ?_
    refine aw_if_eq (npc := 65) (tgt := 106) dX8_takesKey_62 rfl (by decide) (fun hc => absurd hc (by decide)) (fun _ => ?_)
    refine aw_aload_n (npc := 66) rfl dX8_takesKey_65 rfl ?_
    refine aw_get (npc := 69) dX8_takesKey_66 rfl kf_X8_29 F.1 rfl ?_
    refine aw_aload_n (npc := 70) rfl dX8_takesKey_69 rfl ?_
    refine aw_get (npc := 73) dX8_takesKey_70 rfl kf_X8_198 F.1 rfl ?_
    refine aw_top (y := nI f) (h11) ?_
    refine aw_iload (npc := 75) rfl dX8_takesKey_73 rfl ?_
    refine aw_iaddV (npc := 76) (v := nI (f + 0)) dX8_takesKey_75 rfl (nI_add _ 0) ?_
    refine aw_iald (npc := 77) (x := (a 75) (f + 0)) (j := (f + 0)) dX8_takesKey_76 rfl F.2.2.2.2.2.2.1 (am_ix_nI (by omega)) (tl_at (by omega)) ?_
    refine aw_aload_n (npc := 78) rfl dX8_takesKey_77 rfl ?_
    refine aw_get (npc := 81) dX8_takesKey_78 rfl kf_X8_32 F.1 rfl ?_
    refine aw_aload_n (npc := 82) rfl dX8_takesKey_81 rfl ?_
    refine aw_get (npc := 85) dX8_takesKey_82 rfl kf_X8_36 F.1 rfl ?_
    refine aw_iload_n (npc := 86) rfl dX8_takesKey_85 rfl ?_
    refine aw_iald (npc := 87) (x := 0) (j := 0) dX8_takesKey_86 rfl F.2.2.2.2.2.2.2.2.1 ⟨by decide, by decide⟩ rfl ?_
    refine aw_iload (npc := 89) rfl dX8_takesKey_87 rfl ?_
    refine aw_iaddV (npc := 90) (v := 0) dX8_takesKey_89 rfl (by decide) ?_
    refine aw_cald (npc := 91) (x := 116) (j := 0) dX8_takesKey_90 rfl F.2.2.2.2.2.2.2.1 ⟨by decide, by decide⟩ rfl ?_
    refine aw_icmp_ne (npc := 94) (tgt := 98) dX8_takesKey_91 rfl (by decide) (fun hc2 => ?_) (fun hc2 => ?_)
    · refine aw_iconst (npc := 99) (v := 0) (by decide) dX8_takesKey_98 rfl ?_
      refine aw_istore_n (npc := 100) (L' := [some (.ref 69), some (.int 0), some (.int 4), some (.int 0), some (.int 0)]) dX8_takesKey_99 rfl (by decide) rfl rfl ?_
      refine aw_iinc (npc := 103) (v := 1) (L' := [some (.ref 69), some (.int 0), some (.int 4), some (.int 0), some (.int 1)]) dX8_takesKey_100 rfl rfl (by decide) (by decide) rfl rfl ?_
      refine aw_goto (npc := 55) dX8_takesKey_103 (by decide) ?_
      refine aw_iload (npc := 57) rfl dX8_takesKey_55 rfl ?_
      refine aw_iload_n (npc := 58) rfl dX8_takesKey_57 rfl ?_
      refine aw_icmp_ge (npc := 61) (tgt := 106) dX8_takesKey_58 rfl (by decide) (fun hc => absurd hc (by decide)) (fun _ => ?_)
      refine aw_iload_n (npc := 62) rfl dX8_takesKey_61 rfl ?_
      refine aw_if_eq (npc := 65) (tgt := 106) dX8_takesKey_62 rfl (by decide) (fun _ => ?_) (fun hc => absurd (by decide) hc)
      refine aw_iload_n (npc := 107) rfl dX8_takesKey_106 rfl ?_
      refine aw_if_eq (npc := 110) (tgt := 121) dX8_takesKey_107 rfl (by decide) (fun _ => ?_) (fun hc => absurd (by decide) hc)
      exact kf (fun z => hc2 z.2.1) _ _ _
    · refine aw_iconst (npc := 95) (v := 1) (by decide) dX8_takesKey_94 rfl ?_
      refine aw_goto (npc := 99) dX8_takesKey_95 (by decide) ?_
      refine aw_istore_n (npc := 100) (L' := [some (.ref 69), some (.int 0), some (.int 4), some (.int 1), some (.int 0)]) dX8_takesKey_99 rfl (by decide) rfl rfl ?_
      refine aw_iinc (npc := 103) (v := 1) (L' := [some (.ref 69), some (.int 0), some (.int 4), some (.int 1), some (.int 1)]) dX8_takesKey_100 rfl rfl (by decide) (by decide) rfl rfl ?_
      refine aw_goto (npc := 55) dX8_takesKey_103 (by decide) ?_
      refine aw_iload (npc := 57) rfl dX8_takesKey_55 rfl ?_
      refine aw_iload_n (npc := 58) rfl dX8_takesKey_57 rfl ?_
      refine aw_icmp_ge (npc := 61) (tgt := 106) dX8_takesKey_58 rfl (by decide) (fun hc => absurd hc (by decide)) (fun _ => ?_)
      refine aw_iload_n (npc := 62) rfl dX8_takesKey_61 rfl ?_
      refine aw_if_eq (npc := 65) (tgt := 106) dX8_takesKey_62 rfl (by decide) (fun hc => absurd hc (by decide)) (fun _ => ?_)
      refine aw_aload_n (npc := 66) rfl dX8_takesKey_65 rfl ?_
      refine aw_get (npc := 69) dX8_takesKey_66 rfl kf_X8_29 F.1 rfl ?_
      refine aw_aload_n (npc := 70) rfl dX8_takesKey_69 rfl ?_
      refine aw_get (npc := 73) dX8_takesKey_70 rfl kf_X8_198 F.1 rfl ?_
      refine aw_top (y := nI f) (h11) ?_
      refine aw_iload (npc := 75) rfl dX8_takesKey_73 rfl ?_
      refine aw_iaddV (npc := 76) (v := nI (f + 1)) dX8_takesKey_75 rfl (nI_add _ 1) ?_
      refine aw_iald (npc := 77) (x := (a 75) (f + 1)) (j := (f + 1)) dX8_takesKey_76 rfl F.2.2.2.2.2.2.1 (am_ix_nI (by omega)) (tl_at (by omega)) ?_
      refine aw_aload_n (npc := 78) rfl dX8_takesKey_77 rfl ?_
      refine aw_get (npc := 81) dX8_takesKey_78 rfl kf_X8_32 F.1 rfl ?_
      refine aw_aload_n (npc := 82) rfl dX8_takesKey_81 rfl ?_
      refine aw_get (npc := 85) dX8_takesKey_82 rfl kf_X8_36 F.1 rfl ?_
      refine aw_iload_n (npc := 86) rfl dX8_takesKey_85 rfl ?_
      refine aw_iald (npc := 87) (x := 0) (j := 0) dX8_takesKey_86 rfl F.2.2.2.2.2.2.2.2.1 ⟨by decide, by decide⟩ rfl ?_
      refine aw_iload (npc := 89) rfl dX8_takesKey_87 rfl ?_
      refine aw_iaddV (npc := 90) (v := 1) dX8_takesKey_89 rfl (by decide) ?_
      refine aw_cald (npc := 91) (x := 111) (j := 1) dX8_takesKey_90 rfl F.2.2.2.2.2.2.2.1 ⟨by decide, by decide⟩ rfl ?_
      refine aw_icmp_ne (npc := 94) (tgt := 98) dX8_takesKey_91 rfl (by decide) (fun hc3 => ?_) (fun hc3 => ?_)
      · refine aw_iconst (npc := 99) (v := 0) (by decide) dX8_takesKey_98 rfl ?_
        refine aw_istore_n (npc := 100) (L' := [some (.ref 69), some (.int 0), some (.int 4), some (.int 0), some (.int 1)]) dX8_takesKey_99 rfl (by decide) rfl rfl ?_
        refine aw_iinc (npc := 103) (v := 2) (L' := [some (.ref 69), some (.int 0), some (.int 4), some (.int 0), some (.int 2)]) dX8_takesKey_100 rfl rfl (by decide) (by decide) rfl rfl ?_
        refine aw_goto (npc := 55) dX8_takesKey_103 (by decide) ?_
        refine aw_iload (npc := 57) rfl dX8_takesKey_55 rfl ?_
        refine aw_iload_n (npc := 58) rfl dX8_takesKey_57 rfl ?_
        refine aw_icmp_ge (npc := 61) (tgt := 106) dX8_takesKey_58 rfl (by decide) (fun hc => absurd hc (by decide)) (fun _ => ?_)
        refine aw_iload_n (npc := 62) rfl dX8_takesKey_61 rfl ?_
        refine aw_if_eq (npc := 65) (tgt := 106) dX8_takesKey_62 rfl (by decide) (fun _ => ?_) (fun hc => absurd (by decide) hc)
        refine aw_iload_n (npc := 107) rfl dX8_takesKey_106 rfl ?_
        refine aw_if_eq (npc := 110) (tgt := 121) dX8_takesKey_107 rfl (by decide) (fun _ => ?_) (fun hc => absurd (by decide) hc)
        exact kf (fun z => hc3 z.2.2.1) _ _ _
      · refine aw_iconst (npc := 95) (v := 1) (by decide) dX8_takesKey_94 rfl ?_
        refine aw_goto (npc := 99) dX8_takesKey_95 (by decide) ?_
        refine aw_istore_n (npc := 100) (L' := [some (.ref 69), some (.int 0), some (.int 4), some (.int 1), some (.int 1)]) dX8_takesKey_99 rfl (by decide) rfl rfl ?_
        refine aw_iinc (npc := 103) (v := 2) (L' := [some (.ref 69), some (.int 0), some (.int 4), some (.int 1), some (.int 2)]) dX8_takesKey_100 rfl rfl (by decide) (by decide) rfl rfl ?_
        refine aw_goto (npc := 55) dX8_takesKey_103 (by decide) ?_
        refine aw_iload (npc := 57) rfl dX8_takesKey_55 rfl ?_
        refine aw_iload_n (npc := 58) rfl dX8_takesKey_57 rfl ?_
        refine aw_icmp_ge (npc := 61) (tgt := 106) dX8_takesKey_58 rfl (by decide) (fun hc => absurd hc (by decide)) (fun _ => ?_)
        refine aw_iload_n (npc := 62) rfl dX8_takesKey_61 rfl ?_
        refine aw_if_eq (npc := 65) (tgt := 106) dX8_takesKey_62 rfl (by decide) (fun hc => absurd hc (by decide)) (fun _ => ?_)
        refine aw_aload_n (npc := 66) rfl dX8_takesKey_65 rfl ?_
        refine aw_get (npc := 69) dX8_takesKey_66 rfl kf_X8_29 F.1 rfl ?_
        refine aw_aload_n (npc := 70) rfl dX8_takesKey_69 rfl ?_
        refine aw_get (npc := 73) dX8_takesKey_70 rfl kf_X8_198 F.1 rfl ?_
        refine aw_top (y := nI f) (h11) ?_
        refine aw_iload (npc := 75) rfl dX8_takesKey_73 rfl ?_
        refine aw_iaddV (npc := 76) (v := nI (f + 2)) dX8_takesKey_75 rfl (nI_add _ 2) ?_
        refine aw_iald (npc := 77) (x := (a 75) (f + 2)) (j := (f + 2)) dX8_takesKey_76 rfl F.2.2.2.2.2.2.1 (am_ix_nI (by omega)) (tl_at (by omega)) ?_
        refine aw_aload_n (npc := 78) rfl dX8_takesKey_77 rfl ?_
        refine aw_get (npc := 81) dX8_takesKey_78 rfl kf_X8_32 F.1 rfl ?_
        refine aw_aload_n (npc := 82) rfl dX8_takesKey_81 rfl ?_
        refine aw_get (npc := 85) dX8_takesKey_82 rfl kf_X8_36 F.1 rfl ?_
        refine aw_iload_n (npc := 86) rfl dX8_takesKey_85 rfl ?_
        refine aw_iald (npc := 87) (x := 0) (j := 0) dX8_takesKey_86 rfl F.2.2.2.2.2.2.2.2.1 ⟨by decide, by decide⟩ rfl ?_
        refine aw_iload (npc := 89) rfl dX8_takesKey_87 rfl ?_
        refine aw_iaddV (npc := 90) (v := 2) dX8_takesKey_89 rfl (by decide) ?_
        refine aw_cald (npc := 91) (x := 110) (j := 2) dX8_takesKey_90 rfl F.2.2.2.2.2.2.2.1 ⟨by decide, by decide⟩ rfl ?_
        refine aw_icmp_ne (npc := 94) (tgt := 98) dX8_takesKey_91 rfl (by decide) (fun hc4 => ?_) (fun hc4 => ?_)
        · refine aw_iconst (npc := 99) (v := 0) (by decide) dX8_takesKey_98 rfl ?_
          refine aw_istore_n (npc := 100) (L' := [some (.ref 69), some (.int 0), some (.int 4), some (.int 0), some (.int 2)]) dX8_takesKey_99 rfl (by decide) rfl rfl ?_
          refine aw_iinc (npc := 103) (v := 3) (L' := [some (.ref 69), some (.int 0), some (.int 4), some (.int 0), some (.int 3)]) dX8_takesKey_100 rfl rfl (by decide) (by decide) rfl rfl ?_
          refine aw_goto (npc := 55) dX8_takesKey_103 (by decide) ?_
          refine aw_iload (npc := 57) rfl dX8_takesKey_55 rfl ?_
          refine aw_iload_n (npc := 58) rfl dX8_takesKey_57 rfl ?_
          refine aw_icmp_ge (npc := 61) (tgt := 106) dX8_takesKey_58 rfl (by decide) (fun hc => absurd hc (by decide)) (fun _ => ?_)
          refine aw_iload_n (npc := 62) rfl dX8_takesKey_61 rfl ?_
          refine aw_if_eq (npc := 65) (tgt := 106) dX8_takesKey_62 rfl (by decide) (fun _ => ?_) (fun hc => absurd (by decide) hc)
          refine aw_iload_n (npc := 107) rfl dX8_takesKey_106 rfl ?_
          refine aw_if_eq (npc := 110) (tgt := 121) dX8_takesKey_107 rfl (by decide) (fun _ => ?_) (fun hc => absurd (by decide) hc)
          exact kf (fun z => hc4 z.2.2.2.1) _ _ _
        · refine aw_iconst (npc := 95) (v := 1) (by decide) dX8_takesKey_94 rfl ?_
          refine aw_goto (npc := 99) dX8_takesKey_95 (by decide) ?_
          refine aw_istore_n (npc := 100) (L' := [some (.ref 69), some (.int 0), some (.int 4), some (.int 1), some (.int 2)]) dX8_takesKey_99 rfl (by decide) rfl rfl ?_
          refine aw_iinc (npc := 103) (v := 3) (L' := [some (.ref 69), some (.int 0), some (.int 4), some (.int 1), some (.int 3)]) dX8_takesKey_100 rfl rfl (by decide) (by decide) rfl rfl ?_
          refine aw_goto (npc := 55) dX8_takesKey_103 (by decide) ?_
          refine aw_iload (npc := 57) rfl dX8_takesKey_55 rfl ?_
          refine aw_iload_n (npc := 58) rfl dX8_takesKey_57 rfl ?_
          refine aw_icmp_ge (npc := 61) (tgt := 106) dX8_takesKey_58 rfl (by decide) (fun hc => absurd hc (by decide)) (fun _ => ?_)
          refine aw_iload_n (npc := 62) rfl dX8_takesKey_61 rfl ?_
          refine aw_if_eq (npc := 65) (tgt := 106) dX8_takesKey_62 rfl (by decide) (fun hc => absurd hc (by decide)) (fun _ => ?_)
          refine aw_aload_n (npc := 66) rfl dX8_takesKey_65 rfl ?_
          refine aw_get (npc := 69) dX8_takesKey_66 rfl kf_X8_29 F.1 rfl ?_
          refine aw_aload_n (npc := 70) rfl dX8_takesKey_69 rfl ?_
          refine aw_get (npc := 73) dX8_takesKey_70 rfl kf_X8_198 F.1 rfl ?_
          refine aw_top (y := nI f) (h11) ?_
          refine aw_iload (npc := 75) rfl dX8_takesKey_73 rfl ?_
          refine aw_iaddV (npc := 76) (v := nI (f + 3)) dX8_takesKey_75 rfl (nI_add _ 3) ?_
          refine aw_iald (npc := 77) (x := (a 75) (f + 3)) (j := (f + 3)) dX8_takesKey_76 rfl F.2.2.2.2.2.2.1 (am_ix_nI (by omega)) (tl_at (by omega)) ?_
          refine aw_aload_n (npc := 78) rfl dX8_takesKey_77 rfl ?_
          refine aw_get (npc := 81) dX8_takesKey_78 rfl kf_X8_32 F.1 rfl ?_
          refine aw_aload_n (npc := 82) rfl dX8_takesKey_81 rfl ?_
          refine aw_get (npc := 85) dX8_takesKey_82 rfl kf_X8_36 F.1 rfl ?_
          refine aw_iload_n (npc := 86) rfl dX8_takesKey_85 rfl ?_
          refine aw_iald (npc := 87) (x := 0) (j := 0) dX8_takesKey_86 rfl F.2.2.2.2.2.2.2.2.1 ⟨by decide, by decide⟩ rfl ?_
          refine aw_iload (npc := 89) rfl dX8_takesKey_87 rfl ?_
          refine aw_iaddV (npc := 90) (v := 3) dX8_takesKey_89 rfl (by decide) ?_
          refine aw_cald (npc := 91) (x := 101) (j := 3) dX8_takesKey_90 rfl F.2.2.2.2.2.2.2.1 ⟨by decide, by decide⟩ rfl ?_
          refine aw_icmp_ne (npc := 94) (tgt := 98) dX8_takesKey_91 rfl (by decide) (fun hc5 => ?_) (fun hc5 => ?_)
          · refine aw_iconst (npc := 99) (v := 0) (by decide) dX8_takesKey_98 rfl ?_
            refine aw_istore_n (npc := 100) (L' := [some (.ref 69), some (.int 0), some (.int 4), some (.int 0), some (.int 3)]) dX8_takesKey_99 rfl (by decide) rfl rfl ?_
            refine aw_iinc (npc := 103) (v := 4) (L' := [some (.ref 69), some (.int 0), some (.int 4), some (.int 0), some (.int 4)]) dX8_takesKey_100 rfl rfl (by decide) (by decide) rfl rfl ?_
            refine aw_goto (npc := 55) dX8_takesKey_103 (by decide) ?_
            refine aw_iload (npc := 57) rfl dX8_takesKey_55 rfl ?_
            refine aw_iload_n (npc := 58) rfl dX8_takesKey_57 rfl ?_
            refine aw_icmp_ge (npc := 61) (tgt := 106) dX8_takesKey_58 rfl (by decide) (fun _ => ?_) (fun hc => absurd (by decide) hc)
            refine aw_iload_n (npc := 107) rfl dX8_takesKey_106 rfl ?_
            refine aw_if_eq (npc := 110) (tgt := 121) dX8_takesKey_107 rfl (by decide) (fun _ => ?_) (fun hc => absurd (by decide) hc)
            exact kf (fun z => hc5 z.2.2.2.2) _ _ _
          · refine aw_iconst (npc := 95) (v := 1) (by decide) dX8_takesKey_94 rfl ?_
            refine aw_goto (npc := 99) dX8_takesKey_95 (by decide) ?_
            refine aw_istore_n (npc := 100) (L' := [some (.ref 69), some (.int 0), some (.int 4), some (.int 1), some (.int 3)]) dX8_takesKey_99 rfl (by decide) rfl rfl ?_
            refine aw_iinc (npc := 103) (v := 4) (L' := [some (.ref 69), some (.int 0), some (.int 4), some (.int 1), some (.int 4)]) dX8_takesKey_100 rfl rfl (by decide) (by decide) rfl rfl ?_
            refine aw_goto (npc := 55) dX8_takesKey_103 (by decide) ?_
            refine aw_iload (npc := 57) rfl dX8_takesKey_55 rfl ?_
            refine aw_iload_n (npc := 58) rfl dX8_takesKey_57 rfl ?_
            refine aw_icmp_ge (npc := 61) (tgt := 106) dX8_takesKey_58 rfl (by decide) (fun _ => ?_) (fun hc => absurd (by decide) hc)
            refine aw_iload_n (npc := 107) rfl dX8_takesKey_106 rfl ?_
            refine aw_if_eq (npc := 110) (tgt := 121) dX8_takesKey_107 rfl (by decide) (fun hc => absurd hc (by decide)) (fun _ => ?_)
            exact kt ⟨by omega, hc2, hc3, hc4, hc5⟩ _ _ _
def kz1 (tp : Nat → Int32) (f e : Nat) : Prop := e = f + 3 ∧ tp (f + 0) = 102 ∧ tp (f + 1) = 101 ∧ tp (f + 2) = 101
set_option maxHeartbeats 4000000 in
set_option maxRecDepth 100000 in
theorem m_kw1 {X : List Int32} {d rc rs n : Nat} {Q : am_Q} {L : Nat} {N : Nat → Int32} {a : Nat → Nat → Int32} {o : Nat → Int32} {h : am_H} {f e : Nat} {v2 v3 v4 : Option Value} (F : MR o N a h) (h10 : o 10 = nI e) (h11 : o 11 = nI f) (hfe : f ≤ e) (he : e ≤ 96) (kt : kz1 (a 75) f e → ∀ u2 u3 u4 : Int32, AW X mX8_takesKey (d + 1) rc rs 110 [some (.ref 69), some (.int 1), some (.int u2), some (.int u3), some (.int u4)] [] n h Q) (kf : ¬ kz1 (a 75) f e → ∀ u2 u3 u4 : Int32, AW X mX8_takesKey (d + 1) rc rs 121 [some (.ref 69), some (.int 1), some (.int u2), some (.int u3), some (.int u4)] [] n h Q) : AW X mX8_takesKey (d + 1) rc rs 17 [some (.ref 69), some (.int 1), v2, v3, v4] [] n h Q := by
  refine aw_aload_n (npc := 18) rfl dX8_takesKey_17 rfl ?_
  refine aw_get (npc := 21) dX8_takesKey_18 rfl kf_X8_36 F.1 rfl ?_
  refine aw_iload_n (npc := 22) rfl dX8_takesKey_21 rfl ?_
  refine aw_iconst (npc := 23) (v := 1) (by decide) dX8_takesKey_22 rfl ?_
  refine aw_iaddV (npc := 24) (v := 2) dX8_takesKey_23 rfl (by decide) ?_
  refine aw_iald (npc := 25) (x := 7) (j := 2) dX8_takesKey_24 rfl F.2.2.2.2.2.2.2.2.1 ⟨by decide, by decide⟩ rfl ?_
  refine aw_aload_n (npc := 26) rfl dX8_takesKey_25 rfl ?_
  refine aw_get (npc := 29) dX8_takesKey_26 rfl kf_X8_36 F.1 rfl ?_
  refine aw_iload_n (npc := 30) rfl dX8_takesKey_29 rfl ?_
  refine aw_iald (npc := 31) (x := 4) (j := 1) dX8_takesKey_30 rfl F.2.2.2.2.2.2.2.2.1 ⟨by decide, by decide⟩ rfl ?_
  refine aw_isubV (npc := 32) (v := 3) dX8_takesKey_31 rfl (by decide) ?_
  refine aw_istore_n (npc := 33) (L' := [some (.ref 69), some (.int 1), some (.int 3), v3, v4]) dX8_takesKey_32 rfl (by decide) rfl rfl ?_
  refine aw_iload_n (npc := 34) rfl dX8_takesKey_33 rfl ?_
  refine aw_aload_n (npc := 35) rfl dX8_takesKey_34 rfl ?_
  refine aw_get (npc := 38) dX8_takesKey_35 rfl kf_X8_195 F.1 rfl ?_
  refine aw_top (y := nI e) (h10) ?_
  refine aw_aload_n (npc := 39) rfl dX8_takesKey_38 rfl ?_
  refine aw_get (npc := 42) dX8_takesKey_39 rfl kf_X8_198 F.1 rfl ?_
  refine aw_top (y := nI f) (h11) ?_
  refine aw_isubV (npc := 43) (v := nI (e - f)) dX8_takesKey_42 rfl (pk_sub (by omega)) ?_
  refine aw_icmp_ne (npc := 46) (tgt := 50) dX8_takesKey_43 rfl (by decide) (fun hc1 => ?_) (fun hc1 => ?_)
  · have hc1N : ¬ 3 = (e - f) := fun z9q => hc1 ((nI_eq (a := 3) (b := (e - f)) (by omega) (by omega)).mpr z9q)
    refine aw_iconst (npc := 51) (v := 0) (by decide) dX8_takesKey_50 rfl ?_
    refine aw_istore_n (npc := 52) (L' := [some (.ref 69), some (.int 1), some (.int 3), some (.int 0), v4]) dX8_takesKey_51 rfl (by decide) rfl rfl ?_
    refine aw_iconst (npc := 53) (v := 0) (by decide) dX8_takesKey_52 rfl ?_
    refine aw_istore (npc := 55) (L' := [some (.ref 69), some (.int 1), some (.int 3), some (.int 0), some (.int 0)]) dX8_takesKey_53 rfl (by decide) rfl rfl ?_
    refine aw_iload (npc := 57) rfl dX8_takesKey_55 rfl ?_
    refine aw_iload_n (npc := 58) rfl dX8_takesKey_57 rfl ?_
    refine aw_icmp_ge (npc := 61) (tgt := 106) dX8_takesKey_58 rfl (by decide) (fun hc => absurd hc (by decide)) (fun _ => ?_)
    refine aw_iload_n (npc := 62) rfl dX8_takesKey_61 rfl ?_
    refine aw_if_eq (npc := 65) (tgt := 106) dX8_takesKey_62 rfl (by decide) (fun _ => ?_) (fun hc => absurd (by decide) hc)
    refine aw_iload_n (npc := 107) rfl dX8_takesKey_106 rfl ?_
    refine aw_if_eq (npc := 110) (tgt := 121) dX8_takesKey_107 rfl (by decide) (fun _ => ?_) (fun hc => absurd (by decide) hc)
    exact kf (fun z => hc1N (by have z2 := z.1; omega)) _ _ _
  · have hc1N := (nI_eq (a := 3) (b := (e - f)) (by omega) (by omega)).mp hc1
    refine aw_iconst (npc := 47) (v := 1) (by decide) dX8_takesKey_46 rfl ?_
    refine aw_goto (npc := 51) dX8_takesKey_47 (by decide) ?_
    refine aw_istore_n (npc := 52) (L' := [some (.ref 69), some (.int 1), some (.int 3), some (.int 1), v4]) dX8_takesKey_51 rfl (by decide) rfl rfl ?_
    refine aw_iconst (npc := 53) (v := 0) (by decide) dX8_takesKey_52 rfl ?_
    refine aw_istore (npc := 55) (L' := [some (.ref 69), some (.int 1), some (.int 3), some (.int 1), some (.int 0)]) dX8_takesKey_53 rfl (by decide) rfl rfl ?_
    refine aw_iload (npc := 57) rfl dX8_takesKey_55 rfl ?_
    refine aw_iload_n (npc := 58) rfl dX8_takesKey_57 rfl ?_
    refine aw_icmp_ge (npc := 61) (tgt := 106) dX8_takesKey_58 rfl (by decide) (fun hc => absurd hc (by decide)) (fun _ => ?_)
    refine aw_iload_n (npc := 62) rfl dX8_takesKey_61 rfl ?_
    refine aw_if_eq (npc := 65) (tgt := 106) dX8_takesKey_62 rfl (by decide) (fun hc => absurd hc (by decide)) (fun _ => ?_)
    refine aw_aload_n (npc := 66) rfl dX8_takesKey_65 rfl ?_
    refine aw_get (npc := 69) dX8_takesKey_66 rfl kf_X8_29 F.1 rfl ?_
    refine aw_aload_n (npc := 70) rfl dX8_takesKey_69 rfl ?_
    refine aw_get (npc := 73) dX8_takesKey_70 rfl kf_X8_198 F.1 rfl ?_
    refine aw_top (y := nI f) (h11) ?_
    refine aw_iload (npc := 75) rfl dX8_takesKey_73 rfl ?_
    refine aw_iaddV (npc := 76) (v := nI (f + 0)) dX8_takesKey_75 rfl (nI_add _ 0) ?_
    refine aw_iald (npc := 77) (x := (a 75) (f + 0)) (j := (f + 0)) dX8_takesKey_76 rfl F.2.2.2.2.2.2.1 (am_ix_nI (by omega)) (tl_at (by omega)) ?_
    refine aw_aload_n (npc := 78) rfl dX8_takesKey_77 rfl ?_
    refine aw_get (npc := 81) dX8_takesKey_78 rfl kf_X8_32 F.1 rfl ?_
    refine aw_aload_n (npc := 82) rfl dX8_takesKey_81 rfl ?_
    refine aw_get (npc := 85) dX8_takesKey_82 rfl kf_X8_36 F.1 rfl ?_
    refine aw_iload_n (npc := 86) rfl dX8_takesKey_85 rfl ?_
    refine aw_iald (npc := 87) (x := 4) (j := 1) dX8_takesKey_86 rfl F.2.2.2.2.2.2.2.2.1 ⟨by decide, by decide⟩ rfl ?_
    refine aw_iload (npc := 89) rfl dX8_takesKey_87 rfl ?_
    refine aw_iaddV (npc := 90) (v := 4) dX8_takesKey_89 rfl (by decide) ?_
    refine aw_cald (npc := 91) (x := 102) (j := 4) dX8_takesKey_90 rfl F.2.2.2.2.2.2.2.1 ⟨by decide, by decide⟩ rfl ?_
    refine aw_icmp_ne (npc := 94) (tgt := 98) dX8_takesKey_91 rfl (by decide) (fun hc2 => ?_) (fun hc2 => ?_)
    · refine aw_iconst (npc := 99) (v := 0) (by decide) dX8_takesKey_98 rfl ?_
      refine aw_istore_n (npc := 100) (L' := [some (.ref 69), some (.int 1), some (.int 3), some (.int 0), some (.int 0)]) dX8_takesKey_99 rfl (by decide) rfl rfl ?_
      refine aw_iinc (npc := 103) (v := 1) (L' := [some (.ref 69), some (.int 1), some (.int 3), some (.int 0), some (.int 1)]) dX8_takesKey_100 rfl rfl (by decide) (by decide) rfl rfl ?_
      refine aw_goto (npc := 55) dX8_takesKey_103 (by decide) ?_
      refine aw_iload (npc := 57) rfl dX8_takesKey_55 rfl ?_
      refine aw_iload_n (npc := 58) rfl dX8_takesKey_57 rfl ?_
      refine aw_icmp_ge (npc := 61) (tgt := 106) dX8_takesKey_58 rfl (by decide) (fun hc => absurd hc (by decide)) (fun _ => ?_)
      refine aw_iload_n (npc := 62) rfl dX8_takesKey_61 rfl ?_
      refine aw_if_eq (npc := 65) (tgt := 106) dX8_takesKey_62 rfl (by decide) (fun _ => ?_) (fun hc => absurd (by decide) hc)
      refine aw_iload_n (npc := 107) rfl dX8_takesKey_106 rfl ?_
      refine aw_if_eq (npc := 110) (tgt := 121) dX8_takesKey_107 rfl (by decide) (fun _ => ?_) (fun hc => absurd (by decide) hc)
      exact kf (fun z => hc2 z.2.1) _ _ _
    · refine aw_iconst (npc := 95) (v := 1) (by decide) dX8_takesKey_94 rfl ?_
      refine aw_goto (npc := 99) dX8_takesKey_95 (by decide) ?_
      refine aw_istore_n (npc := 100) (L' := [some (.ref 69), some (.int 1), some (.int 3), some (.int 1), some (.int 0)]) dX8_takesKey_99 rfl (by decide) rfl rfl ?_
      refine aw_iinc (npc := 103) (v := 1) (L' := [some (.ref 69), some (.int 1), some (.int 3), some (.int 1), some (.int 1)]) dX8_takesKey_100 rfl rfl (by decide) (by decide) rfl rfl ?_
      refine aw_goto (npc := 55) dX8_takesKey_103 (by decide) ?_
      refine aw_iload (npc := 57) rfl dX8_takesKey_55 rfl ?_
      refine aw_iload_n (npc := 58) rfl dX8_takesKey_57 rfl ?_
      refine aw_icmp_ge (npc := 61) (tgt := 106) dX8_takesKey_58 rfl (by decide) (fun hc => absurd hc (by decide)) (fun _ => ?_)
      refine aw_iload_n (npc := 62) rfl dX8_takesKey_61 rfl ?_
      refine aw_if_eq (npc := 65) (tgt := 106) dX8_takesKey_62 rfl (by decide) (fun hc => absurd hc (by decide)) (fun _ => ?_)
      refine aw_aload_n (npc := 66) rfl dX8_takesKey_65 rfl ?_
      refine aw_get (npc := 69) dX8_takesKey_66 rfl kf_X8_29 F.1 rfl ?_
      refine aw_aload_n (npc := 70) rfl dX8_takesKey_69 rfl ?_
      refine aw_get (npc := 73) dX8_takesKey_70 rfl kf_X8_198 F.1 rfl ?_
      refine aw_top (y := nI f) (h11) ?_
      refine aw_iload (npc := 75) rfl dX8_takesKey_73 rfl ?_
      refine aw_iaddV (npc := 76) (v := nI (f + 1)) dX8_takesKey_75 rfl (nI_add _ 1) ?_
      refine aw_iald (npc := 77) (x := (a 75) (f + 1)) (j := (f + 1)) dX8_takesKey_76 rfl F.2.2.2.2.2.2.1 (am_ix_nI (by omega)) (tl_at (by omega)) ?_
      refine aw_aload_n (npc := 78) rfl dX8_takesKey_77 rfl ?_
      refine aw_get (npc := 81) dX8_takesKey_78 rfl kf_X8_32 F.1 rfl ?_
      refine aw_aload_n (npc := 82) rfl dX8_takesKey_81 rfl ?_
      refine aw_get (npc := 85) dX8_takesKey_82 rfl kf_X8_36 F.1 rfl ?_
      refine aw_iload_n (npc := 86) rfl dX8_takesKey_85 rfl ?_
      refine aw_iald (npc := 87) (x := 4) (j := 1) dX8_takesKey_86 rfl F.2.2.2.2.2.2.2.2.1 ⟨by decide, by decide⟩ rfl ?_
      refine aw_iload (npc := 89) rfl dX8_takesKey_87 rfl ?_
      refine aw_iaddV (npc := 90) (v := 5) dX8_takesKey_89 rfl (by decide) ?_
      refine aw_cald (npc := 91) (x := 101) (j := 5) dX8_takesKey_90 rfl F.2.2.2.2.2.2.2.1 ⟨by decide, by decide⟩ rfl ?_
      refine aw_icmp_ne (npc := 94) (tgt := 98) dX8_takesKey_91 rfl (by decide) (fun hc3 => ?_) (fun hc3 => ?_)
      · refine aw_iconst (npc := 99) (v := 0) (by decide) dX8_takesKey_98 rfl ?_
        refine aw_istore_n (npc := 100) (L' := [some (.ref 69), some (.int 1), some (.int 3), some (.int 0), some (.int 1)]) dX8_takesKey_99 rfl (by decide) rfl rfl ?_
        refine aw_iinc (npc := 103) (v := 2) (L' := [some (.ref 69), some (.int 1), some (.int 3), some (.int 0), some (.int 2)]) dX8_takesKey_100 rfl rfl (by decide) (by decide) rfl rfl ?_
        refine aw_goto (npc := 55) dX8_takesKey_103 (by decide) ?_
        refine aw_iload (npc := 57) rfl dX8_takesKey_55 rfl ?_
        refine aw_iload_n (npc := 58) rfl dX8_takesKey_57 rfl ?_
        refine aw_icmp_ge (npc := 61) (tgt := 106) dX8_takesKey_58 rfl (by decide) (fun hc => absurd hc (by decide)) (fun _ => ?_)
        refine aw_iload_n (npc := 62) rfl dX8_takesKey_61 rfl ?_
        refine aw_if_eq (npc := 65) (tgt := 106) dX8_takesKey_62 rfl (by decide) (fun _ => ?_) (fun hc => absurd (by decide) hc)
        refine aw_iload_n (npc := 107) rfl dX8_takesKey_106 rfl ?_
        refine aw_if_eq (npc := 110) (tgt := 121) dX8_takesKey_107 rfl (by decide) (fun _ => ?_) (fun hc => absurd (by decide) hc)
        exact kf (fun z => hc3 z.2.2.1) _ _ _
      · refine aw_iconst (npc := 95) (v := 1) (by decide) dX8_takesKey_94 rfl ?_
        refine aw_goto (npc := 99) dX8_takesKey_95 (by decide) ?_
        refine aw_istore_n (npc := 100) (L' := [some (.ref 69), some (.int 1), some (.int 3), some (.int 1), some (.int 1)]) dX8_takesKey_99 rfl (by decide) rfl rfl ?_
        refine aw_iinc (npc := 103) (v := 2) (L' := [some (.ref 69), some (.int 1), some (.int 3), some (.int 1), some (.int 2)]) dX8_takesKey_100 rfl rfl (by decide) (by decide) rfl rfl ?_
        refine aw_goto (npc := 55) dX8_takesKey_103 (by decide) ?_
        refine aw_iload (npc := 57) rfl dX8_takesKey_55 rfl ?_
        refine aw_iload_n (npc := 58) rfl dX8_takesKey_57 rfl ?_
        refine aw_icmp_ge (npc := 61) (tgt := 106) dX8_takesKey_58 rfl (by decide) (fun hc => absurd hc (by decide)) (fun _ => ?_)
        refine aw_iload_n (npc := 62) rfl dX8_takesKey_61 rfl ?_
        refine aw_if_eq (npc := 65) (tgt := 106) dX8_takesKey_62 rfl (by decide) (fun hc => absurd hc (by decide)) (fun _ => ?_)
        refine aw_aload_n (npc := 66) rfl dX8_takesKey_65 rfl ?_
        refine aw_get (npc := 69) dX8_takesKey_66 rfl kf_X8_29 F.1 rfl ?_
        refine aw_aload_n (npc := 70) rfl dX8_takesKey_69 rfl ?_
        refine aw_get (npc := 73) dX8_takesKey_70 rfl kf_X8_198 F.1 rfl ?_
        refine aw_top (y := nI f) (h11) ?_
        refine aw_iload (npc := 75) rfl dX8_takesKey_73 rfl ?_
        refine aw_iaddV (npc := 76) (v := nI (f + 2)) dX8_takesKey_75 rfl (nI_add _ 2) ?_
        refine aw_iald (npc := 77) (x := (a 75) (f + 2)) (j := (f + 2)) dX8_takesKey_76 rfl F.2.2.2.2.2.2.1 (am_ix_nI (by omega)) (tl_at (by omega)) ?_
        refine aw_aload_n (npc := 78) rfl dX8_takesKey_77 rfl ?_
        refine aw_get (npc := 81) dX8_takesKey_78 rfl kf_X8_32 F.1 rfl ?_
        refine aw_aload_n (npc := 82) rfl dX8_takesKey_81 rfl ?_
        refine aw_get (npc := 85) dX8_takesKey_82 rfl kf_X8_36 F.1 rfl ?_
        refine aw_iload_n (npc := 86) rfl dX8_takesKey_85 rfl ?_
        refine aw_iald (npc := 87) (x := 4) (j := 1) dX8_takesKey_86 rfl F.2.2.2.2.2.2.2.2.1 ⟨by decide, by decide⟩ rfl ?_
        refine aw_iload (npc := 89) rfl dX8_takesKey_87 rfl ?_
        refine aw_iaddV (npc := 90) (v := 6) dX8_takesKey_89 rfl (by decide) ?_
        refine aw_cald (npc := 91) (x := 101) (j := 6) dX8_takesKey_90 rfl F.2.2.2.2.2.2.2.1 ⟨by decide, by decide⟩ rfl ?_
        refine aw_icmp_ne (npc := 94) (tgt := 98) dX8_takesKey_91 rfl (by decide) (fun hc4 => ?_) (fun hc4 => ?_)
        · refine aw_iconst (npc := 99) (v := 0) (by decide) dX8_takesKey_98 rfl ?_
          refine aw_istore_n (npc := 100) (L' := [some (.ref 69), some (.int 1), some (.int 3), some (.int 0), some (.int 2)]) dX8_takesKey_99 rfl (by decide) rfl rfl ?_
          refine aw_iinc (npc := 103) (v := 3) (L' := [some (.ref 69), some (.int 1), some (.int 3), some (.int 0), some (.int 3)]) dX8_takesKey_100 rfl rfl (by decide) (by decide) rfl rfl ?_
          refine aw_goto (npc := 55) dX8_takesKey_103 (by decide) ?_
          refine aw_iload (npc := 57) rfl dX8_takesKey_55 rfl ?_
          refine aw_iload_n (npc := 58) rfl dX8_takesKey_57 rfl ?_
          refine aw_icmp_ge (npc := 61) (tgt := 106) dX8_takesKey_58 rfl (by decide) (fun _ => ?_) (fun hc => absurd (by decide) hc)
          refine aw_iload_n (npc := 107) rfl dX8_takesKey_106 rfl ?_
          refine aw_if_eq (npc := 110) (tgt := 121) dX8_takesKey_107 rfl (by decide) (fun _ => ?_) (fun hc => absurd (by decide) hc)
          exact kf (fun z => hc4 z.2.2.2) _ _ _
        · refine aw_iconst (npc := 95) (v := 1) (by decide) dX8_takesKey_94 rfl ?_
          refine aw_goto (npc := 99) dX8_takesKey_95 (by decide) ?_
          refine aw_istore_n (npc := 100) (L' := [some (.ref 69), some (.int 1), some (.int 3), some (.int 1), some (.int 2)]) dX8_takesKey_99 rfl (by decide) rfl rfl ?_
          refine aw_iinc (npc := 103) (v := 3) (L' := [some (.ref 69), some (.int 1), some (.int 3), some (.int 1), some (.int 3)]) dX8_takesKey_100 rfl rfl (by decide) (by decide) rfl rfl ?_
          refine aw_goto (npc := 55) dX8_takesKey_103 (by decide) ?_
          refine aw_iload (npc := 57) rfl dX8_takesKey_55 rfl ?_
          refine aw_iload_n (npc := 58) rfl dX8_takesKey_57 rfl ?_
          refine aw_icmp_ge (npc := 61) (tgt := 106) dX8_takesKey_58 rfl (by decide) (fun _ => ?_) (fun hc => absurd (by decide) hc)
          refine aw_iload_n (npc := 107) rfl dX8_takesKey_106 rfl ?_
          refine aw_if_eq (npc := 110) (tgt := 121) dX8_takesKey_107 rfl (by decide) (fun hc => absurd hc (by decide)) (fun _ => ?_)
          exact kt ⟨by omega, hc2, hc3, hc4⟩ _ _ _
def kz2 (tp : Nat → Int32) (f e : Nat) : Prop := e = f + 4 ∧ tp (f + 0) = 102 ∧ tp (f + 1) = 105 ∧ tp (f + 2) = 110 ∧ tp (f + 3) = 101
set_option maxHeartbeats 4000000 in
set_option maxRecDepth 100000 in
theorem m_kw2 {X : List Int32} {d rc rs n : Nat} {Q : am_Q} {L : Nat} {N : Nat → Int32} {a : Nat → Nat → Int32} {o : Nat → Int32} {h : am_H} {f e : Nat} {v2 v3 v4 : Option Value} (F : MR o N a h) (h10 : o 10 = nI e) (h11 : o 11 = nI f) (hfe : f ≤ e) (he : e ≤ 96) (kt : kz2 (a 75) f e → ∀ u2 u3 u4 : Int32, AW X mX8_takesKey (d + 1) rc rs 110 [some (.ref 69), some (.int 2), some (.int u2), some (.int u3), some (.int u4)] [] n h Q) (kf : ¬ kz2 (a 75) f e → ∀ u2 u3 u4 : Int32, AW X mX8_takesKey (d + 1) rc rs 121 [some (.ref 69), some (.int 2), some (.int u2), some (.int u3), some (.int u4)] [] n h Q) : AW X mX8_takesKey (d + 1) rc rs 17 [some (.ref 69), some (.int 2), v2, v3, v4] [] n h Q := by
  refine aw_aload_n (npc := 18) rfl dX8_takesKey_17 rfl ?_
  refine aw_get (npc := 21) dX8_takesKey_18 rfl kf_X8_36 F.1 rfl ?_
  refine aw_iload_n (npc := 22) rfl dX8_takesKey_21 rfl ?_
  refine aw_iconst (npc := 23) (v := 1) (by decide) dX8_takesKey_22 rfl ?_
  refine aw_iaddV (npc := 24) (v := 3) dX8_takesKey_23 rfl (by decide) ?_
  refine aw_iald (npc := 25) (x := 11) (j := 3) dX8_takesKey_24 rfl F.2.2.2.2.2.2.2.2.1 ⟨by decide, by decide⟩ rfl ?_
  refine aw_aload_n (npc := 26) rfl dX8_takesKey_25 rfl ?_
  refine aw_get (npc := 29) dX8_takesKey_26 rfl kf_X8_36 F.1 rfl ?_
  refine aw_iload_n (npc := 30) rfl dX8_takesKey_29 rfl ?_
  refine aw_iald (npc := 31) (x := 7) (j := 2) dX8_takesKey_30 rfl F.2.2.2.2.2.2.2.2.1 ⟨by decide, by decide⟩ rfl ?_
  refine aw_isubV (npc := 32) (v := 4) dX8_takesKey_31 rfl (by decide) ?_
  refine aw_istore_n (npc := 33) (L' := [some (.ref 69), some (.int 2), some (.int 4), v3, v4]) dX8_takesKey_32 rfl (by decide) rfl rfl ?_
  refine aw_iload_n (npc := 34) rfl dX8_takesKey_33 rfl ?_
  refine aw_aload_n (npc := 35) rfl dX8_takesKey_34 rfl ?_
  refine aw_get (npc := 38) dX8_takesKey_35 rfl kf_X8_195 F.1 rfl ?_
  refine aw_top (y := nI e) (h10) ?_
  refine aw_aload_n (npc := 39) rfl dX8_takesKey_38 rfl ?_
  refine aw_get (npc := 42) dX8_takesKey_39 rfl kf_X8_198 F.1 rfl ?_
  refine aw_top (y := nI f) (h11) ?_
  refine aw_isubV (npc := 43) (v := nI (e - f)) dX8_takesKey_42 rfl (pk_sub (by omega)) ?_
  refine aw_icmp_ne (npc := 46) (tgt := 50) dX8_takesKey_43 rfl (by decide) (fun hc1 => ?_) (fun hc1 => ?_)
  · have hc1N : ¬ 4 = (e - f) := fun z9q => hc1 ((nI_eq (a := 4) (b := (e - f)) (by omega) (by omega)).mpr z9q)
    refine aw_iconst (npc := 51) (v := 0) (by decide) dX8_takesKey_50 rfl ?_
    refine aw_istore_n (npc := 52) (L' := [some (.ref 69), some (.int 2), some (.int 4), some (.int 0), v4]) dX8_takesKey_51 rfl (by decide) rfl rfl ?_
    refine aw_iconst (npc := 53) (v := 0) (by decide) dX8_takesKey_52 rfl ?_
    refine aw_istore (npc := 55) (L' := [some (.ref 69), some (.int 2), some (.int 4), some (.int 0), some (.int 0)]) dX8_takesKey_53 rfl (by decide) rfl rfl ?_
    refine aw_iload (npc := 57) rfl dX8_takesKey_55 rfl ?_
    refine aw_iload_n (npc := 58) rfl dX8_takesKey_57 rfl ?_
    refine aw_icmp_ge (npc := 61) (tgt := 106) dX8_takesKey_58 rfl (by decide) (fun hc => absurd hc (by decide)) (fun _ => ?_)
    refine aw_iload_n (npc := 62) rfl dX8_takesKey_61 rfl ?_
    refine aw_if_eq (npc := 65) (tgt := 106) dX8_takesKey_62 rfl (by decide) (fun _ => ?_) (fun hc => absurd (by decide) hc)
    refine aw_iload_n (npc := 107) rfl dX8_takesKey_106 rfl ?_
    refine aw_if_eq (npc := 110) (tgt := 121) dX8_takesKey_107 rfl (by decide) (fun _ => ?_) (fun hc => absurd (by decide) hc)
    exact kf (fun z => hc1N (by have z2 := z.1; omega)) _ _ _
  · have hc1N := (nI_eq (a := 4) (b := (e - f)) (by omega) (by omega)).mp hc1
    refine aw_iconst (npc := 47) (v := 1) (by decide) dX8_takesKey_46 rfl ?_
    refine aw_goto (npc := 51) dX8_takesKey_47 (by decide) ?_
    refine aw_istore_n (npc := 52) (L' := [some (.ref 69), some (.int 2), some (.int 4), some (.int 1), v4]) dX8_takesKey_51 rfl (by decide) rfl rfl ?_
    refine aw_iconst (npc := 53) (v := 0) (by decide) dX8_takesKey_52 rfl ?_
    refine aw_istore (npc := 55) (L' := [some (.ref 69), some (.int 2), some (.int 4), some (.int 1), some (.int 0)]) dX8_takesKey_53 rfl (by decide) rfl rfl ?_
    refine aw_iload (npc := 57) rfl dX8_takesKey_55 rfl ?_
    refine aw_iload_n (npc := 58) rfl dX8_takesKey_57 rfl ?_
    refine aw_icmp_ge (npc := 61) (tgt := 106) dX8_takesKey_58 rfl (by decide) (fun hc => absurd hc (by decide)) (fun _ => ?_)
    refine aw_iload_n (npc := 62) rfl dX8_takesKey_61 rfl ?_
    refine aw_if_eq (npc := 65) (tgt := 106) dX8_takesKey_62 rfl (by decide) (fun hc => absurd hc (by decide)) (fun _ => ?_)
    refine aw_aload_n (npc := 66) rfl dX8_takesKey_65 rfl ?_
    refine aw_get (npc := 69) dX8_takesKey_66 rfl kf_X8_29 F.1 rfl ?_
    refine aw_aload_n (npc := 70) rfl dX8_takesKey_69 rfl ?_
    refine aw_get (npc := 73) dX8_takesKey_70 rfl kf_X8_198 F.1 rfl ?_
    refine aw_top (y := nI f) (h11) ?_
    refine aw_iload (npc := 75) rfl dX8_takesKey_73 rfl ?_
    refine aw_iaddV (npc := 76) (v := nI (f + 0)) dX8_takesKey_75 rfl (nI_add _ 0) ?_
    refine aw_iald (npc := 77) (x := (a 75) (f + 0)) (j := (f + 0)) dX8_takesKey_76 rfl F.2.2.2.2.2.2.1 (am_ix_nI (by omega)) (tl_at (by omega)) ?_
    refine aw_aload_n (npc := 78) rfl dX8_takesKey_77 rfl ?_
    refine aw_get (npc := 81) dX8_takesKey_78 rfl kf_X8_32 F.1 rfl ?_
    refine aw_aload_n (npc := 82) rfl dX8_takesKey_81 rfl ?_
    refine aw_get (npc := 85) dX8_takesKey_82 rfl kf_X8_36 F.1 rfl ?_
    refine aw_iload_n (npc := 86) rfl dX8_takesKey_85 rfl ?_
    refine aw_iald (npc := 87) (x := 7) (j := 2) dX8_takesKey_86 rfl F.2.2.2.2.2.2.2.2.1 ⟨by decide, by decide⟩ rfl ?_
    refine aw_iload (npc := 89) rfl dX8_takesKey_87 rfl ?_
    refine aw_iaddV (npc := 90) (v := 7) dX8_takesKey_89 rfl (by decide) ?_
    refine aw_cald (npc := 91) (x := 102) (j := 7) dX8_takesKey_90 rfl F.2.2.2.2.2.2.2.1 ⟨by decide, by decide⟩ rfl ?_
    refine aw_icmp_ne (npc := 94) (tgt := 98) dX8_takesKey_91 rfl (by decide) (fun hc2 => ?_) (fun hc2 => ?_)
    · refine aw_iconst (npc := 99) (v := 0) (by decide) dX8_takesKey_98 rfl ?_
      refine aw_istore_n (npc := 100) (L' := [some (.ref 69), some (.int 2), some (.int 4), some (.int 0), some (.int 0)]) dX8_takesKey_99 rfl (by decide) rfl rfl ?_
      refine aw_iinc (npc := 103) (v := 1) (L' := [some (.ref 69), some (.int 2), some (.int 4), some (.int 0), some (.int 1)]) dX8_takesKey_100 rfl rfl (by decide) (by decide) rfl rfl ?_
      refine aw_goto (npc := 55) dX8_takesKey_103 (by decide) ?_
      refine aw_iload (npc := 57) rfl dX8_takesKey_55 rfl ?_
      refine aw_iload_n (npc := 58) rfl dX8_takesKey_57 rfl ?_
      refine aw_icmp_ge (npc := 61) (tgt := 106) dX8_takesKey_58 rfl (by decide) (fun hc => absurd hc (by decide)) (fun _ => ?_)
      refine aw_iload_n (npc := 62) rfl dX8_takesKey_61 rfl ?_
      refine aw_if_eq (npc := 65) (tgt := 106) dX8_takesKey_62 rfl (by decide) (fun _ => ?_) (fun hc => absurd (by decide) hc)
      refine aw_iload_n (npc := 107) rfl dX8_takesKey_106 rfl ?_
      refine aw_if_eq (npc := 110) (tgt := 121) dX8_takesKey_107 rfl (by decide) (fun _ => ?_) (fun hc => absurd (by decide) hc)
      exact kf (fun z => hc2 z.2.1) _ _ _
    · refine aw_iconst (npc := 95) (v := 1) (by decide) dX8_takesKey_94 rfl ?_
      refine aw_goto (npc := 99) dX8_takesKey_95 (by decide) ?_
      refine aw_istore_n (npc := 100) (L' := [some (.ref 69), some (.int 2), some (.int 4), some (.int 1), some (.int 0)]) dX8_takesKey_99 rfl (by decide) rfl rfl ?_
      refine aw_iinc (npc := 103) (v := 1) (L' := [some (.ref 69), some (.int 2), some (.int 4), some (.int 1), some (.int 1)]) dX8_takesKey_100 rfl rfl (by decide) (by decide) rfl rfl ?_
      refine aw_goto (npc := 55) dX8_takesKey_103 (by decide) ?_
      refine aw_iload (npc := 57) rfl dX8_takesKey_55 rfl ?_
      refine aw_iload_n (npc := 58) rfl dX8_takesKey_57 rfl ?_
      refine aw_icmp_ge (npc := 61) (tgt := 106) dX8_takesKey_58 rfl (by decide) (fun hc => absurd hc (by decide)) (fun _ => ?_)
      refine aw_iload_n (npc := 62) rfl dX8_takesKey_61 rfl ?_
      refine aw_if_eq (npc := 65) (tgt := 106) dX8_takesKey_62 rfl (by decide) (fun hc => absurd hc (by decide)) (fun _ => ?_)
      refine aw_aload_n (npc := 66) rfl dX8_takesKey_65 rfl ?_
      refine aw_get (npc := 69) dX8_takesKey_66 rfl kf_X8_29 F.1 rfl ?_
      refine aw_aload_n (npc := 70) rfl dX8_takesKey_69 rfl ?_
      refine aw_get (npc := 73) dX8_takesKey_70 rfl kf_X8_198 F.1 rfl ?_
      refine aw_top (y := nI f) (h11) ?_
      refine aw_iload (npc := 75) rfl dX8_takesKey_73 rfl ?_
      refine aw_iaddV (npc := 76) (v := nI (f + 1)) dX8_takesKey_75 rfl (nI_add _ 1) ?_
      refine aw_iald (npc := 77) (x := (a 75) (f + 1)) (j := (f + 1)) dX8_takesKey_76 rfl F.2.2.2.2.2.2.1 (am_ix_nI (by omega)) (tl_at (by omega)) ?_
      refine aw_aload_n (npc := 78) rfl dX8_takesKey_77 rfl ?_
      refine aw_get (npc := 81) dX8_takesKey_78 rfl kf_X8_32 F.1 rfl ?_
      refine aw_aload_n (npc := 82) rfl dX8_takesKey_81 rfl ?_
      refine aw_get (npc := 85) dX8_takesKey_82 rfl kf_X8_36 F.1 rfl ?_
      refine aw_iload_n (npc := 86) rfl dX8_takesKey_85 rfl ?_
      refine aw_iald (npc := 87) (x := 7) (j := 2) dX8_takesKey_86 rfl F.2.2.2.2.2.2.2.2.1 ⟨by decide, by decide⟩ rfl ?_
      refine aw_iload (npc := 89) rfl dX8_takesKey_87 rfl ?_
      refine aw_iaddV (npc := 90) (v := 8) dX8_takesKey_89 rfl (by decide) ?_
      refine aw_cald (npc := 91) (x := 105) (j := 8) dX8_takesKey_90 rfl F.2.2.2.2.2.2.2.1 ⟨by decide, by decide⟩ rfl ?_
      refine aw_icmp_ne (npc := 94) (tgt := 98) dX8_takesKey_91 rfl (by decide) (fun hc3 => ?_) (fun hc3 => ?_)
      · refine aw_iconst (npc := 99) (v := 0) (by decide) dX8_takesKey_98 rfl ?_
        refine aw_istore_n (npc := 100) (L' := [some (.ref 69), some (.int 2), some (.int 4), some (.int 0), some (.int 1)]) dX8_takesKey_99 rfl (by decide) rfl rfl ?_
        refine aw_iinc (npc := 103) (v := 2) (L' := [some (.ref 69), some (.int 2), some (.int 4), some (.int 0), some (.int 2)]) dX8_takesKey_100 rfl rfl (by decide) (by decide) rfl rfl ?_
        refine aw_goto (npc := 55) dX8_takesKey_103 (by decide) ?_
        refine aw_iload (npc := 57) rfl dX8_takesKey_55 rfl ?_
        refine aw_iload_n (npc := 58) rfl dX8_takesKey_57 rfl ?_
        refine aw_icmp_ge (npc := 61) (tgt := 106) dX8_takesKey_58 rfl (by decide) (fun hc => absurd hc (by decide)) (fun _ => ?_)
        refine aw_iload_n (npc := 62) rfl dX8_takesKey_61 rfl ?_
        refine aw_if_eq (npc := 65) (tgt := 106) dX8_takesKey_62 rfl (by decide) (fun _ => ?_) (fun hc => absurd (by decide) hc)
        refine aw_iload_n (npc := 107) rfl dX8_takesKey_106 rfl ?_
        refine aw_if_eq (npc := 110) (tgt := 121) dX8_takesKey_107 rfl (by decide) (fun _ => ?_) (fun hc => absurd (by decide) hc)
        exact kf (fun z => hc3 z.2.2.1) _ _ _
      · refine aw_iconst (npc := 95) (v := 1) (by decide) dX8_takesKey_94 rfl ?_
        refine aw_goto (npc := 99) dX8_takesKey_95 (by decide) ?_
        refine aw_istore_n (npc := 100) (L' := [some (.ref 69), some (.int 2), some (.int 4), some (.int 1), some (.int 1)]) dX8_takesKey_99 rfl (by decide) rfl rfl ?_
        refine aw_iinc (npc := 103) (v := 2) (L' := [some (.ref 69), some (.int 2), some (.int 4), some (.int 1), some (.int 2)]) dX8_takesKey_100 rfl rfl (by decide) (by decide) rfl rfl ?_
        refine aw_goto (npc := 55) dX8_takesKey_103 (by decide) ?_
        refine aw_iload (npc := 57) rfl dX8_takesKey_55 rfl ?_
        refine aw_iload_n (npc := 58) rfl dX8_takesKey_57 rfl ?_
        refine aw_icmp_ge (npc := 61) (tgt := 106) dX8_takesKey_58 rfl (by decide) (fun hc => absurd hc (by decide)) (fun _ => ?_)
        refine aw_iload_n (npc := 62) rfl dX8_takesKey_61 rfl ?_
        refine aw_if_eq (npc := 65) (tgt := 106) dX8_takesKey_62 rfl (by decide) (fun hc => absurd hc (by decide)) (fun _ => ?_)
        refine aw_aload_n (npc := 66) rfl dX8_takesKey_65 rfl ?_
        refine aw_get (npc := 69) dX8_takesKey_66 rfl kf_X8_29 F.1 rfl ?_
        refine aw_aload_n (npc := 70) rfl dX8_takesKey_69 rfl ?_
        refine aw_get (npc := 73) dX8_takesKey_70 rfl kf_X8_198 F.1 rfl ?_
        refine aw_top (y := nI f) (h11) ?_
        refine aw_iload (npc := 75) rfl dX8_takesKey_73 rfl ?_
        refine aw_iaddV (npc := 76) (v := nI (f + 2)) dX8_takesKey_75 rfl (nI_add _ 2) ?_
        refine aw_iald (npc := 77) (x := (a 75) (f + 2)) (j := (f + 2)) dX8_takesKey_76 rfl F.2.2.2.2.2.2.1 (am_ix_nI (by omega)) (tl_at (by omega)) ?_
        refine aw_aload_n (npc := 78) rfl dX8_takesKey_77 rfl ?_
        refine aw_get (npc := 81) dX8_takesKey_78 rfl kf_X8_32 F.1 rfl ?_
        refine aw_aload_n (npc := 82) rfl dX8_takesKey_81 rfl ?_
        refine aw_get (npc := 85) dX8_takesKey_82 rfl kf_X8_36 F.1 rfl ?_
        refine aw_iload_n (npc := 86) rfl dX8_takesKey_85 rfl ?_
        refine aw_iald (npc := 87) (x := 7) (j := 2) dX8_takesKey_86 rfl F.2.2.2.2.2.2.2.2.1 ⟨by decide, by decide⟩ rfl ?_
        refine aw_iload (npc := 89) rfl dX8_takesKey_87 rfl ?_
        refine aw_iaddV (npc := 90) (v := 9) dX8_takesKey_89 rfl (by decide) ?_
        refine aw_cald (npc := 91) (x := 110) (j := 9) dX8_takesKey_90 rfl F.2.2.2.2.2.2.2.1 ⟨by decide, by decide⟩ rfl ?_
        refine aw_icmp_ne (npc := 94) (tgt := 98) dX8_takesKey_91 rfl (by decide) (fun hc4 => ?_) (fun hc4 => ?_)
        · refine aw_iconst (npc := 99) (v := 0) (by decide) dX8_takesKey_98 rfl ?_
          refine aw_istore_n (npc := 100) (L' := [some (.ref 69), some (.int 2), some (.int 4), some (.int 0), some (.int 2)]) dX8_takesKey_99 rfl (by decide) rfl rfl ?_
          refine aw_iinc (npc := 103) (v := 3) (L' := [some (.ref 69), some (.int 2), some (.int 4), some (.int 0), some (.int 3)]) dX8_takesKey_100 rfl rfl (by decide) (by decide) rfl rfl ?_
          refine aw_goto (npc := 55) dX8_takesKey_103 (by decide) ?_
          refine aw_iload (npc := 57) rfl dX8_takesKey_55 rfl ?_
          refine aw_iload_n (npc := 58) rfl dX8_takesKey_57 rfl ?_
          refine aw_icmp_ge (npc := 61) (tgt := 106) dX8_takesKey_58 rfl (by decide) (fun hc => absurd hc (by decide)) (fun _ => ?_)
          refine aw_iload_n (npc := 62) rfl dX8_takesKey_61 rfl ?_
          refine aw_if_eq (npc := 65) (tgt := 106) dX8_takesKey_62 rfl (by decide) (fun _ => ?_) (fun hc => absurd (by decide) hc)
          refine aw_iload_n (npc := 107) rfl dX8_takesKey_106 rfl ?_
          refine aw_if_eq (npc := 110) (tgt := 121) dX8_takesKey_107 rfl (by decide) (fun _ => ?_) (fun hc => absurd (by decide) hc)
          exact kf (fun z => hc4 z.2.2.2.1) _ _ _
        · refine aw_iconst (npc := 95) (v := 1) (by decide) dX8_takesKey_94 rfl ?_
          refine aw_goto (npc := 99) dX8_takesKey_95 (by decide) ?_
          refine aw_istore_n (npc := 100) (L' := [some (.ref 69), some (.int 2), some (.int 4), some (.int 1), some (.int 2)]) dX8_takesKey_99 rfl (by decide) rfl rfl ?_
          refine aw_iinc (npc := 103) (v := 3) (L' := [some (.ref 69), some (.int 2), some (.int 4), some (.int 1), some (.int 3)]) dX8_takesKey_100 rfl rfl (by decide) (by decide) rfl rfl ?_
          refine aw_goto (npc := 55) dX8_takesKey_103 (by decide) ?_
          refine aw_iload (npc := 57) rfl dX8_takesKey_55 rfl ?_
          refine aw_iload_n (npc := 58) rfl dX8_takesKey_57 rfl ?_
          refine aw_icmp_ge (npc := 61) (tgt := 106) dX8_takesKey_58 rfl (by decide) (fun hc => absurd hc (by decide)) (fun _ => ?_)
          refine aw_iload_n (npc := 62) rfl dX8_takesKey_61 rfl ?_
          refine aw_if_eq (npc := 65) (tgt := 106) dX8_takesKey_62 rfl (by decide) (fun hc => absurd hc (by decide)) (fun _ => ?_)
          refine aw_aload_n (npc := 66) rfl dX8_takesKey_65 rfl ?_
          refine aw_get (npc := 69) dX8_takesKey_66 rfl kf_X8_29 F.1 rfl ?_
          refine aw_aload_n (npc := 70) rfl dX8_takesKey_69 rfl ?_
          refine aw_get (npc := 73) dX8_takesKey_70 rfl kf_X8_198 F.1 rfl ?_
          refine aw_top (y := nI f) (h11) ?_
          refine aw_iload (npc := 75) rfl dX8_takesKey_73 rfl ?_
          refine aw_iaddV (npc := 76) (v := nI (f + 3)) dX8_takesKey_75 rfl (nI_add _ 3) ?_
          refine aw_iald (npc := 77) (x := (a 75) (f + 3)) (j := (f + 3)) dX8_takesKey_76 rfl F.2.2.2.2.2.2.1 (am_ix_nI (by omega)) (tl_at (by omega)) ?_
          refine aw_aload_n (npc := 78) rfl dX8_takesKey_77 rfl ?_
          refine aw_get (npc := 81) dX8_takesKey_78 rfl kf_X8_32 F.1 rfl ?_
          refine aw_aload_n (npc := 82) rfl dX8_takesKey_81 rfl ?_
          refine aw_get (npc := 85) dX8_takesKey_82 rfl kf_X8_36 F.1 rfl ?_
          refine aw_iload_n (npc := 86) rfl dX8_takesKey_85 rfl ?_
          refine aw_iald (npc := 87) (x := 7) (j := 2) dX8_takesKey_86 rfl F.2.2.2.2.2.2.2.2.1 ⟨by decide, by decide⟩ rfl ?_
          refine aw_iload (npc := 89) rfl dX8_takesKey_87 rfl ?_
          refine aw_iaddV (npc := 90) (v := 10) dX8_takesKey_89 rfl (by decide) ?_
          refine aw_cald (npc := 91) (x := 101) (j := 10) dX8_takesKey_90 rfl F.2.2.2.2.2.2.2.1 ⟨by decide, by decide⟩ rfl ?_
          refine aw_icmp_ne (npc := 94) (tgt := 98) dX8_takesKey_91 rfl (by decide) (fun hc5 => ?_) (fun hc5 => ?_)
          · refine aw_iconst (npc := 99) (v := 0) (by decide) dX8_takesKey_98 rfl ?_
            refine aw_istore_n (npc := 100) (L' := [some (.ref 69), some (.int 2), some (.int 4), some (.int 0), some (.int 3)]) dX8_takesKey_99 rfl (by decide) rfl rfl ?_
            refine aw_iinc (npc := 103) (v := 4) (L' := [some (.ref 69), some (.int 2), some (.int 4), some (.int 0), some (.int 4)]) dX8_takesKey_100 rfl rfl (by decide) (by decide) rfl rfl ?_
            refine aw_goto (npc := 55) dX8_takesKey_103 (by decide) ?_
            refine aw_iload (npc := 57) rfl dX8_takesKey_55 rfl ?_
            refine aw_iload_n (npc := 58) rfl dX8_takesKey_57 rfl ?_
            refine aw_icmp_ge (npc := 61) (tgt := 106) dX8_takesKey_58 rfl (by decide) (fun _ => ?_) (fun hc => absurd (by decide) hc)
            refine aw_iload_n (npc := 107) rfl dX8_takesKey_106 rfl ?_
            refine aw_if_eq (npc := 110) (tgt := 121) dX8_takesKey_107 rfl (by decide) (fun _ => ?_) (fun hc => absurd (by decide) hc)
            exact kf (fun z => hc5 z.2.2.2.2) _ _ _
          · refine aw_iconst (npc := 95) (v := 1) (by decide) dX8_takesKey_94 rfl ?_
            refine aw_goto (npc := 99) dX8_takesKey_95 (by decide) ?_
            refine aw_istore_n (npc := 100) (L' := [some (.ref 69), some (.int 2), some (.int 4), some (.int 1), some (.int 3)]) dX8_takesKey_99 rfl (by decide) rfl rfl ?_
            refine aw_iinc (npc := 103) (v := 4) (L' := [some (.ref 69), some (.int 2), some (.int 4), some (.int 1), some (.int 4)]) dX8_takesKey_100 rfl rfl (by decide) (by decide) rfl rfl ?_
            refine aw_goto (npc := 55) dX8_takesKey_103 (by decide) ?_
            refine aw_iload (npc := 57) rfl dX8_takesKey_55 rfl ?_
            refine aw_iload_n (npc := 58) rfl dX8_takesKey_57 rfl ?_
            refine aw_icmp_ge (npc := 61) (tgt := 106) dX8_takesKey_58 rfl (by decide) (fun _ => ?_) (fun hc => absurd (by decide) hc)
            refine aw_iload_n (npc := 107) rfl dX8_takesKey_106 rfl ?_
            refine aw_if_eq (npc := 110) (tgt := 121) dX8_takesKey_107 rfl (by decide) (fun hc => absurd hc (by decide)) (fun _ => ?_)
            exact kt ⟨by omega, hc2, hc3, hc4, hc5⟩ _ _ _
