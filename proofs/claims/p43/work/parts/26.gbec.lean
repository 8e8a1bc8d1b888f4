theorem list14 {l : List Value} (h : l.length = 14) : ∃ v0 v1 v2 v3 v4 v5 v6 v7 v8 v9 v10 v11 v12 v13 : Value, l = [v0, v1, v2, v3, v4, v5, v6, v7, v8, v9, v10, v11, v12, v13] := by
  match l, h with
  | [v0, v1, v2, v3, v4, v5, v6, v7, v8, v9, v10, v11, v12, v13], _ => exact ⟨v0, v1, v2, v3, v4, v5, v6, v7, v8, v9, v10, v11, v12, v13, rfl⟩
theorem am_cpy_all {k : Nat} {f g : Nat → Int32} : am_cpy (tl k f) (tl k g) 0 0 k = tl k f := by
  unfold am_cpy
  rw [tl_len]
  refine List.map_congr_left (fun j hj => ?_)
  have hj := List.mem_range.mp hj
  rw [if_pos (by omega), Nat.zero_add, Nat.sub_zero, List.getD_eq_getElem?_getD, tl_at hj]
  rfl
theorem aw_aastO {X : List Int32} {M : am_MD} {d rc rs pc npc n : Nat} {L : am_L} {S : List Value} {h h' : am_H} {Q : am_Q} {a j : Nat} {i : Int32} {v : Value} {vs : List Value} (hd : decode M.2.1 pc = .ok (.aastore, 1)) (hn : pc + 1 = npc) (ha : h a = some (.inr (15, vs))) (hv : v = .null ∨ ∃ b fs, v = .ref b ∧ h b = some (.inr (5, fs))) (hi : am_ix i j) (hj : j < vs.length) (hh : am_up h a (.inr (15, vs.set j v)) = h') (k : AW X M d rc rs npc L S n h' Q) : AW X M d rc rs pc L (v :: .int i :: .ref a :: S) n h Q := by
  rcases hv with rfl | ⟨b, fs, rfl, hb⟩
  · exact aw_aastN hd hn (by decide) ha hi hj hh k
  · exact aw_aast hd hn ha hb (Or.inr (Or.inr ⟨rfl, rfl⟩)) hi hj hh k
set_option maxHeartbeats 4000000 in
set_option maxRecDepth 100000 in
theorem g_bec {X : List Int32} {d rc rs n : Nat} {Q : am_Q} {b : Nat} {N : Nat → Int32} {tx : List Value} {lk mv : Nat → Int32} {h : am_H} {M : Nat → Int32} {ty : List Value} {lj mw : Nat → Int32} {e : Nat} {tb : TB} (F : QR b N tx lk mv h) (E : QR e M ty lj mw h) (G : TT tb h) (hbe : b + 12 ≤ e ∨ e + 12 ≤ b) (hb : b + 12 ≤ 92) (hl : tx.length = 14) (hl2 : ty.length = 14) (hok : ∀ (t : Nat) (v : Value), ty[t]? = some v → v = .null ∨ ∃ a, a < tb.1 ∧ v = .ref (92 + 3 * a)) (hq : ∀ h9, QR b M ty lj mv h9 → am_fb b (b + 12) h9 h → Q none n h9) : AW X mX0_becomes (d + 4) rc rs 0 [some (.ref b), some (.ref e), none] [] n h Q := by
  obtain ⟨u0, u1, u2, u3, u4, u5, u6, u7, u8, u9, u10, u11, u12, u13, rfl⟩ := list14 hl
  obtain ⟨v0, v1, v2, v3, v4, v5, v6, v7, v8, v9, v10, v11, v12, v13, rfl⟩ := list14 hl2
  refine aw_aload_n (npc := 1) rfl dX0_becomes_0 rfl ?_
  refine aw_get (npc := 4) dX0_becomes_1 rfl kf_X0_9 E.1 rfl ?_
  refine aw_iconst (npc := 5) (v := 0) (by decide) dX0_becomes_4 rfl ?_
  refine aw_aload_n (npc := 6) rfl dX0_becomes_5 rfl ?_
  refine aw_get (npc := 9) dX0_becomes_6 rfl kf_X0_9 F.1 rfl ?_
  refine aw_iconst (npc := 10) (v := 0) (by decide) dX0_becomes_9 rfl ?_
  refine aw_iconst (npc := 11) (v := 4) (by decide) dX0_becomes_10 rfl ?_
  refine aw_copyi (npc := 14) (sp := 0) (dp := 0) (mm := 4) dX0_becomes_11 rfl kac_X0_73 kac_x E.2.1 F.2.1 ⟨by decide, by decide⟩ ⟨by decide, by decide⟩ ⟨by decide, by decide⟩ (by rw [tl_len]; omega) (by rw [tl_len]; omega) (Nat.le_of_ble_eq_true rfl) (congrArg (fun l : List Int32 => am_up _ _ (.inl (0, l))) am_cpy_all) ?_
  refine aw_aload_n (npc := 15) rfl dX0_becomes_14 rfl ?_
  refine aw_get (npc := 18) dX0_becomes_15 rfl kf_X0_15 (am_ne (by omega) E.1) rfl ?_
  refine aw_iconst (npc := 19) (v := 0) (by decide) dX0_becomes_18 rfl ?_
  refine aw_aload_n (npc := 20) rfl dX0_becomes_19 rfl ?_
  refine aw_get (npc := 23) dX0_becomes_20 rfl kf_X0_15 (am_ne (by omega) F.1) rfl ?_
  refine aw_iconst (npc := 24) (v := 0) (by decide) dX0_becomes_23 rfl ?_
  refine aw_bipush (npc := 26) (v := 8) (by decide) dX0_becomes_24 rfl ?_
  refine aw_copyi (npc := 29) (sp := 0) (dp := 0) (mm := 8) dX0_becomes_26 rfl kac_X0_73 kac_x (am_ne (by omega) E.2.2.1) (am_ne (by omega) F.2.2.1) ⟨by decide, by decide⟩ ⟨by decide, by decide⟩ ⟨by decide, by decide⟩ (by rw [tl_len]; omega) (by rw [tl_len]; omega) (Nat.le_of_ble_eq_true rfl) (congrArg (fun l : List Int32 => am_up _ _ (.inl (0, l))) am_cpy_all) ?_
  refine aw_aload_n (npc := 30) rfl dX0_becomes_29 rfl ?_
  refine aw_get (npc := 33) dX0_becomes_30 rfl kf_X0_18 (am_ne (by omega) (am_ne (by omega) E.1)) rfl ?_
  refine aw_iconst (npc := 34) (v := 0) (by decide) dX0_becomes_33 rfl ?_
  refine aw_aload_n (npc := 35) rfl dX0_becomes_34 rfl ?_
  refine aw_get (npc := 38) dX0_becomes_35 rfl kf_X0_18 (am_ne (by omega) (am_ne (by omega) F.1)) rfl ?_
  refine aw_iconst (npc := 39) (v := 0) (by decide) dX0_becomes_38 rfl ?_
  refine aw_iconst (npc := 40) (v := 2) (by decide) dX0_becomes_39 rfl ?_
  refine aw_copyi (npc := 43) (sp := 0) (dp := 0) (mm := 2) dX0_becomes_40 rfl kac_X0_73 kac_x (am_ne (by omega) (am_ne (by omega) E.2.2.2.1)) (am_ne (by omega) (am_ne (by omega) F.2.2.2.1)) ⟨by decide, by decide⟩ ⟨by decide, by decide⟩ ⟨by decide, by decide⟩ (by rw [tl_len]; omega) (by rw [tl_len]; omega) (Nat.le_of_ble_eq_true rfl) (congrArg (fun l : List Int32 => am_up _ _ (.inl (0, l))) am_cpy_all) ?_
  refine aw_aload_n (npc := 44) rfl dX0_becomes_43 rfl ?_
  refine aw_aload_n (npc := 45) rfl dX0_becomes_44 rfl ?_
  refine aw_get (npc := 48) dX0_becomes_45 rfl kf_X0_21 (am_ne (by omega) (am_ne (by omega) (am_ne (by omega) E.1))) rfl ?_
  refine aw_put (npc := 51) dX0_becomes_48 rfl kf_X0_21 (am_ne (by omega) (am_ne (by omega) (am_ne (by omega) F.1))) (Nat.le_of_ble_eq_true rfl) (am_ok_int _) rfl ?_
  refine aw_aload_n (npc := 52) rfl dX0_becomes_51 rfl ?_
  refine aw_aload_n (npc := 53) rfl dX0_becomes_52 rfl ?_
  refine aw_get (npc := 56) dX0_becomes_53 rfl kf_X0_25 (am_ne (by omega) (am_ne (by omega) (am_ne (by omega) (am_ne (by omega) E.1)))) rfl ?_
  refine aw_put (npc := 59) dX0_becomes_56 rfl kf_X0_25 am_eq (Nat.le_of_ble_eq_true rfl) (am_ok_int _) am_uu ?_
  refine aw_aload_n (npc := 60) rfl dX0_becomes_59 rfl ?_
  refine aw_aload_n (npc := 61) rfl dX0_becomes_60 rfl ?_
  refine aw_get (npc := 64) dX0_becomes_61 rfl kf_X0_28 (am_ne (by omega) (am_ne (by omega) (am_ne (by omega) (am_ne (by omega) E.1)))) rfl ?_
  refine aw_put (npc := 67) dX0_becomes_64 rfl kf_X0_28 am_eq (Nat.le_of_ble_eq_true rfl) (am_ok_int _) am_uu ?_
  refine aw_aload_n (npc := 68) rfl dX0_becomes_67 rfl ?_
  refine aw_aload_n (npc := 69) rfl dX0_becomes_68 rfl ?_
  refine aw_get (npc := 72) dX0_becomes_69 rfl kf_X0_31 (am_ne (by omega) (am_ne (by omega) (am_ne (by omega) (am_ne (by omega) E.1)))) rfl ?_
  refine aw_put (npc := 75) dX0_becomes_72 rfl kf_X0_31 am_eq (Nat.le_of_ble_eq_true rfl) (am_ok_int _) am_uu ?_
  refine aw_aload_n (npc := 76) rfl dX0_becomes_75 rfl ?_
  refine aw_aload_n (npc := 77) rfl dX0_becomes_76 rfl ?_
  refine aw_get (npc := 80) dX0_becomes_77 rfl kf_X0_34 (am_ne (by omega) (am_ne (by omega) (am_ne (by omega) (am_ne (by omega) E.1)))) rfl ?_
  refine aw_put (npc := 83) dX0_becomes_80 rfl kf_X0_34 am_eq (Nat.le_of_ble_eq_true rfl) (am_ok_int _) am_uu ?_
  refine aw_aload_n (npc := 84) rfl dX0_becomes_83 rfl ?_
  refine aw_aload_n (npc := 85) rfl dX0_becomes_84 rfl ?_
  refine aw_get (npc := 88) dX0_becomes_85 rfl kf_X0_37 (am_ne (by omega) (am_ne (by omega) (am_ne (by omega) (am_ne (by omega) E.1)))) rfl ?_
  refine aw_put (npc := 91) dX0_becomes_88 rfl kf_X0_37 am_eq (Nat.le_of_ble_eq_true rfl) (am_ok_int _) am_uu ?_
  refine aw_aload_n (npc := 92) rfl dX0_becomes_91 rfl ?_
  refine aw_aload_n (npc := 93) rfl dX0_becomes_92 rfl ?_
  refine aw_get (npc := 96) dX0_becomes_93 rfl kf_X0_40 (am_ne (by omega) (am_ne (by omega) (am_ne (by omega) (am_ne (by omega) E.1)))) rfl ?_
  refine aw_put (npc := 99) dX0_becomes_96 rfl kf_X0_40 am_eq (Nat.le_of_ble_eq_true rfl) (am_ok_int _) am_uu ?_
  refine aw_aload_n (npc := 100) rfl dX0_becomes_99 rfl ?_
  refine aw_get (npc := 103) dX0_becomes_100 rfl kf_X0_43 (am_ne (by omega) (am_ne (by omega) (am_ne (by omega) (am_ne (by omega) E.1)))) rfl ?_
  refine aw_iconst (npc := 104) (v := 0) (by decide) dX0_becomes_103 rfl ?_
  refine aw_aload_n (npc := 105) rfl dX0_becomes_104 rfl ?_
  refine aw_get (npc := 108) dX0_becomes_105 rfl kf_X0_43 am_eq rfl ?_
  refine aw_iconst (npc := 109) (v := 0) (by decide) dX0_becomes_108 rfl ?_
  refine aw_bipush (npc := 111) (v := 8) (by decide) dX0_becomes_109 rfl ?_
  refine aw_copyi (npc := 114) (sp := 0) (dp := 0) (mm := 8) dX0_becomes_111 rfl kac_X0_73 kac_x (am_ne (by omega) (am_ne (by omega) (am_ne (by omega) (am_ne (by omega) E.2.2.2.2.1)))) (am_ne (by omega) (am_ne (by omega) (am_ne (by omega) (am_ne (by omega) F.2.2.2.2.1)))) ⟨by decide, by decide⟩ ⟨by decide, by decide⟩ ⟨by decide, by decide⟩ (by rw [tl_len]; omega) (by rw [tl_len]; omega) (Nat.le_of_ble_eq_true rfl) (congrArg (fun l : List Int32 => am_up _ _ (.inl (0, l))) am_cpy_all) ?_
  refine aw_aload_n (npc := 115) rfl dX0_becomes_114 rfl ?_
  refine aw_get (npc := 118) dX0_becomes_115 rfl kf_X0_46 (am_ne (by omega) (am_ne (by omega) (am_ne (by omega) (am_ne (by omega) (am_ne (by omega) E.1))))) rfl ?_
  refine aw_iconst (npc := 119) (v := 0) (by decide) dX0_becomes_118 rfl ?_
  refine aw_aload_n (npc := 120) rfl dX0_becomes_119 rfl ?_
  refine aw_get (npc := 123) dX0_becomes_120 rfl kf_X0_46 (am_ne (by omega) am_eq) rfl ?_
  refine aw_iconst (npc := 124) (v := 0) (by decide) dX0_becomes_123 rfl ?_
  refine aw_bipush (npc := 126) (v := 8) (by decide) dX0_becomes_124 rfl ?_
  refine aw_copyi (npc := 129) (sp := 0) (dp := 0) (mm := 8) dX0_becomes_126 rfl kac_X0_73 kac_x (am_ne (by omega) (am_ne (by omega) (am_ne (by omega) (am_ne (by omega) (am_ne (by omega) E.2.2.2.2.2.1))))) (am_ne (by omega) (am_ne (by omega) (am_ne (by omega) (am_ne (by omega) (am_ne (by omega) F.2.2.2.2.2.1))))) ⟨by decide, by decide⟩ ⟨by decide, by decide⟩ ⟨by decide, by decide⟩ (by rw [tl_len]; omega) (by rw [tl_len]; omega) (Nat.le_of_ble_eq_true rfl) (congrArg (fun l : List Int32 => am_up _ _ (.inl (0, l))) am_cpy_all) ?_
  refine aw_aload_n (npc := 130) rfl dX0_becomes_129 rfl ?_
  refine aw_get (npc := 133) dX0_becomes_130 rfl kf_X0_49 (am_ne (by omega) (am_ne (by omega) (am_ne (by omega) (am_ne (by omega) (am_ne (by omega) (am_ne (by omega) E.1)))))) rfl ?_
  refine aw_iconst (npc := 134) (v := 0) (by decide) dX0_becomes_133 rfl ?_
  refine aw_aload_n (npc := 135) rfl dX0_becomes_134 rfl ?_
  refine aw_get (npc := 138) dX0_becomes_135 rfl kf_X0_49 (am_ne (by omega) (am_ne (by omega) am_eq)) rfl ?_
  refine aw_iconst (npc := 139) (v := 0) (by decide) dX0_becomes_138 rfl ?_
  refine aw_bipush (npc := 141) (v := 8) (by decide) dX0_becomes_139 rfl ?_
  refine aw_copyi (npc := 144) (sp := 0) (dp := 0) (mm := 8) dX0_becomes_141 rfl kac_X0_73 kac_x (am_ne (by omega) (am_ne (by omega) (am_ne (by omega) (am_ne (by omega) (am_ne (by omega) (am_ne (by omega) E.2.2.2.2.2.2.1)))))) (am_ne (by omega) (am_ne (by omega) (am_ne (by omega) (am_ne (by omega) (am_ne (by omega) (am_ne (by omega) F.2.2.2.2.2.2.1)))))) ⟨by decide, by decide⟩ ⟨by decide, by decide⟩ ⟨by decide, by decide⟩ (by rw [tl_len]; omega) (by rw [tl_len]; omega) (Nat.le_of_ble_eq_true rfl) (congrArg (fun l : List Int32 => am_up _ _ (.inl (0, l))) am_cpy_all) ?_
  refine aw_aload_n (npc := 145) rfl dX0_becomes_144 rfl ?_
  refine aw_get (npc := 148) dX0_becomes_145 rfl kf_X0_52 (am_ne (by omega) (am_ne (by omega) (am_ne (by omega) (am_ne (by omega) (am_ne (by omega) (am_ne (by omega) (am_ne (by omega) E.1))))))) rfl ?_
  refine aw_iconst (npc := 149) (v := 0) (by decide) dX0_becomes_148 rfl ?_
  refine aw_aload_n (npc := 150) rfl dX0_becomes_149 rfl ?_
  refine aw_get (npc := 153) dX0_becomes_150 rfl kf_X0_52 (am_ne (by omega) (am_ne (by omega) (am_ne (by omega) am_eq))) rfl ?_
  refine aw_iconst (npc := 154) (v := 0) (by decide) dX0_becomes_153 rfl ?_
  refine aw_bipush (npc := 156) (v := 8) (by decide) dX0_becomes_154 rfl ?_
  refine aw_copyi (npc := 159) (sp := 0) (dp := 0) (mm := 8) dX0_becomes_156 rfl kac_X0_73 kac_x (am_ne (by omega) (am_ne (by omega) (am_ne (by omega) (am_ne (by omega) (am_ne (by omega) (am_ne (by omega) (am_ne (by omega) E.2.2.2.2.2.2.2.1))))))) (am_ne (by omega) (am_ne (by omega) (am_ne (by omega) (am_ne (by omega) (am_ne (by omega) (am_ne (by omega) (am_ne (by omega) F.2.2.2.2.2.2.2.1))))))) ⟨by decide, by decide⟩ ⟨by decide, by decide⟩ ⟨by decide, by decide⟩ (by rw [tl_len]; omega) (by rw [tl_len]; omega) (Nat.le_of_ble_eq_true rfl) (congrArg (fun l : List Int32 => am_up _ _ (.inl (0, l))) am_cpy_all) ?_
  refine aw_aload_n (npc := 160) rfl dX0_becomes_159 rfl ?_
  refine aw_get (npc := 163) dX0_becomes_160 rfl kf_X0_55 (am_ne (by omega) (am_ne (by omega) (am_ne (by omega) (am_ne (by omega) (am_ne (by omega) (am_ne (by omega) (am_ne (by omega) (am_ne (by omega) E.1)))))))) rfl ?_
  refine aw_iconst (npc := 164) (v := 0) (by decide) dX0_becomes_163 rfl ?_
  refine aw_aload_n (npc := 165) rfl dX0_becomes_164 rfl ?_
  refine aw_get (npc := 168) dX0_becomes_165 rfl kf_X0_55 (am_ne (by omega) (am_ne (by omega) (am_ne (by omega) (am_ne (by omega) am_eq)))) rfl ?_
  refine aw_iconst (npc := 169) (v := 0) (by decide) dX0_becomes_168 rfl ?_
  refine aw_bipush (npc := 171) (v := 8) (by decide) dX0_becomes_169 rfl ?_
  refine aw_copyi (npc := 174) (sp := 0) (dp := 0) (mm := 8) dX0_becomes_171 rfl kac_X0_73 kac_x (am_ne (by omega) (am_ne (by omega) (am_ne (by omega) (am_ne (by omega) (am_ne (by omega) (am_ne (by omega) (am_ne (by omega) (am_ne (by omega) E.2.2.2.2.2.2.2.2.1)))))))) (am_ne (by omega) (am_ne (by omega) (am_ne (by omega) (am_ne (by omega) (am_ne (by omega) (am_ne (by omega) (am_ne (by omega) (am_ne (by omega) F.2.2.2.2.2.2.2.2.1)))))))) ⟨by decide, by decide⟩ ⟨by decide, by decide⟩ ⟨by decide, by decide⟩ (by rw [tl_len]; omega) (by rw [tl_len]; omega) (Nat.le_of_ble_eq_true rfl) (congrArg (fun l : List Int32 => am_up _ _ (.inl (0, l))) am_cpy_all) ?_
  refine aw_iconst (npc := 175) (v := 0) (by decide) dX0_becomes_174 rfl ?_
  refine aw_istore_n (npc := 176) (L' := [some (.ref b), some (.ref e), some (.int 0)]) dX0_becomes_175 rfl (by decide) rfl rfl ?_
  refine aw_iload_n (npc := 177) rfl dX0_becomes_176 rfl ?_
  refine aw_bipush (npc := 179) (v := 14) (by decide) dX0_becomes_177 rfl ?_
  refine aw_icmp_ge (npc := 182) (tgt := 200) dX0_becomes_179 rfl (by decide) (fun hc => absurd hc (by decide)) (fun _ => ?_)
  refine aw_aload_n (npc := 183) rfl dX0_becomes_182 rfl ?_
  refine aw_get (npc := 186) dX0_becomes_183 rfl kf_X0_60 (am_ne (by omega) (am_ne (by omega) (am_ne (by omega) (am_ne (by omega) (am_ne (by omega) am_eq))))) rfl ?_
  refine aw_iload_n (npc := 187) rfl dX0_becomes_186 rfl ?_
  refine aw_aload_n (npc := 188) rfl dX0_becomes_187 rfl ?_
  refine aw_get (npc := 191) dX0_becomes_188 rfl kf_X0_60 (am_ne (by omega) (am_ne (by omega) (am_ne (by omega) (am_ne (by omega) (am_ne (by omega) (am_ne (by omega) (am_ne (by omega) (am_ne (by omega) (am_ne (by omega) E.1))))))))) rfl ?_
  refine aw_iload_n (npc := 192) rfl dX0_becomes_191 rfl ?_
  refine aw_aald (npc := 193) (j := 0) dX0_becomes_192 rfl (by decide) (am_ne (by omega) (am_ne (by omega) (am_ne (by omega) (am_ne (by omega) (am_ne (by omega) (am_ne (by omega) (am_ne (by omega) (am_ne (by omega) (am_ne (by omega) E.2.2.2.2.2.2.2.2.2.1))))))))) ⟨by decide, by decide⟩ rfl ?_
  refine aw_aastO (npc := 194) (j := 0) dX0_becomes_193 rfl (am_ne (by omega) (am_ne (by omega) (am_ne (by omega) (am_ne (by omega) (am_ne (by omega) (am_ne (by omega) (am_ne (by omega) (am_ne (by omega) (am_ne (by omega) F.2.2.2.2.2.2.2.2.2.1))))))))) ((hok 0 _ rfl).imp id (fun ⟨a9, ha9, e9⟩ => by obtain ⟨hb9, -⟩ := G a9 ha9; exact ⟨_, _, e9, (am_ne (by omega) (am_ne (by omega) (am_ne (by omega) (am_ne (by omega) (am_ne (by omega) (am_ne (by omega) (am_ne (by omega) (am_ne (by omega) (am_ne (by omega) hb9)))))))))⟩)) ⟨by decide, by decide⟩ (Nat.le_of_ble_eq_true rfl) rfl ?_
  refine aw_iinc (npc := 197) (v := 1) (L' := [some (.ref b), some (.ref e), some (.int 1)]) dX0_becomes_194 rfl rfl (by decide) (by decide) rfl rfl ?_
  refine aw_goto (npc := 176) dX0_becomes_197 (by decide) ?_
  refine aw_iload_n (npc := 177) rfl dX0_becomes_176 rfl ?_
  refine aw_bipush (npc := 179) (v := 14) (by decide) dX0_becomes_177 rfl ?_
  refine aw_icmp_ge (npc := 182) (tgt := 200) dX0_becomes_179 rfl (by decide) (fun hc => absurd hc (by decide)) (fun _ => ?_)
  refine aw_aload_n (npc := 183) rfl dX0_becomes_182 rfl ?_
  refine aw_get (npc := 186) dX0_becomes_183 rfl kf_X0_60 (am_ne (by omega) (am_ne (by omega) (am_ne (by omega) (am_ne (by omega) (am_ne (by omega) (am_ne (by omega) am_eq)))))) rfl ?_
  refine aw_iload_n (npc := 187) rfl dX0_becomes_186 rfl ?_
  refine aw_aload_n (npc := 188) rfl dX0_becomes_187 rfl ?_
  refine aw_get (npc := 191) dX0_becomes_188 rfl kf_X0_60 (am_ne (by omega) (am_ne (by omega) (am_ne (by omega) (am_ne (by omega) (am_ne (by omega) (am_ne (by omega) (am_ne (by omega) (am_ne (by omega) (am_ne (by omega) (am_ne (by omega) E.1)))))))))) rfl ?_
  refine aw_iload_n (npc := 192) rfl dX0_becomes_191 rfl ?_
  refine aw_aald (npc := 193) (j := 1) dX0_becomes_192 rfl (by decide) (am_ne (by omega) (am_ne (by omega) (am_ne (by omega) (am_ne (by omega) (am_ne (by omega) (am_ne (by omega) (am_ne (by omega) (am_ne (by omega) (am_ne (by omega) (am_ne (by omega) E.2.2.2.2.2.2.2.2.2.1)))))))))) ⟨by decide, by decide⟩ rfl ?_
  refine aw_aastO (npc := 194) (j := 1) dX0_becomes_193 rfl am_eq ((hok 1 _ rfl).imp id (fun ⟨a9, ha9, e9⟩ => by obtain ⟨hb9, -⟩ := G a9 ha9; exact ⟨_, _, e9, (am_ne (by omega) (am_ne (by omega) (am_ne (by omega) (am_ne (by omega) (am_ne (by omega) (am_ne (by omega) (am_ne (by omega) (am_ne (by omega) (am_ne (by omega) (am_ne (by omega) hb9))))))))))⟩)) ⟨by decide, by decide⟩ (Nat.le_of_ble_eq_true rfl) am_uu ?_
  refine aw_iinc (npc := 197) (v := 2) (L' := [some (.ref b), some (.ref e), some (.int 2)]) dX0_becomes_194 rfl rfl (by decide) (by decide) rfl rfl ?_
  refine aw_goto (npc := 176) dX0_becomes_197 (by decide) ?_
  refine aw_iload_n (npc := 177) rfl dX0_becomes_176 rfl ?_
  refine aw_bipush (npc := 179) (v := 14) (by decide) dX0_becomes_177 rfl ?_
  refine aw_icmp_ge (npc := 182) (tgt := 200) dX0_becomes_179 rfl (by decide) (fun hc => absurd hc (by decide)) (fun _ => ?_)
  refine aw_aload_n (npc := 183) rfl dX0_becomes_182 rfl ?_
  refine aw_get (npc := 186) dX0_becomes_183 rfl kf_X0_60 (am_ne (by omega) (am_ne (by omega) (am_ne (by omega) (am_ne (by omega) (am_ne (by omega) (am_ne (by omega) am_eq)))))) rfl ?_
  refine aw_iload_n (npc := 187) rfl dX0_becomes_186 rfl ?_
  refine aw_aload_n (npc := 188) rfl dX0_becomes_187 rfl ?_
  refine aw_get (npc := 191) dX0_becomes_188 rfl kf_X0_60 (am_ne (by omega) (am_ne (by omega) (am_ne (by omega) (am_ne (by omega) (am_ne (by omega) (am_ne (by omega) (am_ne (by omega) (am_ne (by omega) (am_ne (by omega) (am_ne (by omega) E.1)))))))))) rfl ?_
  refine aw_iload_n (npc := 192) rfl dX0_becomes_191 rfl ?_
  refine aw_aald (npc := 193) (j := 2) dX0_becomes_192 rfl (by decide) (am_ne (by omega) (am_ne (by omega) (am_ne (by omega) (am_ne (by omega) (am_ne (by omega) (am_ne (by omega) (am_ne (by omega) (am_ne (by omega) (am_ne (by omega) (am_ne (by omega) E.2.2.2.2.2.2.2.2.2.1)))))))))) ⟨by decide, by decide⟩ rfl ?_
  refine aw_aastO (npc := 194) (j := 2) dX0_becomes_193 rfl am_eq ((hok 2 _ rfl).imp id (fun ⟨a9, ha9, e9⟩ => by obtain ⟨hb9, -⟩ := G a9 ha9; exact ⟨_, _, e9, (am_ne (by omega) (am_ne (by omega) (am_ne (by omega) (am_ne (by omega) (am_ne (by omega) (am_ne (by omega) (am_ne (by omega) (am_ne (by omega) (am_ne (by omega) (am_ne (by omega) hb9))))))))))⟩)) ⟨by decide, by decide⟩ (Nat.le_of_ble_eq_true rfl) am_uu ?_
  refine aw_iinc (npc := 197) (v := 3) (L' := [some (.ref b), some (.ref e), some (.int 3)]) dX0_becomes_194 rfl rfl (by decide) (by decide) rfl rfl ?_
  refine aw_goto (npc := 176) dX0_becomes_197 (by decide) ?_
  refine aw_iload_n (npc := 177) rfl dX0_becomes_176 rfl ?_
  refine aw_bipush (npc := 179) (v := 14) (by decide) dX0_becomes_177 rfl ?_
  refine aw_icmp_ge (npc := 182) (tgt := 200) dX0_becomes_179 rfl (by decide) (fun hc => absurd hc (by decide)) (fun _ => ?_)
  refine aw_aload_n (npc := 183) rfl dX0_becomes_182 rfl ?_
  refine aw_get (npc := 186) dX0_becomes_183 rfl kf_X0_60 (am_ne (by omega) (am_ne (by omega) (am_ne (by omega) (am_ne (by omega) (am_ne (by omega) (am_ne (by omega) am_eq)))))) rfl ?_
  refine aw_iload_n (npc := 187) rfl dX0_becomes_186 rfl ?_
  refine aw_aload_n (npc := 188) rfl dX0_becomes_187 rfl ?_
  refine aw_get (npc := 191) dX0_becomes_188 rfl kf_X0_60 (am_ne (by omega) (am_ne (by omega) (am_ne (by omega) (am_ne (by omega) (am_ne (by omega) (am_ne (by omega) (am_ne (by omega) (am_ne (by omega) (am_ne (by omega) (am_ne (by omega) E.1)))))))))) rfl ?_
  refine aw_iload_n (npc := 192) rfl dX0_becomes_191 rfl ?_
  refine aw_aald (npc := 193) (j := 3) dX0_becomes_192 rfl (by decide) (am_ne (by omega) (am_ne (by omega) (am_ne (by omega) (am_ne (by omega) (am_ne (by omega) (am_ne (by omega) (am_ne (by omega) (am_ne (by omega) (am_ne (by omega) (am_ne (by omega) E.2.2.2.2.2.2.2.2.2.1)))))))))) ⟨by decide, by decide⟩ rfl ?_
  refine aw_aastO (npc := 194) (j := 3) dX0_becomes_193 rfl am_eq ((hok 3 _ rfl).imp id (fun ⟨a9, ha9, e9⟩ => by obtain ⟨hb9, -⟩ := G a9 ha9; exact ⟨_, _, e9, (am_ne (by omega) (am_ne (by omega) (am_ne (by omega) (am_ne (by omega) (am_ne (by omega) (am_ne (by omega) (am_ne (by omega) (am_ne (by omega) (am_ne (by omega) (am_ne (by omega) hb9))))))))))⟩)) ⟨by decide, by decide⟩ (Nat.le_of_ble_eq_true rfl) am_uu ?_
  refine aw_iinc (npc := 197) (v := 4) (L' := [some (.ref b), some (.ref e), some (.int 4)]) dX0_becomes_194 rfl rfl (by decide) (by decide) rfl rfl ?_
  refine aw_goto (npc := 176) dX0_becomes_197 (by decide) ?_
  refine aw_iload_n (npc := 177) rfl dX0_becomes_176 rfl ?_
  refine aw_bipush (npc := 179) (v := 14) (by decide) dX0_becomes_177 rfl ?_
  refine aw_icmp_ge (npc := 182) (tgt := 200) dX0_becomes_179 rfl (by decide) (fun hc => absurd hc (by decide)) (fun _ => ?_)
  refine aw_aload_n (npc := 183) rfl dX0_becomes_182 rfl ?_
  refine aw_get (npc := 186) dX0_becomes_183 rfl kf_X0_60 (am_ne (by omega) (am_ne (by omega) (am_ne (by omega) (am_ne (by omega) (am_ne (by omega) (am_ne (by omega) am_eq)))))) rfl ?_
  refine aw_iload_n (npc := 187) rfl dX0_becomes_186 rfl ?_
  refine aw_aload_n (npc := 188) rfl dX0_becomes_187 rfl ?_
  refine aw_get (npc := 191) dX0_becomes_188 rfl kf_X0_60 (am_ne (by omega) (am_ne (by omega) (am_ne (by omega) (am_ne (by omega) (am_ne (by omega) (am_ne (by omega) (am_ne (by omega) (am_ne (by omega) (am_ne (by omega) (am_ne (by omega) E.1)))))))))) rfl ?_
  refine aw_iload_n (npc := 192) rfl dX0_becomes_191 rfl ?_
  refine aw_aald (npc := 193) (j := 4) dX0_becomes_192 rfl (by decide) (am_ne (by omega) (am_ne (by omega) (am_ne (by omega) (am_ne (by omega) (am_ne (by omega) (am_ne (by omega) (am_ne (by omega) (am_ne (by omega) (am_ne (by omega) (am_ne (by omega) E.2.2.2.2.2.2.2.2.2.1)))))))))) ⟨by decide, by decide⟩ rfl ?_
  refine aw_aastO (npc := 194) (j := 4) dX0_becomes_193 rfl am_eq ((hok 4 _ rfl).imp id (fun ⟨a9, ha9, e9⟩ => by obtain ⟨hb9, -⟩ := G a9 ha9; exact ⟨_, _, e9, (am_ne (by omega) (am_ne (by omega) (am_ne (by omega) (am_ne (by omega) (am_ne (by omega) (am_ne (by omega) (am_ne (by omega) (am_ne (by omega) (am_ne (by omega) (am_ne (by omega) hb9))))))))))⟩)) ⟨by decide, by decide⟩ (Nat.le_of_ble_eq_true rfl) am_uu ?_
  refine aw_iinc (npc := 197) (v := 5) (L' := [some (.ref b), some (.ref e), some (.int 5)]) dX0_becomes_194 rfl rfl (by decide) (by decide) rfl rfl ?_
  refine aw_goto (npc := 176) dX0_becomes_197 (by decide) ?_
  refine aw_iload_n (npc := 177) rfl dX0_becomes_176 rfl ?_
  refine aw_bipush (npc := 179) (v := 14) (by decide) dX0_becomes_177 rfl ?_
  refine aw_icmp_ge (npc := 182) (tgt := 200) dX0_becomes_179 rfl (by decide) (fun hc => absurd hc (by decide)) (fun _ => ?_)
  refine aw_aload_n (npc := 183) rfl dX0_becomes_182 rfl ?_
  refine aw_get (npc := 186) dX0_becomes_183 rfl kf_X0_60 (am_ne (by omega) (am_ne (by omega) (am_ne (by omega) (am_ne (by omega) (am_ne (by omega) (am_ne (by omega) am_eq)))))) rfl ?_
  refine aw_iload_n (npc := 187) rfl dX0_becomes_186 rfl ?_
  refine aw_aload_n (npc := 188) rfl dX0_becomes_187 rfl ?_
  refine aw_get (npc := 191) dX0_becomes_188 rfl kf_X0_60 (am_ne (by omega) (am_ne (by omega) (am_ne (by omega) (am_ne (by omega) (am_ne (by omega) (am_ne (by omega) (am_ne (by omega) (am_ne (by omega) (am_ne (by omega) (am_ne (by omega) E.1)))))))))) rfl ?_
  refine aw_iload_n (npc := 192) rfl dX0_becomes_191 rfl ?_
  refine aw_aald (npc := 193) (j := 5) dX0_becomes_192 rfl (by decide) (am_ne (by omega) (am_ne (by omega) (am_ne (by omega) (am_ne (by omega) (am_ne (by omega) (am_ne (by omega) (am_ne (by omega) (am_ne (by omega) (am_ne (by omega) (am_ne (by omega) E.2.2.2.2.2.2.2.2.2.1)))))))))) ⟨by decide, by decide⟩ rfl ?_
  refine aw_aastO (npc := 194) (j := 5) dX0_becomes_193 rfl am_eq ((hok 5 _ rfl).imp id (fun ⟨a9, ha9, e9⟩ => by obtain ⟨hb9, -⟩ := G a9 ha9; exact ⟨_, _, e9, (am_ne (by omega) (am_ne (by omega) (am_ne (by omega) (am_ne (by omega) (am_ne (by omega) (am_ne (by omega) (am_ne (by omega) (am_ne (by omega) (am_ne (by omega) (am_ne (by omega) hb9))))))))))⟩)) ⟨by decide, by decide⟩ (Nat.le_of_ble_eq_true rfl) am_uu ?_
  refine aw_iinc (npc := 197) (v := 6) (L' := [some (.ref b), some (.ref e), some (.int 6)]) dX0_becomes_194 rfl rfl (by decide) (by decide) rfl rfl ?_
  refine aw_goto (npc := 176) dX0_becomes_197 (by decide) ?_
  refine aw_iload_n (npc := 177) rfl dX0_becomes_176 rfl ?_
  refine aw_bipush (npc := 179) (v := 14) (by decide) dX0_becomes_177 rfl ?_
  refine aw_icmp_ge (npc := 182) (tgt := 200) dX0_becomes_179 rfl (by decide) (fun hc => absurd hc (by decide)) (fun _ => ?_)
  refine aw_aload_n (npc := 183) rfl dX0_becomes_182 rfl ?_
  refine aw_get (npc := 186) dX0_becomes_183 rfl kf_X0_60 (am_ne (by omega) (am_ne (by omega) (am_ne (by omega) (am_ne (by omega) (am_ne (by omega) (am_ne (by omega) am_eq)))))) rfl ?_
  refine aw_iload_n (npc := 187) rfl dX0_becomes_186 rfl ?_
  refine aw_aload_n (npc := 188) rfl dX0_becomes_187 rfl ?_
  refine aw_get (npc := 191) dX0_becomes_188 rfl kf_X0_60 (am_ne (by omega) (am_ne (by omega) (am_ne (by omega) (am_ne (by omega) (am_ne (by omega) (am_ne (by omega) (am_ne (by omega) (am_ne (by omega) (am_ne (by omega) (am_ne (by omega) E.1)))))))))) rfl ?_
  refine aw_iload_n (npc := 192) rfl dX0_becomes_191 rfl ?_
  refine aw_aald (npc := 193) (j := 6) dX0_becomes_192 rfl (by decide) (am_ne (by omega) (am_ne (by omega) (am_ne (by omega) (am_ne (by omega) (am_ne (by omega) (am_ne (by omega) (am_ne (by omega) (am_ne (by omega) (am_ne (by omega) (am_ne (by omega) E.2.2.2.2.2.2.2.2.2.1)))))))))) ⟨by decide, by decide⟩ rfl ?_
  refine aw_aastO (npc := 194) (j := 6) dX0_becomes_193 rfl am_eq ((hok 6 _ rfl).imp id (fun ⟨a9, ha9, e9⟩ => by obtain ⟨hb9, -⟩ := G a9 ha9; exact ⟨_, _, e9, (am_ne (by omega) (am_ne (by omega) (am_ne (by omega) (am_ne (by omega) (am_ne (by omega) (am_ne (by omega) (am_ne (by omega) (am_ne (by omega) (am_ne (by omega) (am_ne (by omega) hb9))))))))))⟩)) ⟨by decide, by decide⟩ (Nat.le_of_ble_eq_true rfl) am_uu ?_
  refine aw_iinc (npc := 197) (v := 7) (L' := [some (.ref b), some (.ref e), some (.int 7)]) dX0_becomes_194 rfl rfl (by decide) (by decide) rfl rfl ?_
  refine aw_goto (npc := 176) dX0_becomes_197 (by decide) ?_
  refine aw_iload_n (npc := 177) rfl dX0_becomes_176 rfl ?_
  refine aw_bipush (npc := 179) (v := 14) (by decide) dX0_becomes_177 rfl ?_
  refine aw_icmp_ge (npc := 182) (tgt := 200) dX0_becomes_179 rfl (by decide) (fun hc => absurd hc (by decide)) (fun _ => ?_)
  refine aw_aload_n (npc := 183) rfl dX0_becomes_182 rfl ?_
  refine aw_get (npc := 186) dX0_becomes_183 rfl kf_X0_60 (am_ne (by omega) (am_ne (by omega) (am_ne (by omega) (am_ne (by omega) (am_ne (by omega) (am_ne (by omega) am_eq)))))) rfl ?_
  refine aw_iload_n (npc := 187) rfl dX0_becomes_186 rfl ?_
  refine aw_aload_n (npc := 188) rfl dX0_becomes_187 rfl ?_
  refine aw_get (npc := 191) dX0_becomes_188 rfl kf_X0_60 (am_ne (by omega) (am_ne (by omega) (am_ne (by omega) (am_ne (by omega) (am_ne (by omega) (am_ne (by omega) (am_ne (by omega) (am_ne (by omega) (am_ne (by omega) (am_ne (by omega) E.1)))))))))) rfl ?_
  refine aw_iload_n (npc := 192) rfl dX0_becomes_191 rfl ?_
  refine aw_aald (npc := 193) (j := 7) dX0_becomes_192 rfl (by decide) (am_ne (by omega) (am_ne (by omega) (am_ne (by omega) (am_ne (by omega) (am_ne (by omega) (am_ne (by omega) (am_ne (by omega) (am_ne (by omega) (am_ne (by omega) (am_ne (by omega) E.2.2.2.2.2.2.2.2.2.1)))))))))) ⟨by decide, by decide⟩ rfl ?_
  refine aw_aastO (npc := 194) (j := 7) dX0_becomes_193 rfl am_eq ((hok 7 _ rfl).imp id (fun ⟨a9, ha9, e9⟩ => by obtain ⟨hb9, -⟩ := G a9 ha9; exact ⟨_, _, e9, (am_ne (by omega) (am_ne (by omega) (am_ne (by omega) (am_ne (by omega) (am_ne (by omega) (am_ne (by omega) (am_ne (by omega) (am_ne (by omega) (am_ne (by omega) (am_ne (by omega) hb9))))))))))⟩)) ⟨by decide, by decide⟩ (Nat.le_of_ble_eq_true rfl) am_uu ?_
  refine aw_iinc (npc := 197) (v := 8) (L' := [some (.ref b), some (.ref e), some (.int 8)]) dX0_becomes_194 rfl rfl (by decide) (by decide) rfl rfl ?_
  refine aw_goto (npc := 176) dX0_becomes_197 (by decide) ?_
  refine aw_iload_n (npc := 177) rfl dX0_becomes_176 rfl ?_
  refine aw_bipush (npc := 179) (v := 14) (by decide) dX0_becomes_177 rfl ?_
  refine aw_icmp_ge (npc := 182) (tgt := 200) dX0_becomes_179 rfl (by decide) (fun hc => absurd hc (by decide)) (fun _ => ?_)
  refine aw_aload_n (npc := 183) rfl dX0_becomes_182 rfl ?_
  refine aw_get (npc := 186) dX0_becomes_183 rfl kf_X0_60 (am_ne (by omega) (am_ne (by omega) (am_ne (by omega) (am_ne (by omega) (am_ne (by omega) (am_ne (by omega) am_eq)))))) rfl ?_
  refine aw_iload_n (npc := 187) rfl dX0_becomes_186 rfl ?_
  refine aw_aload_n (npc := 188) rfl dX0_becomes_187 rfl ?_
  refine aw_get (npc := 191) dX0_becomes_188 rfl kf_X0_60 (am_ne (by omega) (am_ne (by omega) (am_ne (by omega) (am_ne (by omega) (am_ne (by omega) (am_ne (by omega) (am_ne (by omega) (am_ne (by omega) (am_ne (by omega) (am_ne (by omega) E.1)))))))))) rfl ?_
  refine aw_iload_n (npc := 192) rfl dX0_becomes_191 rfl ?_
  refine aw_aald (npc := 193) (j := 8) dX0_becomes_192 rfl (by decide) (am_ne (by omega) (am_ne (by omega) (am_ne (by omega) (am_ne (by omega) (am_ne (by omega) (am_ne (by omega) (am_ne (by omega) (am_ne (by omega) (am_ne (by omega) (am_ne (by omega) E.2.2.2.2.2.2.2.2.2.1)))))))))) ⟨by decide, by decide⟩ rfl ?_
  refine aw_aastO (npc := 194) (j := 8) dX0_becomes_193 rfl am_eq ((hok 8 _ rfl).imp id (fun ⟨a9, ha9, e9⟩ => by obtain ⟨hb9, -⟩ := G a9 ha9; exact ⟨_, _, e9, (am_ne (by omega) (am_ne (by omega) (am_ne (by omega) (am_ne (by omega) (am_ne (by omega) (am_ne (by omega) (am_ne (by omega) (am_ne (by omega) (am_ne (by omega) (am_ne (by omega) hb9))))))))))⟩)) ⟨by decide, by decide⟩ (Nat.le_of_ble_eq_true rfl) am_uu ?_
  refine aw_iinc (npc := 197) (v := 9) (L' := [some (.ref b), some (.ref e), some (.int 9)]) dX0_becomes_194 rfl rfl (by decide) (by decide) rfl rfl ?_
  refine aw_goto (npc := 176) dX0_becomes_197 (by decide) ?_
  refine aw_iload_n (npc := 177) rfl dX0_becomes_176 rfl ?_
  refine aw_bipush (npc := 179) (v := 14) (by decide) dX0_becomes_177 rfl ?_
  refine aw_icmp_ge (npc := 182) (tgt := 200) dX0_becomes_179 rfl (by decide) (fun hc => absurd hc (by decide)) (fun _ => ?_)
  refine aw_aload_n (npc := 183) rfl dX0_becomes_182 rfl ?_
  refine aw_get (npc := 186) dX0_becomes_183 rfl kf_X0_60 (am_ne (by omega) (am_ne (by omega) (am_ne (by omega) (am_ne (by omega) (am_ne (by omega) (am_ne (by omega) am_eq)))))) rfl ?_
  refine aw_iload_n (npc := 187) rfl dX0_becomes_186 rfl ?_
  refine aw_aload_n (npc := 188) rfl dX0_becomes_187 rfl ?_
  refine aw_get (npc := 191) dX0_becomes_188 rfl kf_X0_60 (am_ne (by omega) (am_ne (by omega) (am_ne (by omega) (am_ne (by omega) (am_ne (by omega) (am_ne (by omega) (am_ne (by omega) (am_ne (by omega) (am_ne (by omega) (am_ne (by omega) E.1)))))))))) rfl ?_
  refine aw_iload_n (npc := 192) rfl dX0_becomes_191 rfl ?_
  refine aw_aald (npc := 193) (j := 9) dX0_becomes_192 rfl (by decide) (am_ne (by omega) (am_ne (by omega) (am_ne (by omega) (am_ne (by omega) (am_ne (by omega) (am_ne (by omega) (am_ne (by omega) (am_ne (by omega) (am_ne (by omega) (am_ne (by omega) E.2.2.2.2.2.2.2.2.2.1)))))))))) ⟨by decide, by decide⟩ rfl ?_
  refine aw_aastO (npc := 194) (j := 9) dX0_becomes_193 rfl am_eq ((hok 9 _ rfl).imp id (fun ⟨a9, ha9, e9⟩ => by obtain ⟨hb9, -⟩ := G a9 ha9; exact ⟨_, _, e9, (am_ne (by omega) (am_ne (by omega) (am_ne (by omega) (am_ne (by omega) (am_ne (by omega) (am_ne (by omega) (am_ne (by omega) (am_ne (by omega) (am_ne (by omega) (am_ne (by omega) hb9))))))))))⟩)) ⟨by decide, by decide⟩ (Nat.le_of_ble_eq_true rfl) am_uu ?_
  refine aw_iinc (npc := 197) (v := 10) (L' := [some (.ref b), some (.ref e), some (.int 10)]) dX0_becomes_194 rfl rfl (by decide) (by decide) rfl rfl ?_
  refine aw_goto (npc := 176) dX0_becomes_197 (by decide) ?_
  refine aw_iload_n (npc := 177) rfl dX0_becomes_176 rfl ?_
  refine aw_bipush (npc := 179) (v := 14) (by decide) dX0_becomes_177 rfl ?_
  refine aw_icmp_ge (npc := 182) (tgt := 200) dX0_becomes_179 rfl (by decide) (fun hc => absurd hc (by decide)) (fun _ => ?_)
  refine aw_aload_n (npc := 183) rfl dX0_becomes_182 rfl ?_
  refine aw_get (npc := 186) dX0_becomes_183 rfl kf_X0_60 (am_ne (by omega) (am_ne (by omega) (am_ne (by omega) (am_ne (by omega) (am_ne (by omega) (am_ne (by omega) am_eq)))))) rfl ?_
  refine aw_iload_n (npc := 187) rfl dX0_becomes_186 rfl ?_
  refine aw_aload_n (npc := 188) rfl dX0_becomes_187 rfl ?_
  refine aw_get (npc := 191) dX0_becomes_188 rfl kf_X0_60 (am_ne (by omega) (am_ne (by omega) (am_ne (by omega) (am_ne (by omega) (am_ne (by omega) (am_ne (by omega) (am_ne (by omega) (am_ne (by omega) (am_ne (by omega) (am_ne (by omega) E.1)))))))))) rfl ?_
  refine aw_iload_n (npc := 192) rfl dX0_becomes_191 rfl ?_
  refine aw_aald (npc := 193) (j := 10) dX0_becomes_192 rfl (by decide) (am_ne (by omega) (am_ne (by omega) (am_ne (by omega) (am_ne (by omega) (am_ne (by omega) (am_ne (by omega) (am_ne (by omega) (am_ne (by omega) (am_ne (by omega) (am_ne (by omega) E.2.2.2.2.2.2.2.2.2.1)))))))))) ⟨by decide, by decide⟩ rfl ?_
  refine aw_aastO (npc := 194) (j := 10) dX0_becomes_193 rfl am_eq ((hok 10 _ rfl).imp id (fun ⟨a9, ha9, e9⟩ => by obtain ⟨hb9, -⟩ := G a9 ha9; exact ⟨_, _, e9, (am_ne (by omega) (am_ne (by omega) (am_ne (by omega) (am_ne (by omega) (am_ne (by omega) (am_ne (by omega) (am_ne (by omega) (am_ne (by omega) (am_ne (by omega) (am_ne (by omega) hb9))))))))))⟩)) ⟨by decide, by decide⟩ (Nat.le_of_ble_eq_true rfl) am_uu ?_
  refine aw_iinc (npc := 197) (v := 11) (L' := [some (.ref b), some (.ref e), some (.int 11)]) dX0_becomes_194 rfl rfl (by decide) (by decide) rfl rfl ?_
  refine aw_goto (npc := 176) dX0_becomes_197 (by decide) ?_
  refine aw_iload_n (npc := 177) rfl dX0_becomes_176 rfl ?_
  refine aw_bipush (npc := 179) (v := 14) (by decide) dX0_becomes_177 rfl ?_
  refine aw_icmp_ge (npc := 182) (tgt := 200) dX0_becomes_179 rfl (by decide) (fun hc => absurd hc (by decide)) (fun _ => ?_)
  refine aw_aload_n (npc := 183) rfl dX0_becomes_182 rfl ?_
  refine aw_get (npc := 186) dX0_becomes_183 rfl kf_X0_60 (am_ne (by omega) (am_ne (by omega) (am_ne (by omega) (am_ne (by omega) (am_ne (by omega) (am_ne (by omega) am_eq)))))) rfl ?_
  refine aw_iload_n (npc := 187) rfl dX0_becomes_186 rfl ?_
  refine aw_aload_n (npc := 188) rfl dX0_becomes_187 rfl ?_
  refine aw_get (npc := 191) dX0_becomes_188 rfl kf_X0_60 (am_ne (by omega) (am_ne (by omega) (am_ne (by omega) (am_ne (by omega) (am_ne (by omega) (am_ne (by omega) (am_ne (by omega) (am_ne (by omega) (am_ne (by omega) (am_ne (by omega) E.1)))))))))) rfl ?_
  refine aw_iload_n (npc := 192) rfl dX0_becomes_191 rfl ?_
  refine aw_aald (npc := 193) (j := 11) dX0_becomes_192 rfl (by decide) (am_ne (by omega) (am_ne (by omega) (am_ne (by omega) (am_ne (by omega) (am_ne (by omega) (am_ne (by omega) (am_ne (by omega) (am_ne (by omega) (am_ne (by omega) (am_ne (by omega) E.2.2.2.2.2.2.2.2.2.1)))))))))) ⟨by decide, by decide⟩ rfl ?_
  refine aw_aastO (npc := 194) (j := 11) dX0_becomes_193 rfl am_eq ((hok 11 _ rfl).imp id (fun ⟨a9, ha9, e9⟩ => by obtain ⟨hb9, -⟩ := G a9 ha9; exact ⟨_, _, e9, (am_ne (by omega) (am_ne (by omega) (am_ne (by omega) (am_ne (by omega) (am_ne (by omega) (am_ne (by omega) (am_ne (by omega) (am_ne (by omega) (am_ne (by omega) (am_ne (by omega) hb9))))))))))⟩)) ⟨by decide, by decide⟩ (Nat.le_of_ble_eq_true rfl) am_uu ?_
  refine aw_iinc (npc := 197) (v := 12) (L' := [some (.ref b), some (.ref e), some (.int 12)]) dX0_becomes_194 rfl rfl (by decide) (by decide) rfl rfl ?_
  refine aw_goto (npc := 176) dX0_becomes_197 (by decide) ?_
  refine aw_iload_n (npc := 177) rfl dX0_becomes_176 rfl ?_
  refine aw_bipush (npc := 179) (v := 14) (by decide) dX0_becomes_177 rfl ?_
  refine aw_icmp_ge (npc := 182) (tgt := 200) dX0_becomes_179 rfl (by decide) (fun hc => absurd hc (by decide)) (fun _ => ?_)
  refine aw_aload_n (npc := 183) rfl dX0_becomes_182 rfl ?_
  refine aw_get (npc := 186) dX0_becomes_183 rfl kf_X0_60 (am_ne (by omega) (am_ne (by omega) (am_ne (by omega) (am_ne (by omega) (am_ne (by omega) (am_ne (by omega) am_eq)))))) rfl ?_
  refine aw_iload_n (npc := 187) rfl dX0_becomes_186 rfl ?_
  refine aw_aload_n (npc := 188) rfl dX0_becomes_187 rfl ?_
  refine aw_get (npc := 191) dX0_becomes_188 rfl kf_X0_60 (am_ne (by omega) (am_ne (by omega) (am_ne (by omega) (am_ne (by omega) (am_ne (by omega) (am_ne (by omega) (am_ne (by omega) (am_ne (by omega) (am_ne (by omega) (am_ne (by omega) E.1)))))))))) rfl ?_
  refine aw_iload_n (npc := 192) rfl dX0_becomes_191 rfl ?_
  refine aw_aald (npc := 193) (j := 12) dX0_becomes_192 rfl (by decide) (am_ne (by omega) (am_ne (by omega) (am_ne (by omega) (am_ne (by omega) (am_ne (by omega) (am_ne (by omega) (am_ne (by omega) (am_ne (by omega) (am_ne (by omega) (am_ne (by omega) E.2.2.2.2.2.2.2.2.2.1)))))))))) ⟨by decide, by decide⟩ rfl ?_
  refine aw_aastO (npc := 194) (j := 12) dX0_becomes_193 rfl am_eq ((hok 12 _ rfl).imp id (fun ⟨a9, ha9, e9⟩ => by obtain ⟨hb9, -⟩ := G a9 ha9; exact ⟨_, _, e9, (am_ne (by omega) (am_ne (by omega) (am_ne (by omega) (am_ne (by omega) (am_ne (by omega) (am_ne (by omega) (am_ne (by omega) (am_ne (by omega) (am_ne (by omega) (am_ne (by omega) hb9))))))))))⟩)) ⟨by decide, by decide⟩ (Nat.le_of_ble_eq_true rfl) am_uu ?_
  refine aw_iinc (npc := 197) (v := 13) (L' := [some (.ref b), some (.ref e), some (.int 13)]) dX0_becomes_194 rfl rfl (by decide) (by decide) rfl rfl ?_
  refine aw_goto (npc := 176) dX0_becomes_197 (by decide) ?_
  refine aw_iload_n (npc := 177) rfl dX0_becomes_176 rfl ?_
  refine aw_bipush (npc := 179) (v := 14) (by decide) dX0_becomes_177 rfl ?_
  refine aw_icmp_ge (npc := 182) (tgt := 200) dX0_becomes_179 rfl (by decide) (fun hc => absurd hc (by decide)) (fun _ => ?_)
  refine aw_aload_n (npc := 183) rfl dX0_becomes_182 rfl ?_
  refine aw_get (npc := 186) dX0_becomes_183 rfl kf_X0_60 (am_ne (by omega) (am_ne (by omega) (am_ne (by omega) (am_ne (by omega) (am_ne (by omega) (am_ne (by omega) am_eq)))))) rfl ?_
  refine aw_iload_n (npc := 187) rfl dX0_becomes_186 rfl ?_
  refine aw_aload_n (npc := 188) rfl dX0_becomes_187 rfl ?_
  refine aw_get (npc := 191) dX0_becomes_188 rfl kf_X0_60 (am_ne (by omega) (am_ne (by omega) (am_ne (by omega) (am_ne (by omega) (am_ne (by omega) (am_ne (by omega) (am_ne (by omega) (am_ne (by omega) (am_ne (by omega) (am_ne (by omega) E.1)))))))))) rfl ?_
  refine aw_iload_n (npc := 192) rfl dX0_becomes_191 rfl ?_
  refine aw_aald (npc := 193) (j := 13) dX0_becomes_192 rfl (by decide) (am_ne (by omega) (am_ne (by omega) (am_ne (by omega) (am_ne (by omega) (am_ne (by omega) (am_ne (by omega) (am_ne (by omega) (am_ne (by omega) (am_ne (by omega) (am_ne (by omega) E.2.2.2.2.2.2.2.2.2.1)))))))))) ⟨by decide, by decide⟩ rfl ?_
  refine aw_aastO (npc := 194) (j := 13) dX0_becomes_193 rfl am_eq ((hok 13 _ rfl).imp id (fun ⟨a9, ha9, e9⟩ => by obtain ⟨hb9, -⟩ := G a9 ha9; exact ⟨_, _, e9, (am_ne (by omega) (am_ne (by omega) (am_ne (by omega) (am_ne (by omega) (am_ne (by omega) (am_ne (by omega) (am_ne (by omega) (am_ne (by omega) (am_ne (by omega) (am_ne (by omega) hb9))))))))))⟩)) ⟨by decide, by decide⟩ (Nat.le_of_ble_eq_true rfl) am_uu ?_
  refine aw_iinc (npc := 197) (v := 14) (L' := [some (.ref b), some (.ref e), some (.int 14)]) dX0_becomes_194 rfl rfl (by decide) (by decide) rfl rfl ?_
  refine aw_goto (npc := 176) dX0_becomes_197 (by decide) ?_
  refine aw_iload_n (npc := 177) rfl dX0_becomes_176 rfl ?_
  refine aw_bipush (npc := 179) (v := 14) (by decide) dX0_becomes_177 rfl ?_
  refine aw_icmp_ge (npc := 182) (tgt := 200) dX0_becomes_179 rfl (by decide) (fun _ => ?_) (fun hc => absurd (by decide) hc)
  refine aw_aload_n (npc := 201) rfl dX0_becomes_200 rfl ?_
  refine aw_aload_n (npc := 202) rfl dX0_becomes_201 rfl ?_
  refine aw_get (npc := 205) dX0_becomes_202 rfl kf_X0_64 (am_ne (by omega) (am_ne (by omega) (am_ne (by omega) (am_ne (by omega) (am_ne (by omega) (am_ne (by omega) (am_ne (by omega) (am_ne (by omega) (am_ne (by omega) (am_ne (by omega) E.1)))))))))) rfl ?_
  refine aw_put (npc := 208) dX0_becomes_205 rfl kf_X0_64 (am_ne (by omega) (am_ne (by omega) (am_ne (by omega) (am_ne (by omega) (am_ne (by omega) (am_ne (by omega) am_eq)))))) (Nat.le_of_ble_eq_true rfl) (am_ok_int _) rfl ?_
  refine aw_aload_n (npc := 209) rfl dX0_becomes_208 rfl ?_
  refine aw_get (npc := 212) dX0_becomes_209 rfl kf_X0_67 (am_ne (by omega) (am_ne (by omega) (am_ne (by omega) (am_ne (by omega) (am_ne (by omega) (am_ne (by omega) (am_ne (by omega) (am_ne (by omega) (am_ne (by omega) (am_ne (by omega) (am_ne (by omega) E.1))))))))))) rfl ?_
  refine aw_iconst (npc := 213) (v := 0) (by decide) dX0_becomes_212 rfl ?_
  refine aw_aload_n (npc := 214) rfl dX0_becomes_213 rfl ?_
  refine aw_get (npc := 217) dX0_becomes_214 rfl kf_X0_67 am_eq rfl ?_
  refine aw_iconst (npc := 218) (v := 0) (by decide) dX0_becomes_217 rfl ?_
  refine aw_iconst (npc := 219) (v := 3) (by decide) dX0_becomes_218 rfl ?_
  refine aw_copyi (npc := 222) (sp := 0) (dp := 0) (mm := 3) dX0_becomes_219 rfl kac_X0_73 kac_x (am_ne (by omega) (am_ne (by omega) (am_ne (by omega) (am_ne (by omega) (am_ne (by omega) (am_ne (by omega) (am_ne (by omega) (am_ne (by omega) (am_ne (by omega) (am_ne (by omega) (am_ne (by omega) E.2.2.2.2.2.2.2.2.2.2.1))))))))))) (am_ne (by omega) (am_ne (by omega) (am_ne (by omega) (am_ne (by omega) (am_ne (by omega) (am_ne (by omega) (am_ne (by omega) (am_ne (by omega) (am_ne (by omega) (am_ne (by omega) (am_ne (by omega) F.2.2.2.2.2.2.2.2.2.2.1))))))))))) ⟨by decide, by decide⟩ ⟨by decide, by decide⟩ ⟨by decide, by decide⟩ (by rw [tl_len]; omega) (by rw [tl_len]; omega) (Nat.le_of_ble_eq_true rfl) (congrArg (fun l : List Int32 => am_up _ _ (.inl (0, l))) am_cpy_all) ?_
  refine aw_vret rfl dX0_becomes_222 ?_
  exact hq _ ⟨(am_ne (by omega) am_eq), (am_ne (by omega) (am_ne (by omega) (am_ne (by omega) (am_ne (by omega) (am_ne (by omega) (am_ne (by omega) (am_ne (by omega) (am_ne (by omega) (am_ne (by omega) (am_ne (by omega) (am_ne (by omega) am_eq))))))))))), (am_ne (by omega) (am_ne (by omega) (am_ne (by omega) (am_ne (by omega) (am_ne (by omega) (am_ne (by omega) (am_ne (by omega) (am_ne (by omega) (am_ne (by omega) (am_ne (by omega) am_eq)))))))))), (am_ne (by omega) (am_ne (by omega) (am_ne (by omega) (am_ne (by omega) (am_ne (by omega) (am_ne (by omega) (am_ne (by omega) (am_ne (by omega) (am_ne (by omega) am_eq))))))))), (am_ne (by omega) (am_ne (by omega) (am_ne (by omega) (am_ne (by omega) (am_ne (by omega) (am_ne (by omega) (am_ne (by omega) am_eq))))))), (am_ne (by omega) (am_ne (by omega) (am_ne (by omega) (am_ne (by omega) (am_ne (by omega) (am_ne (by omega) am_eq)))))), (am_ne (by omega) (am_ne (by omega) (am_ne (by omega) (am_ne (by omega) (am_ne (by omega) am_eq))))), (am_ne (by omega) (am_ne (by omega) (am_ne (by omega) (am_ne (by omega) am_eq)))), (am_ne (by omega) (am_ne (by omega) (am_ne (by omega) am_eq))), (am_ne (by omega) (am_ne (by omega) am_eq)), am_eq, (am_ne (by omega) (am_ne (by omega) (am_ne (by omega) (am_ne (by omega) (am_ne (by omega) (am_ne (by omega) (am_ne (by omega) (am_ne (by omega) (am_ne (by omega) (am_ne (by omega) (am_ne (by omega) (am_ne (by omega) F.2.2.2.2.2.2.2.2.2.2.2))))))))))))⟩ (am_fbU (by omega) (am_fbU (by omega) (am_fbU (by omega) (am_fbU (by omega) (am_fbU (by omega) (am_fbU (by omega) (am_fbU (by omega) (am_fbU (by omega) (am_fbU (by omega) (am_fbU (by omega) (am_fbU (by omega) (am_fbU (by omega) am_fb0))))))))))))
