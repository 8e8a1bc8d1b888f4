def mLe (TN : (Nat → Int32) → Int32 → Prop) (f : Nat) (σ σ' : (Nat → Int32) × (Nat → Int32) × Int32) : Prop :=
  (rem100 (drawV (sentN σ.1 f)) < (drawN (sentN σ.1 f)) 5 ∧ σ' = (upd (drawN (sentN σ.1 f)) 6 ((drawN (sentN σ.1 f)) 6 + 1), σ.2.1, σ.2.2)) ∨
  (¬ rem100 (drawV (sentN σ.1 f)) < (drawN (sentN σ.1 f)) 5 ∧ ∃ τ, TN (drawN (sentN σ.1 f)) τ ∧
    ((¬ τ < 50 ∧ σ' = (drawN (sentN σ.1 f), σ.2.1, σ.2.2 + 5)) ∨
     (τ < 50 ∧ mt (drawN (sentN σ.1 f)) f = none ∧ σ' = (drawN (sentN σ.1 f), σ.2.1, σ.2.2)) ∨
     (τ < 50 ∧ ∃ t, t < 4 ∧ mt (drawN (sentN σ.1 f)) f = some t ∧ σ' = (upd (drawN (sentN σ.1 f)) (26 + 5 * f) ((drawN (sentN σ.1 f)) (26 + 5 * f) + 1), upd σ.2.1 t (σ.2.1 t + (if (drawN (sentN σ.1 f)) (23 + 5 * f) = 0 then -1 else 1)), σ.2.2 - 1))))
def al3 (a9 a : Nat → Nat → Int32) : Prop := ∀ k, k ≠ 73 → k ≠ 81 → k ≠ 82 → a9 k = a k
def ol6 (o9 o : Nat → Int32) : Prop := ∀ k, k ≠ 6 → o9 k = o k
theorem mtM_lt {k s e : Int32} {N : Nat → Int32} : ∀ (m t : Nat) (p : Option Nat), t + m = 4 → (∀ u, p = some u → u < 4) → ∀ u, mtM k s e N m t p = some u → u < 4 := by
  intro m
  induction m with
  | zero => intro t p _ hp u hu; exact hp u hu
  | succ m ih => intro t p ht hp; exact ih (t + 1) _ (by omega) (mtS_lt (by omega) hp)
set_option maxHeartbeats 4000000 in
set_option maxRecDepth 100000 in
theorem m_letter {X : List Int32} {d rc rs n : Nat} {Q : am_Q} {o N : Nat → Int32} {a : Nat → Nat → Int32} {h : am_H} {c f : Nat} (F : MR o N a h) (hT : TXM (drawN (sentN N f)) c) (hf : f < 8) (hk : wi ((drawN (sentN N f)) (22 + 5 * f)) 0 5) (hs : wi ((drawN (sentN N f)) (23 + 5 * f)) 0 1) (hq : ∀ o9 N9 a9 h9, mLe (fun N τ => MTr N c f τ) f (N, a 73, o 6) (N9, a9 73, o9 6) → MR o9 N9 a9 h9 → ol6 o9 o → al3 a9 a → am_fb 69 92 h9 h → Q none n h9) : AW X mX8_letter (d + 5) rc rs 0 [some (.ref 69), some (.int (nI f)), none] [] n h Q := by
  refine aw_aload_n (npc := 1) rfl dX8_letter_0 rfl ?_
  refine aw_iload_n (npc := 2) rfl dX8_letter_1 rfl ?_
  refine aw_iconst (npc := 3) (v := 3) (by decide) dX8_letter_2 rfl ?_
  refine aw_aload_n (npc := 4) rfl dX8_letter_3 rfl ?_
  refine aw_iload_n (npc := 5) rfl dX8_letter_4 rfl ?_
  refine aw_iconst (npc := 6) (v := 3) (by decide) dX8_letter_5 rfl ?_
  refine aw_callV (npc := 9) (N := mX8_of) (b := 69) (mc := 0) (ms := 0) (A := [.int (nI f), .int 3]) (S := [.int 3, .int (nI f), .ref 69]) (L0 := [some (.ref 69), some (.int (nI f)), some (.int 3)]) dX8_letter_6 rfl km_X8_of kk_X8_101 F.1 ⟨by decide, rfl⟩ rfl ⟨rfl, by decide⟩ rfl (Nat.le_of_ble_eq_true rfl) (Nat.zero_add _) (Nat.zero_add _) rfl ?_
  refine m_of3 (f := f) F (by omega) ?_
  refine aw_re (S' := [.int (N (25 + 5 * f)), .int 3, .int (nI f), .ref 69]) rfl ?_
  refine aw_iconst (npc := 10) (v := 1) (by decide) dX8_letter_9 rfl ?_
  refine aw_iadd (npc := 11) dX8_letter_10 rfl ?_
  refine aw_callV (npc := 14) (N := mX8_put) (b := 69) (mc := 0) (ms := 0) (A := [.int (nI f), .int 3, .int ((N (25 + 5 * f)) + 1)]) (S := []) (L0 := [some (.ref 69), some (.int (nI f)), some (.int 3), some (.int ((N (25 + 5 * f)) + 1))]) dX8_letter_11 rfl km_X8_put kk_X8_87 F.1 ⟨by decide, rfl⟩ rfl ⟨rfl, by decide⟩ rfl (Nat.le_of_ble_eq_true rfl) (Nat.zero_add _) (Nat.zero_add _) rfl ?_
  refine m_put3 (f := f) (v := (N (25 + 5 * f)) + 1) F (by omega) (fun h9 F1 fb2 => ?_)
  refine aw_aload_n (npc := 15) rfl dX8_letter_14 rfl ?_
  refine aw_callV (npc := 18) (N := mX8_draw) (b := 69) (mc := 0) (ms := 0) (A := []) (S := []) (L0 := [some (.ref 69)]) dX8_letter_15 rfl km_X8_draw kk_X8_139 F1.1 ⟨by decide, rfl⟩ rfl ⟨rfl, by decide⟩ rfl (Nat.le_of_ble_eq_true rfl) (Nat.zero_add _) (Nat.zero_add _) rfl ?_
  refine m_draw F1 (fun hd9 Fd9 fd9 => ?_)
  have Gd9 : MR o (drawN (sentN N f)) a hd9 := Fd9
  refine aw_re (S' := [.int (drawV (sentN N f))]) rfl ?_
  refine aw_bipush (npc := 20) (v := 100) (by decide) dX8_letter_18 rfl ?_
  refine aw_irem (npc := 21) (by decide) dX8_letter_20 rfl ?_
  refine aw_aload_n (npc := 22) rfl dX8_letter_21 rfl ?_
  refine aw_get (npc := 25) dX8_letter_22 rfl kf_X8_9 Gd9.1 rfl ?_
  refine aw_iconst (npc := 26) (v := 5) (by decide) dX8_letter_25 rfl ?_
  refine aw_iald (npc := 27) (x := (drawN (sentN N f)) 5) (j := 5) dX8_letter_26 rfl Gd9.2.1 ⟨by decide, by decide⟩ (tl_at (by omega)) ?_
  refine aw_icmp_ge (npc := 30) (tgt := 42) dX8_letter_27 rfl (by decide) (fun hc3 => ?_) (fun hc3 => ?_)
  · refine aw_aload_n (npc := 43) rfl dX8_letter_42 rfl ?_
    refine aw_iload_n (npc := 44) rfl dX8_letter_43 rfl ?_
    refine aw_callV (npc := 47) (N := mX8_toneOf) (b := 69) (mc := 0) (ms := 0) (A := [.int (nI f)]) (S := []) (L0 := [some (.ref 69), some (.int (nI f)), none, none]) dX8_letter_44 rfl km_X8_toneOf kk_X8_118 Gd9.1 ⟨by decide, rfl⟩ rfl ⟨rfl, by decide⟩ rfl (Nat.le_of_ble_eq_true rfl) (Nat.zero_add _) (Nat.zero_add _) rfl ?_
    refine m_tone (c := c) Gd9 hT hf hk (fun τ at9 ht9 hτ Ft9 kt9 ft9 => ?_)
    refine aw_re (S' := [.int τ]) rfl ?_
    refine aw_bipush (npc := 49) (v := 50) (by decide) dX8_letter_47 rfl ?_
    refine aw_icmp_lt (npc := 52) (tgt := 63) dX8_letter_49 rfl (by decide) (fun hc4 => ?_) (fun hc4 => ?_)
    · refine aw_aload_n (npc := 64) rfl dX8_letter_63 rfl ?_
      refine aw_iload_n (npc := 65) rfl dX8_letter_64 rfl ?_
      refine aw_callV (npc := 68) (N := mX8_termOf) (b := 69) (mc := 0) (ms := 0) (A := [.int (nI f)]) (S := []) (L0 := [some (.ref 69), some (.int (nI f)), none, none, none]) dX8_letter_65 rfl km_X8_termOf kk_X8_121 Ft9.1 ⟨by decide, rfl⟩ rfl ⟨rfl, by decide⟩ rfl (Nat.le_of_ble_eq_true rfl) (Nat.zero_add _) (Nat.zero_add _) rfl ?_
      refine m_term Ft9 hf hk hs ?_
      cases ec : mt (drawN (sentN N f)) f with
      | none =>
        refine aw_re (S' := [.int (-1)]) rfl ?_
        refine aw_istore_n (npc := 69) (L' := [some (.ref 69), some (.int (nI f)), some (.int (-1))]) dX8_letter_68 rfl (by decide) rfl rfl ?_
        refine aw_iload_n (npc := 70) rfl dX8_letter_69 rfl ?_
        refine aw_if_lt (npc := 73) (tgt := 120) dX8_letter_70 rfl (by decide) (fun _ => ?_) (fun hc => absurd (by decide) hc)
        refine aw_vret rfl dX8_letter_120 ?_
        exact hq _ _ _ _ (Or.inr ⟨(Int32.not_lt.mpr hc3), τ, hτ, Or.inr (Or.inl ⟨hc4, ec, by rw [(kt9 73 (by decide) (by decide))]⟩)⟩) Ft9 (fun _ _ => rfl) (fun k h73 h81 h82 => kt9 k h81 h82) (am_fbT ft9 (am_fbT fd9 (am_fbT fb2 am_fb0)))
      | some t =>
        have ht4 : t < 4 := mtM_lt 4 0 none (by omega) (fun u z => by cases z) t ec
        refine aw_re (S' := [.int (nI t)]) rfl ?_
        refine aw_istore_n (npc := 69) (L' := [some (.ref 69), some (.int (nI f)), some (.int (nI t))]) dX8_letter_68 rfl (by decide) rfl rfl ?_
        refine aw_iload_n (npc := 70) rfl dX8_letter_69 rfl ?_
        refine aw_if_lt (npc := 73) (tgt := 120) dX8_letter_70 rfl (by decide) (fun hc => absurd hc (nI_pos (by omega))) (fun _ => ?_)
        refine aw_aload_n (npc := 74) rfl dX8_letter_73 rfl ?_
        refine aw_get (npc := 77) dX8_letter_74 rfl kf_X8_23 Ft9.1 rfl ?_
        refine aw_iload_n (npc := 78) rfl dX8_letter_77 rfl ?_
        refine aw_dup2 (npc := 79) rfl rfl dX8_letter_78 rfl ?_
        refine aw_iald (npc := 80) (x := (at9 73) t) (j := t) dX8_letter_79 rfl Ft9.2.2.2.2.1 (am_ix_nI (by omega)) (tl_at (by omega)) ?_
        refine aw_aload_n (npc := 81) rfl dX8_letter_80 rfl ?_
        refine aw_iload_n (npc := 82) rfl dX8_letter_81 rfl ?_
        refine aw_iconst (npc := 83) (v := 1) (by decide) dX8_letter_82 rfl ?_
        refine aw_callV (npc := 86) (N := mX8_of) (b := 69) (mc := 0) (ms := 0) (A := [.int (nI f), .int 1]) (S := [.int ((at9 73) t), .int (nI t), .ref 73]) (L0 := [some (.ref 69), some (.int (nI f)), some (.int 1)]) dX8_letter_83 rfl km_X8_of kk_X8_101 Ft9.1 ⟨by decide, rfl⟩ rfl ⟨rfl, by decide⟩ rfl (Nat.le_of_ble_eq_true rfl) (Nat.zero_add _) (Nat.zero_add _) rfl ?_
        refine m_of1 (f := f) Ft9 (by omega) ?_
        refine aw_re (S' := [.int ((drawN (sentN N f)) (23 + 5 * f)), .int ((at9 73) t), .int (nI t), .ref 73]) rfl ?_
        refine aw_if_ne (npc := 89) (tgt := 93) dX8_letter_86 rfl (by decide) (fun hc6 => ?_) (fun hc6 => ?_)
        · refine aw_iconst (npc := 94) (v := 1) (by decide) dX8_letter_93 rfl ?_
          refine aw_iadd (npc := 95) dX8_letter_94 rfl ?_
          refine aw_iast (npc := 96) (j := t) dX8_letter_95 rfl Ft9.2.2.2.2.1 (am_ix_nI (by omega)) (by rw [tl_len]; omega) rfl ?_
          have F7 := mr_73 (j := t) (v := ((at9 73) t) + 1) Ft9
          refine aw_aload_n (npc := 97) rfl dX8_letter_96 rfl ?_
          refine aw_iload_n (npc := 98) rfl dX8_letter_97 rfl ?_
          refine aw_iconst (npc := 99) (v := 4) (by decide) dX8_letter_98 rfl ?_
          refine aw_aload_n (npc := 100) rfl dX8_letter_99 rfl ?_
          refine aw_iload_n (npc := 101) rfl dX8_letter_100 rfl ?_
          refine aw_iconst (npc := 102) (v := 4) (by decide) dX8_letter_101 rfl ?_
          refine aw_callV (npc := 105) (N := mX8_of) (b := 69) (mc := 0) (ms := 0) (A := [.int (nI f), .int 4]) (S := [.int 4, .int (nI f), .ref 69]) (L0 := [some (.ref 69), some (.int (nI f)), some (.int 4)]) dX8_letter_102 rfl km_X8_of kk_X8_101 F7.1 ⟨by decide, rfl⟩ rfl ⟨rfl, by decide⟩ rfl (Nat.le_of_ble_eq_true rfl) (Nat.zero_add _) (Nat.zero_add _) rfl ?_
          refine m_of4 (f := f) F7 (by omega) ?_
          refine aw_re (S' := [.int ((drawN (sentN N f)) (26 + 5 * f)), .int 4, .int (nI f), .ref 69]) rfl ?_
          refine aw_iconst (npc := 106) (v := 1) (by decide) dX8_letter_105 rfl ?_
          refine aw_iadd (npc := 107) dX8_letter_106 rfl ?_
          refine aw_callV (npc := 110) (N := mX8_put) (b := 69) (mc := 0) (ms := 0) (A := [.int (nI f), .int 4, .int (((drawN (sentN N f)) (26 + 5 * f)) + 1)]) (S := []) (L0 := [some (.ref 69), some (.int (nI f)), some (.int 4), some (.int (((drawN (sentN N f)) (26 + 5 * f)) + 1))]) dX8_letter_107 rfl km_X8_put kk_X8_87 F7.1 ⟨by decide, rfl⟩ rfl ⟨rfl, by decide⟩ rfl (Nat.le_of_ble_eq_true rfl) (Nat.zero_add _) (Nat.zero_add _) rfl ?_
          refine m_put4 (f := f) (v := ((drawN (sentN N f)) (26 + 5 * f)) + 1) F7 (by omega) (fun h9 F8 fb9 => ?_)
          refine aw_aload_n (npc := 111) rfl dX8_letter_110 rfl ?_
          refine aw_dup (npc := 112) rfl dX8_letter_111 rfl ?_
          refine aw_get (npc := 115) dX8_letter_112 rfl kf_X8_146 F8.1 rfl ?_
          refine aw_iconst (npc := 116) (v := 1) (by decide) dX8_letter_115 rfl ?_
          refine aw_isub (npc := 117) dX8_letter_116 rfl ?_
          refine aw_put (npc := 120) dX8_letter_117 rfl kf_X8_146 F8.1 (Nat.le_of_ble_eq_true rfl) (am_ok_int _) rfl ?_
          have F10 := mr_o6 (v := (o 6) - 1) F8
          refine aw_vret rfl dX8_letter_120 ?_
          exact hq _ _ _ _ (Or.inr ⟨(Int32.not_lt.mpr hc3), τ, hτ, Or.inr (Or.inr ⟨hc4, t, ht4, ec, by rw [aup_s, (kt9 73 (by decide) (by decide))]; simp [hc6, upd]⟩)⟩) F10 (fun k h6 => pk_un h6) (fun k h73 h81 h82 => (aup_n h73).trans (kt9 k h81 h82)) (am_fbU (by omega) (am_fbT fb9 (am_fbU (by omega) (am_fbT ft9 (am_fbT fd9 (am_fbT fb2 am_fb0))))))
        · refine aw_iconst (npc := 90) (v := -1) (by decide) dX8_letter_89 rfl ?_
          refine aw_goto (npc := 94) dX8_letter_90 (by decide) ?_
          refine aw_iadd (npc := 95) dX8_letter_94 rfl ?_
          refine aw_iast (npc := 96) (j := t) dX8_letter_95 rfl Ft9.2.2.2.2.1 (am_ix_nI (by omega)) (by rw [tl_len]; omega) rfl ?_
          have F11 := mr_73 (j := t) (v := ((at9 73) t) + (-1)) Ft9
          refine aw_aload_n (npc := 97) rfl dX8_letter_96 rfl ?_
          refine aw_iload_n (npc := 98) rfl dX8_letter_97 rfl ?_
          refine aw_iconst (npc := 99) (v := 4) (by decide) dX8_letter_98 rfl ?_
          refine aw_aload_n (npc := 100) rfl dX8_letter_99 rfl ?_
          refine aw_iload_n (npc := 101) rfl dX8_letter_100 rfl ?_
          refine aw_iconst (npc := 102) (v := 4) (by decide) dX8_letter_101 rfl ?_
          refine aw_callV (npc := 105) (N := mX8_of) (b := 69) (mc := 0) (ms := 0) (A := [.int (nI f), .int 4]) (S := [.int 4, .int (nI f), .ref 69]) (L0 := [some (.ref 69), some (.int (nI f)), some (.int 4)]) dX8_letter_102 rfl km_X8_of kk_X8_101 F11.1 ⟨by decide, rfl⟩ rfl ⟨rfl, by decide⟩ rfl (Nat.le_of_ble_eq_true rfl) (Nat.zero_add _) (Nat.zero_add _) rfl ?_
          refine m_of4 (f := f) F11 (by omega) ?_
          refine aw_re (S' := [.int ((drawN (sentN N f)) (26 + 5 * f)), .int 4, .int (nI f), .ref 69]) rfl ?_
          refine aw_iconst (npc := 106) (v := 1) (by decide) dX8_letter_105 rfl ?_
          refine aw_iadd (npc := 107) dX8_letter_106 rfl ?_
          refine aw_callV (npc := 110) (N := mX8_put) (b := 69) (mc := 0) (ms := 0) (A := [.int (nI f), .int 4, .int (((drawN (sentN N f)) (26 + 5 * f)) + 1)]) (S := []) (L0 := [some (.ref 69), some (.int (nI f)), some (.int 4), some (.int (((drawN (sentN N f)) (26 + 5 * f)) + 1))]) dX8_letter_107 rfl km_X8_put kk_X8_87 F11.1 ⟨by decide, rfl⟩ rfl ⟨rfl, by decide⟩ rfl (Nat.le_of_ble_eq_true rfl) (Nat.zero_add _) (Nat.zero_add _) rfl ?_
          refine m_put4 (f := f) (v := ((drawN (sentN N f)) (26 + 5 * f)) + 1) F11 (by omega) (fun h9 F12 fb13 => ?_)
          refine aw_aload_n (npc := 111) rfl dX8_letter_110 rfl ?_
          refine aw_dup (npc := 112) rfl dX8_letter_111 rfl ?_
          refine aw_get (npc := 115) dX8_letter_112 rfl kf_X8_146 F12.1 rfl ?_
          refine aw_iconst (npc := 116) (v := 1) (by decide) dX8_letter_115 rfl ?_
          refine aw_isub (npc := 117) dX8_letter_116 rfl ?_
          refine aw_put (npc := 120) dX8_letter_117 rfl kf_X8_146 F12.1 (Nat.le_of_ble_eq_true rfl) (am_ok_int _) rfl ?_
          have F14 := mr_o6 (v := (o 6) - 1) F12
          refine aw_vret rfl dX8_letter_120 ?_
          exact hq _ _ _ _ (Or.inr ⟨(Int32.not_lt.mpr hc3), τ, hτ, Or.inr (Or.inr ⟨hc4, t, ht4, ec, by rw [aup_s, (kt9 73 (by decide) (by decide))]; simp [hc6, upd]⟩)⟩) F14 (fun k h6 => pk_un h6) (fun k h73 h81 h82 => (aup_n h73).trans (kt9 k h81 h82)) (am_fbU (by omega) (am_fbT fb13 (am_fbU (by omega) (am_fbT ft9 (am_fbT fd9 (am_fbT fb2 am_fb0))))))
    · refine aw_aload_n (npc := 53) rfl dX8_letter_52 rfl ?_
      refine aw_dup (npc := 54) rfl dX8_letter_53 rfl ?_
      refine aw_get (npc := 57) dX8_letter_54 rfl kf_X8_146 Ft9.1 rfl ?_
      refine aw_iconst (npc := 58) (v := 5) (by decide) dX8_letter_57 rfl ?_
      refine aw_iadd (npc := 59) dX8_letter_58 rfl ?_
      refine aw_put (npc := 62) dX8_letter_59 rfl kf_X8_146 Ft9.1 (Nat.le_of_ble_eq_true rfl) (am_ok_int _) rfl ?_
      have F15 := mr_o6 (v := (o 6) + 5) Ft9
      refine aw_vret rfl dX8_letter_62 ?_
      exact hq _ _ _ _ (Or.inr ⟨(Int32.not_lt.mpr hc3), τ, hτ, Or.inl ⟨hc4, by rw [(kt9 73 (by decide) (by decide))]; rfl⟩⟩) F15 (fun k h6 => pk_un h6) (fun k h73 h81 h82 => kt9 k h81 h82) (am_fbU (by omega) (am_fbT ft9 (am_fbT fd9 (am_fbT fb2 am_fb0))))
  · refine aw_aload_n (npc := 31) rfl dX8_letter_30 rfl ?_
    refine aw_get (npc := 34) dX8_letter_31 rfl kf_X8_9 Gd9.1 rfl ?_
    refine aw_bipush (npc := 36) (v := 6) (by decide) dX8_letter_34 rfl ?_
    refine aw_dup2 (npc := 37) rfl rfl dX8_letter_36 rfl ?_
    refine aw_iald (npc := 38) (x := (drawN (sentN N f)) 6) (j := 6) dX8_letter_37 rfl Gd9.2.1 ⟨by decide, by decide⟩ (tl_at (by omega)) ?_
    refine aw_iconst (npc := 39) (v := 1) (by decide) dX8_letter_38 rfl ?_
    refine aw_iadd (npc := 40) dX8_letter_39 rfl ?_
    refine aw_iast (npc := 41) (j := 6) dX8_letter_40 rfl Gd9.2.1 ⟨by decide, by decide⟩ (by rw [tl_len]; omega) rfl ?_
    have F16 := mr_70 (j := 6) (v := ((drawN (sentN N f)) 6) + 1) Gd9
    refine aw_vret rfl dX8_letter_41 ?_
    exact hq _ _ _ _ (Or.inl ⟨Int32.not_le.mp hc3, rfl⟩) F16 (fun _ _ => rfl) (fun _ _ _ _ => rfl) (am_fbU (by omega) (am_fbT fd9 (am_fbT fb2 am_fb0)))
