def endN (σ : (Nat → Int32) × (Nat → Int32) × Int32 × Int32) : Nat → Int32 := upd (upd (upd (upd (upd σ.1 (8 + 1 * 0) (hw (σ.1 8 + σ.2.1 0) 9)) (8 + 1 * 1) (hw (σ.1 9 + σ.2.1 1) 9)) (8 + 1 * 2) (hw (σ.1 10 + σ.2.1 2) 9)) (8 + 1 * 3) (hw (σ.1 11 + σ.2.1 3) 9)) 3 (hw (σ.1 3 + σ.2.2.1) 99)
def postR (fr : Nat) (tb : TB) (tx : List Value) (lk : Nat → Int32) (wo : Int32) (N N' : Nat → Int32) (s : Int32) : Prop := ∃ σ, LSr tb tx lk wo fr 0 (N, (fun _ => 0), 0, 0) σ ∧ N' = endN σ ∧ s = σ.2.2.2
theorem ls_keep {tb : TB} {tx : List Value} {lk : Nat → Int32} {wo : Int32} {k : Nat} (hk0 : k ≠ 0) (hk6 : k ≠ 6) (hk1 : ∀ f, k ≠ 25 + 5 * f) (hk2 : ∀ f, k ≠ 26 + 5 * f) : ∀ {m i : Nat} {σ σ' : (Nat → Int32) × (Nat → Int32) × Int32 × Int32}, LSr tb tx lk wo m i σ σ' → σ'.1 k = σ.1 k
  | 0, _, _, _, h => by rw [show _ = _ from h]
  | m + 1, i, σ, σ', h => by
    obtain ⟨σ1, h1, h2⟩ := h
    refine (ls_keep hk0 hk6 hk1 hk2 h2).trans ?_
    rcases h1 with ⟨-, rfl⟩ | ⟨-, h1⟩
    · rfl
    · exact let_keep hk0 hk6 (hk1 i) (hk2 i) h1
def keepK (k : Nat) : Prop := k ≠ 0 ∧ k ≠ 6 ∧ k ≠ 3 ∧ (k < 8 ∨ 12 ≤ k) ∧ (∀ f, k ≠ 25 + 5 * f) ∧ (∀ f, k ≠ 26 + 5 * f)
theorem post_keep {fr : Nat} {tb : TB} {tx : List Value} {lk : Nat → Int32} {wo s : Int32} {N N' : Nat → Int32} {k : Nat} (hk : keepK k) (h : postR fr tb tx lk wo N N' s) : N' k = N k := by
  obtain ⟨σ, h1, rfl, -⟩ := h
  obtain ⟨a1, a2, a3, a4, a5, a6⟩ := hk
  refine Eq.trans ?_ (ls_keep a1 a2 a5 a6 h1)
  unfold endN
  rw [pk_un (by omega), pk_un (by omega), pk_un (by omega), pk_un (by omega), pk_un (by omega)]
def runR (fr : Nat) (tb : TB) (tx : List Value) (lk : Nat → Int32) (wo : Int32) : Nat → (Nat → Int32) → Int32 → (Nat → Int32) → Int32 → Prop
  | 0, N, s, N', s' => N' = N ∧ s' = s
  | m + 1, N, s, N', s' => ((peace N ∨ duel N) ∧ N' = N ∧ s' = s) ∨ (¬ peace N ∧ ¬ duel N ∧ ∃ N1 s1, postR fr tb tx lk wo N N1 s1 ∧ runR fr tb tx lk wo m N1 (s + s1) N' s')
theorem run_keep {fr : Nat} {tb : TB} {tx : List Value} {lk : Nat → Int32} {wo : Int32} {k : Nat} (hk : keepK k) : ∀ {m : Nat} {N N' : Nat → Int32} {s s' : Int32}, runR fr tb tx lk wo m N s N' s' → N' k = N k
  | 0, _, _, _, _, h => by rw [h.1]
  | m + 1, N, N', s, s', h => by
    rcases h with ⟨-, rfl, -⟩ | ⟨-, -, N1, s1, h1, h2⟩
    · rfl
    · exact (run_keep hk h2).trans (post_keep hk h1)
set_option maxHeartbeats 4000000 in
set_option maxRecDepth 100000 in
theorem g_write {X : List Int32} {d rc rs n : Nat} {Q : am_Q} {b : Nat} {N : Nat → Int32} {tx : List Value} {lk mv : Nat → Int32} {h : am_H} {fr c : Nat} {wo : Int32} {tb : TB} (F : QR b N tx lk mv h) (G : TT tb h) (hF : N 1 = nI fr) (hfr : fr ≤ 8) (hc7 : N 7 = nI c) (hv : TXv tb.1 c tx) (hK : WK N) (hb : b + 12 ≤ 92) (hq : ∀ N9 s9 mv9 h9, postR fr tb tx lk wo N N9 s9 → QR b N9 tx lk mv9 h9 → TT tb h9 → am_f2 b h9 h → Q (some (.int s9)) n h9) : AW X mX0_writeLetters (d + 12) rc rs 0 [some (.ref b), some (.int wo), none, none, none, none] [] n h Q := by
  refine aw_aload_n (npc := 1) rfl dX0_writeLetters_0 rfl ?_
  refine aw_get (npc := 4) dX0_writeLetters_1 rfl kf_X0_70 F.1 rfl ?_
  refine aw_iconst (npc := 5) (v := 0) (by decide) dX0_writeLetters_4 rfl ?_
  refine aw_callS (npc := 8) (N := mJ7_fill_53178) (mc := 0) (ms := 0) (A := [.ref (b + 11), .int 0]) (S := []) (L0 := [some (.ref (b + 11)), some (.int 0), none, none]) dX0_writeLetters_5 rfl km_J7_fill_53178 kk_X0_127 rfl ⟨rfl, by decide⟩ rfl (Nat.le_of_ble_eq_true rfl) (Nat.zero_add _) (Nat.zero_add _) rfl ?_
  refine aw_iconst (npc := 1) (v := 0) (by decide) dJ7_fill_53178_0 rfl ?_
  refine aw_istore_n (npc := 2) (L' := [some (.ref (b + 11)), some (.int 0), some (.int 0), none]) dJ7_fill_53178_1 rfl (by decide) rfl rfl ?_
  refine aw_aload_n (npc := 3) rfl dJ7_fill_53178_2 rfl ?_
  refine aw_alen (npc := 4) (v := 4) dJ7_fill_53178_3 rfl F.2.2.2.2.2.2.2.2.2.2.2 (by rw [tl_len]; rfl) ?_
  refine aw_istore_n (npc := 5) (L' := [some (.ref (b + 11)), some (.int 0), some (.int 0), some (.int 4)]) dJ7_fill_53178_4 rfl (by decide) rfl rfl ?_
  refine aw_iload_n (npc := 6) rfl dJ7_fill_53178_5 rfl ?_
  refine aw_iload_n (npc := 7) rfl dJ7_fill_53178_6 rfl ?_
  refine aw_icmp_ge (npc := 10) (tgt := 20) dJ7_fill_53178_7 rfl (by decide) (fun hc => absurd hc (by decide)) (fun _ => ?_)
  refine aw_aload_n (npc := 11) rfl dJ7_fill_53178_10 rfl ?_
  refine aw_iload_n (npc := 12) rfl dJ7_fill_53178_11 rfl ?_
  refine aw_iload_n (npc := 13) rfl dJ7_fill_53178_12 rfl ?_
  refine aw_iast (npc := 14) (j := 0) dJ7_fill_53178_13 rfl F.2.2.2.2.2.2.2.2.2.2.2 ⟨by decide, by decide⟩ (by rw [tl_len]; omega) rfl ?_
  have F1 := qr_moves (j := 0) (v := 0) F
  have G2 := tt_out (k := b + 11) (c := .inl (0, (tl 4 mv).set 0 0)) (by omega) G
  refine aw_iinc (npc := 17) (v := 1) (L' := [some (.ref (b + 11)), some (.int 0), some (.int 1), some (.int 4)]) dJ7_fill_53178_14 rfl rfl (by decide) (by decide) rfl rfl ?_
  refine aw_goto (npc := 5) dJ7_fill_53178_17 (by decide) ?_
  refine aw_iload_n (npc := 6) rfl dJ7_fill_53178_5 rfl ?_
  refine aw_iload_n (npc := 7) rfl dJ7_fill_53178_6 rfl ?_
  refine aw_icmp_ge (npc := 10) (tgt := 20) dJ7_fill_53178_7 rfl (by decide) (fun hc => absurd hc (by decide)) (fun _ => ?_)
  refine aw_aload_n (npc := 11) rfl dJ7_fill_53178_10 rfl ?_
  refine aw_iload_n (npc := 12) rfl dJ7_fill_53178_11 rfl ?_
  refine aw_iload_n (npc := 13) rfl dJ7_fill_53178_12 rfl ?_
  refine aw_iast (npc := 14) (j := 1) dJ7_fill_53178_13 rfl F1.2.2.2.2.2.2.2.2.2.2.2 ⟨by decide, by decide⟩ (by rw [tl_len]; omega) rfl ?_
  have F3 := qr_moves (j := 1) (v := 0) F1
  have G4 := tt_out (k := b + 11) (c := .inl (0, (tl 4 (upd mv 0 0)).set 1 0)) (by omega) G2
  refine aw_iinc (npc := 17) (v := 2) (L' := [some (.ref (b + 11)), some (.int 0), some (.int 2), some (.int 4)]) dJ7_fill_53178_14 rfl rfl (by decide) (by decide) rfl rfl ?_
  refine aw_goto (npc := 5) dJ7_fill_53178_17 (by decide) ?_
  refine aw_iload_n (npc := 6) rfl dJ7_fill_53178_5 rfl ?_
  refine aw_iload_n (npc := 7) rfl dJ7_fill_53178_6 rfl ?_
  refine aw_icmp_ge (npc := 10) (tgt := 20) dJ7_fill_53178_7 rfl (by decide) (fun hc => absurd hc (by decide)) (fun _ => ?_)
  refine aw_aload_n (npc := 11) rfl dJ7_fill_53178_10 rfl ?_
  refine aw_iload_n (npc := 12) rfl dJ7_fill_53178_11 rfl ?_
  refine aw_iload_n (npc := 13) rfl dJ7_fill_53178_12 rfl ?_
  refine aw_iast (npc := 14) (j := 2) dJ7_fill_53178_13 rfl F3.2.2.2.2.2.2.2.2.2.2.2 ⟨by decide, by decide⟩ (by rw [tl_len]; omega) rfl ?_
  have F5 := qr_moves (j := 2) (v := 0) F3
  have G6 := tt_out (k := b + 11) (c := .inl (0, (tl 4 (upd (upd mv 0 0) 1 0)).set 2 0)) (by omega) G4
  refine aw_iinc (npc := 17) (v := 3) (L' := [some (.ref (b + 11)), some (.int 0), some (.int 3), some (.int 4)]) dJ7_fill_53178_14 rfl rfl (by decide) (by decide) rfl rfl ?_
  refine aw_goto (npc := 5) dJ7_fill_53178_17 (by decide) ?_
  refine aw_iload_n (npc := 6) rfl dJ7_fill_53178_5 rfl ?_
  refine aw_iload_n (npc := 7) rfl dJ7_fill_53178_6 rfl ?_
  refine aw_icmp_ge (npc := 10) (tgt := 20) dJ7_fill_53178_7 rfl (by decide) (fun hc => absurd hc (by decide)) (fun _ => ?_)
  refine aw_aload_n (npc := 11) rfl dJ7_fill_53178_10 rfl ?_
  refine aw_iload_n (npc := 12) rfl dJ7_fill_53178_11 rfl ?_
  refine aw_iload_n (npc := 13) rfl dJ7_fill_53178_12 rfl ?_
  refine aw_iast (npc := 14) (j := 3) dJ7_fill_53178_13 rfl F5.2.2.2.2.2.2.2.2.2.2.2 ⟨by decide, by decide⟩ (by rw [tl_len]; omega) rfl ?_
  have F7 := qr_moves (j := 3) (v := 0) F5
  have G8 := tt_out (k := b + 11) (c := .inl (0, (tl 4 (upd (upd (upd mv 0 0) 1 0) 2 0)).set 3 0)) (by omega) G6
  refine aw_iinc (npc := 17) (v := 4) (L' := [some (.ref (b + 11)), some (.int 0), some (.int 4), some (.int 4)]) dJ7_fill_53178_14 rfl rfl (by decide) (by decide) rfl rfl ?_
  refine aw_goto (npc := 5) dJ7_fill_53178_17 (by decide) ?_
  refine aw_iload_n (npc := 6) rfl dJ7_fill_53178_5 rfl ?_
  refine aw_iload_n (npc := 7) rfl dJ7_fill_53178_6 rfl ?_
  refine aw_icmp_ge (npc := 10) (tgt := 20) dJ7_fill_53178_7 rfl (by decide) (fun _ => ?_) (fun hc => absurd (by decide) hc)
  refine aw_vret rfl dJ7_fill_53178_20 ?_
  refine aw_iconst (npc := 9) (v := 0) (by decide) dX0_writeLetters_8 rfl ?_
  refine aw_istore_n (npc := 10) (L' := [some (.ref b), some (.int wo), some (.int 0), none, none, none]) dX0_writeLetters_9 rfl (by decide) rfl rfl ?_
  refine aw_iconst (npc := 11) (v := 0) (by decide) dX0_writeLetters_10 rfl ?_
  refine aw_istore_n (npc := 12) (L' := [some (.ref b), some (.int wo), some (.int 0), some (.int 0), none, none]) dX0_writeLetters_11 rfl (by decide) rfl rfl ?_
  refine aw_iconst (npc := 13) (v := 0) (by decide) dX0_writeLetters_12 rfl ?_
  refine aw_istore (npc := 15) (L' := [some (.ref b), some (.int wo), some (.int 0), some (.int 0), some (.int 0), none]) dX0_writeLetters_13 rfl (by decide) rfl rfl ?_
  have F9 := qr_mv (mv' := fun _ => 0) (fun i hi => by rcases (show i = 0 ∨ i = 1 ∨ i = 2 ∨ i = 3 by omega) with rfl | rfl | rfl | rfl <;> rfl) F7
  refine aw_locs (L' := [some (.ref b), some (.int wo), some (.int 0), some (.int 0), some (.int (nI 0)), none]) rfl ?_
  refine g_letL hF hfr hc7 hv hK hb fr 0 (by omega) N (fun _ => 0) 0 0 none _ F9 G8 (fun _ _ _ _ _ => rfl) (fun σ h9 v9 hL F9 G9 fz => ?_)
  refine aw_iconst (npc := 153) (v := 0) (by decide) dX0_writeLetters_152 rfl ?_
  refine aw_istore (npc := 155) (L' := [some (.ref b), some (.int wo), some (.int σ.2.2.1), some (.int σ.2.2.2), some (.int 0), v9]) dX0_writeLetters_153 rfl (by decide) rfl rfl ?_
  refine aw_iload (npc := 157) rfl dX0_writeLetters_155 rfl ?_
  refine aw_iconst (npc := 158) (v := 4) (by decide) dX0_writeLetters_157 rfl ?_
  refine aw_icmp_ge (npc := 161) (tgt := 194) dX0_writeLetters_158 rfl (by decide) (fun hc => absurd hc (by decide)) (fun _ => ?_)
  refine aw_aload_n (npc := 162) rfl dX0_writeLetters_161 rfl ?_
  refine aw_get (npc := 165) dX0_writeLetters_162 rfl kf_X0_9 F9.1 rfl ?_
  refine aw_iload (npc := 167) rfl dX0_writeLetters_165 rfl ?_
  refine aw_aload_n (npc := 168) rfl dX0_writeLetters_167 rfl ?_
  refine aw_get (npc := 171) dX0_writeLetters_168 rfl kf_X0_9 F9.1 rfl ?_
  refine aw_iload (npc := 173) rfl dX0_writeLetters_171 rfl ?_
  refine aw_iald (npc := 174) (x := σ.1 8) (j := 0) dX0_writeLetters_173 rfl F9.2.1 ⟨by decide, by decide⟩ (tl_at (by omega)) ?_
  refine aw_aload_n (npc := 175) rfl dX0_writeLetters_174 rfl ?_
  refine aw_get (npc := 178) dX0_writeLetters_175 rfl kf_X0_70 F9.1 rfl ?_
  refine aw_iload (npc := 180) rfl dX0_writeLetters_178 rfl ?_
  refine aw_iald (npc := 181) (x := σ.2.1 0) (j := 0) dX0_writeLetters_180 rfl F9.2.2.2.2.2.2.2.2.2.2.2 ⟨by decide, by decide⟩ (tl_at (by omega)) ?_
  refine aw_iadd (npc := 182) dX0_writeLetters_181 rfl ?_
  refine aw_bipush (npc := 184) (v := 9) (by decide) dX0_writeLetters_182 rfl ?_
  refine aw_callSN (npc := 187) (N := mX7_heldWithin) (mc := 0) (ms := 0) (A := [.int ((σ.1 8) + (σ.2.1 0)), .int 9]) (S := [.int 0, .ref (b + 1)]) (L0 := [some (.int ((σ.1 8) + (σ.2.1 0))), some (.int 9)]) dX0_writeLetters_184 rfl km_X7_heldWithin kk_X0_114 rfl ⟨rfl, by decide⟩ rfl (Nat.le_of_ble_eq_true rfl) (Nat.zero_add _) (Nat.zero_add _) rfl ?_
  refine g_held ?_
  refine aw_re (S' := [.int (hw ((σ.1 8) + (σ.2.1 0)) 9), .int 0, .ref (b + 1)]) rfl ?_
  refine aw_iast (npc := 188) (j := 0) dX0_writeLetters_187 rfl F9.2.1 ⟨by decide, by decide⟩ (by rw [tl_len]; omega) rfl ?_
  have F10 := qr_stand (j := 0) (v := hw ((σ.1 8) + (σ.2.1 0)) 9) F9 (by omega)
  have G11 := tt_out (k := b + 1) (c := .inl (0, (tl 4 (fun z9 => σ.1 (8 + 1 * z9))).set 0 (hw ((σ.1 8) + (σ.2.1 0)) 9))) (by omega) G9
  refine aw_iinc (npc := 191) (v := 1) (L' := [some (.ref b), some (.int wo), some (.int σ.2.2.1), some (.int σ.2.2.2), some (.int 1), v9]) dX0_writeLetters_188 rfl rfl (by decide) (by decide) rfl rfl ?_
  refine aw_goto (npc := 155) dX0_writeLetters_191 (by decide) ?_
  refine aw_iload (npc := 157) rfl dX0_writeLetters_155 rfl ?_
  refine aw_iconst (npc := 158) (v := 4) (by decide) dX0_writeLetters_157 rfl ?_
  refine aw_icmp_ge (npc := 161) (tgt := 194) dX0_writeLetters_158 rfl (by decide) (fun hc => absurd hc (by decide)) (fun _ => ?_)
  refine aw_aload_n (npc := 162) rfl dX0_writeLetters_161 rfl ?_
  refine aw_get (npc := 165) dX0_writeLetters_162 rfl kf_X0_9 F10.1 rfl ?_
  refine aw_iload (npc := 167) rfl dX0_writeLetters_165 rfl ?_
  refine aw_aload_n (npc := 168) rfl dX0_writeLetters_167 rfl ?_
  refine aw_get (npc := 171) dX0_writeLetters_168 rfl kf_X0_9 F10.1 rfl ?_
  refine aw_iload (npc := 173) rfl dX0_writeLetters_171 rfl ?_
  refine aw_iald (npc := 174) (x := (upd σ.1 (8 + 1 * 0) (hw ((σ.1 8) + (σ.2.1 0)) 9)) 9) (j := 1) dX0_writeLetters_173 rfl F10.2.1 ⟨by decide, by decide⟩ (tl_at (by omega)) ?_
  refine aw_top (y := σ.1 9) ((pk_un (by omega))) ?_
  refine aw_aload_n (npc := 175) rfl dX0_writeLetters_174 rfl ?_
  refine aw_get (npc := 178) dX0_writeLetters_175 rfl kf_X0_70 F10.1 rfl ?_
  refine aw_iload (npc := 180) rfl dX0_writeLetters_178 rfl ?_
  refine aw_iald (npc := 181) (x := σ.2.1 1) (j := 1) dX0_writeLetters_180 rfl F10.2.2.2.2.2.2.2.2.2.2.2 ⟨by decide, by decide⟩ (tl_at (by omega)) ?_
  refine aw_iadd (npc := 182) dX0_writeLetters_181 rfl ?_
  refine aw_bipush (npc := 184) (v := 9) (by decide) dX0_writeLetters_182 rfl ?_
  refine aw_callSN (npc := 187) (N := mX7_heldWithin) (mc := 0) (ms := 0) (A := [.int ((σ.1 9) + (σ.2.1 1)), .int 9]) (S := [.int 1, .ref (b + 1)]) (L0 := [some (.int ((σ.1 9) + (σ.2.1 1))), some (.int 9)]) dX0_writeLetters_184 rfl km_X7_heldWithin kk_X0_114 rfl ⟨rfl, by decide⟩ rfl (Nat.le_of_ble_eq_true rfl) (Nat.zero_add _) (Nat.zero_add _) rfl ?_
  refine g_held ?_
  refine aw_re (S' := [.int (hw ((σ.1 9) + (σ.2.1 1)) 9), .int 1, .ref (b + 1)]) rfl ?_
  refine aw_iast (npc := 188) (j := 1) dX0_writeLetters_187 rfl F10.2.1 ⟨by decide, by decide⟩ (by rw [tl_len]; omega) rfl ?_
  have F12 := qr_stand (j := 1) (v := hw ((σ.1 9) + (σ.2.1 1)) 9) F10 (by omega)
  have G13 := tt_out (k := b + 1) (c := .inl (0, (tl 4 (fun z9 => (upd σ.1 (8 + 1 * 0) (hw ((σ.1 8) + (σ.2.1 0)) 9)) (8 + 1 * z9))).set 1 (hw ((σ.1 9) + (σ.2.1 1)) 9))) (by omega) G11
  refine aw_iinc (npc := 191) (v := 2) (L' := [some (.ref b), some (.int wo), some (.int σ.2.2.1), some (.int σ.2.2.2), some (.int 2), v9]) dX0_writeLetters_188 rfl rfl (by decide) (by decide) rfl rfl ?_
  refine aw_goto (npc := 155) dX0_writeLetters_191 (by decide) ?_
  refine aw_iload (npc := 157) rfl dX0_writeLetters_155 rfl ?_
  refine aw_iconst (npc := 158) (v := 4) (by decide) dX0_writeLetters_157 rfl ?_
  refine aw_icmp_ge (npc := 161) (tgt := 194) dX0_writeLetters_158 rfl (by decide) (fun hc => absurd hc (by decide)) (fun _ => ?_)
  refine aw_aload_n (npc := 162) rfl dX0_writeLetters_161 rfl ?_
  refine aw_get (npc := 165) dX0_writeLetters_162 rfl kf_X0_9 F12.1 rfl ?_
  refine aw_iload (npc := 167) rfl dX0_writeLetters_165 rfl ?_
  refine aw_aload_n (npc := 168) rfl dX0_writeLetters_167 rfl ?_
  refine aw_get (npc := 171) dX0_writeLetters_168 rfl kf_X0_9 F12.1 rfl ?_
  refine aw_iload (npc := 173) rfl dX0_writeLetters_171 rfl ?_
  refine aw_iald (npc := 174) (x := (upd (upd σ.1 (8 + 1 * 0) (hw ((σ.1 8) + (σ.2.1 0)) 9)) (8 + 1 * 1) (hw ((σ.1 9) + (σ.2.1 1)) 9)) 10) (j := 2) dX0_writeLetters_173 rfl F12.2.1 ⟨by decide, by decide⟩ (tl_at (by omega)) ?_
  refine aw_top (y := σ.1 10) (((pk_un (by omega))).trans (pk_un (by omega))) ?_
  refine aw_aload_n (npc := 175) rfl dX0_writeLetters_174 rfl ?_
  refine aw_get (npc := 178) dX0_writeLetters_175 rfl kf_X0_70 F12.1 rfl ?_
  refine aw_iload (npc := 180) rfl dX0_writeLetters_178 rfl ?_
  refine aw_iald (npc := 181) (x := σ.2.1 2) (j := 2) dX0_writeLetters_180 rfl F12.2.2.2.2.2.2.2.2.2.2.2 ⟨by decide, by decide⟩ (tl_at (by omega)) ?_
  refine aw_iadd (npc := 182) dX0_writeLetters_181 rfl ?_
  refine aw_bipush (npc := 184) (v := 9) (by decide) dX0_writeLetters_182 rfl ?_
  refine aw_callSN (npc := 187) (N := mX7_heldWithin) (mc := 0) (ms := 0) (A := [.int ((σ.1 10) + (σ.2.1 2)), .int 9]) (S := [.int 2, .ref (b + 1)]) (L0 := [some (.int ((σ.1 10) + (σ.2.1 2))), some (.int 9)]) dX0_writeLetters_184 rfl km_X7_heldWithin kk_X0_114 rfl ⟨rfl, by decide⟩ rfl (Nat.le_of_ble_eq_true rfl) (Nat.zero_add _) (Nat.zero_add _) rfl ?_
  refine g_held ?_
  refine aw_re (S' := [.int (hw ((σ.1 10) + (σ.2.1 2)) 9), .int 2, .ref (b + 1)]) rfl ?_
  refine aw_iast (npc := 188) (j := 2) dX0_writeLetters_187 rfl F12.2.1 ⟨by decide, by decide⟩ (by rw [tl_len]; omega) rfl ?_
  have F14 := qr_stand (j := 2) (v := hw ((σ.1 10) + (σ.2.1 2)) 9) F12 (by omega)
  have G15 := tt_out (k := b + 1) (c := .inl (0, (tl 4 (fun z9 => (upd (upd σ.1 (8 + 1 * 0) (hw ((σ.1 8) + (σ.2.1 0)) 9)) (8 + 1 * 1) (hw ((σ.1 9) + (σ.2.1 1)) 9)) (8 + 1 * z9))).set 2 (hw ((σ.1 10) + (σ.2.1 2)) 9))) (by omega) G13
  refine aw_iinc (npc := 191) (v := 3) (L' := [some (.ref b), some (.int wo), some (.int σ.2.2.1), some (.int σ.2.2.2), some (.int 3), v9]) dX0_writeLetters_188 rfl rfl (by decide) (by decide) rfl rfl ?_
  refine aw_goto (npc := 155) dX0_writeLetters_191 (by decide) ?_
  refine aw_iload (npc := 157) rfl dX0_writeLetters_155 rfl ?_
  refine aw_iconst (npc := 158) (v := 4) (by decide) dX0_writeLetters_157 rfl ?_
  refine aw_icmp_ge (npc := 161) (tgt := 194) dX0_writeLetters_158 rfl (by decide) (fun hc => absurd hc (by decide)) (fun _ => ?_)
  refine aw_aload_n (npc := 162) rfl dX0_writeLetters_161 rfl ?_
  refine aw_get (npc := 165) dX0_writeLetters_162 rfl kf_X0_9 F14.1 rfl ?_
  refine aw_iload (npc := 167) rfl dX0_writeLetters_165 rfl ?_
  refine aw_aload_n (npc := 168) rfl dX0_writeLetters_167 rfl ?_
  refine aw_get (npc := 171) dX0_writeLetters_168 rfl kf_X0_9 F14.1 rfl ?_
  refine aw_iload (npc := 173) rfl dX0_writeLetters_171 rfl ?_
  refine aw_iald (npc := 174) (x := (upd (upd (upd σ.1 (8 + 1 * 0) (hw ((σ.1 8) + (σ.2.1 0)) 9)) (8 + 1 * 1) (hw ((σ.1 9) + (σ.2.1 1)) 9)) (8 + 1 * 2) (hw ((σ.1 10) + (σ.2.1 2)) 9)) 11) (j := 3) dX0_writeLetters_173 rfl F14.2.1 ⟨by decide, by decide⟩ (tl_at (by omega)) ?_
  refine aw_top (y := σ.1 11) ((((pk_un (by omega))).trans (pk_un (by omega))).trans (pk_un (by omega))) ?_
  refine aw_aload_n (npc := 175) rfl dX0_writeLetters_174 rfl ?_
  refine aw_get (npc := 178) dX0_writeLetters_175 rfl kf_X0_70 F14.1 rfl ?_
  refine aw_iload (npc := 180) rfl dX0_writeLetters_178 rfl ?_
  refine aw_iald (npc := 181) (x := σ.2.1 3) (j := 3) dX0_writeLetters_180 rfl F14.2.2.2.2.2.2.2.2.2.2.2 ⟨by decide, by decide⟩ (tl_at (by omega)) ?_
  refine aw_iadd (npc := 182) dX0_writeLetters_181 rfl ?_
  refine aw_bipush (npc := 184) (v := 9) (by decide) dX0_writeLetters_182 rfl ?_
  refine aw_callSN (npc := 187) (N := mX7_heldWithin) (mc := 0) (ms := 0) (A := [.int ((σ.1 11) + (σ.2.1 3)), .int 9]) (S := [.int 3, .ref (b + 1)]) (L0 := [some (.int ((σ.1 11) + (σ.2.1 3))), some (.int 9)]) dX0_writeLetters_184 rfl km_X7_heldWithin kk_X0_114 rfl ⟨rfl, by decide⟩ rfl (Nat.le_of_ble_eq_true rfl) (Nat.zero_add _) (Nat.zero_add _) rfl ?_
  refine g_held ?_
  refine aw_re (S' := [.int (hw ((σ.1 11) + (σ.2.1 3)) 9), .int 3, .ref (b + 1)]) rfl ?_
  refine aw_iast (npc := 188) (j := 3) dX0_writeLetters_187 rfl F14.2.1 ⟨by decide, by decide⟩ (by rw [tl_len]; omega) rfl ?_
  have F16 := qr_stand (j := 3) (v := hw ((σ.1 11) + (σ.2.1 3)) 9) F14 (by omega)
  have G17 := tt_out (k := b + 1) (c := .inl (0, (tl 4 (fun z9 => (upd (upd (upd σ.1 (8 + 1 * 0) (hw ((σ.1 8) + (σ.2.1 0)) 9)) (8 + 1 * 1) (hw ((σ.1 9) + (σ.2.1 1)) 9)) (8 + 1 * 2) (hw ((σ.1 10) + (σ.2.1 2)) 9)) (8 + 1 * z9))).set 3 (hw ((σ.1 11) + (σ.2.1 3)) 9))) (by omega) G15
  refine aw_iinc (npc := 191) (v := 4) (L' := [some (.ref b), some (.int wo), some (.int σ.2.2.1), some (.int σ.2.2.2), some (.int 4), v9]) dX0_writeLetters_188 rfl rfl (by decide) (by decide) rfl rfl ?_
  refine aw_goto (npc := 155) dX0_writeLetters_191 (by decide) ?_
  refine aw_iload (npc := 157) rfl dX0_writeLetters_155 rfl ?_
  refine aw_iconst (npc := 158) (v := 4) (by decide) dX0_writeLetters_157 rfl ?_
  refine aw_icmp_ge (npc := 161) (tgt := 194) dX0_writeLetters_158 rfl (by decide) (fun _ => ?_) (fun hc => absurd (by decide) hc)
  refine aw_aload_n (npc := 195) rfl dX0_writeLetters_194 rfl ?_
  refine aw_aload_n (npc := 196) rfl dX0_writeLetters_195 rfl ?_
  refine aw_get (npc := 199) dX0_writeLetters_196 rfl kf_X0_21 F16.1 rfl ?_
  refine aw_top (y := σ.1 3) (((((pk_un (by omega))).trans (pk_un (by omega))).trans (pk_un (by omega))).trans (pk_un (by omega))) ?_
  refine aw_iload_n (npc := 200) rfl dX0_writeLetters_199 rfl ?_
  refine aw_iadd (npc := 201) dX0_writeLetters_200 rfl ?_
  refine aw_bipush (npc := 203) (v := 99) (by decide) dX0_writeLetters_201 rfl ?_
  refine aw_callSN (npc := 206) (N := mX7_heldWithin) (mc := 0) (ms := 0) (A := [.int ((σ.1 3) + σ.2.2.1), .int 99]) (S := [.ref b]) (L0 := [some (.int ((σ.1 3) + σ.2.2.1)), some (.int 99)]) dX0_writeLetters_203 rfl km_X7_heldWithin kk_X0_114 rfl ⟨rfl, by decide⟩ rfl (Nat.le_of_ble_eq_true rfl) (Nat.zero_add _) (Nat.zero_add _) rfl ?_
  refine g_held ?_
  refine aw_re (S' := [.int (hw ((σ.1 3) + σ.2.2.1) 99), .ref b]) rfl ?_
  refine aw_put (npc := 209) dX0_writeLetters_206 rfl kf_X0_21 F16.1 (Nat.le_of_ble_eq_true rfl) (am_ok_int _) rfl ?_
  have F18 := qr_heat (v := hw ((σ.1 3) + σ.2.2.1) 99) F16
  have G19 := tt_out (k := b) (c := .inr (0, (QO b (upd (upd (upd (upd σ.1 (8 + 1 * 0) (hw ((σ.1 8) + (σ.2.1 0)) 9)) (8 + 1 * 1) (hw ((σ.1 9) + (σ.2.1 1)) 9)) (8 + 1 * 2) (hw ((σ.1 10) + (σ.2.1 2)) 9)) (8 + 1 * 3) (hw ((σ.1 11) + (σ.2.1 3)) 9))).set 3 (.int (hw ((σ.1 3) + σ.2.2.1) 99)))) (by omega) G17
  refine aw_iload_n (npc := 210) rfl dX0_writeLetters_209 rfl ?_
  refine aw_iret rfl dX0_writeLetters_210 ?_
  exact hq (endN σ) _ _ _ ⟨σ, hL, rfl, rfl⟩ F18 G19 (am_f2U (by omega) (am_f2U (by omega) (am_f2U (by omega) (am_f2U (by omega) (am_f2U (by omega) (am_f2T fz (am_f2U (by omega) (am_f2U (by omega) (am_f2U (by omega) (am_f2U (by omega) am_f20))))))))))
set_option maxHeartbeats 4000000 in
set_option maxRecDepth 100000 in
theorem g_runL {X : List Int32} {d rc rs n : Nat} {Q : am_Q} {b : Nat} {tx : List Value} {lk : Nat → Int32} {fr c : Nat} {wo : Int32} {tb : TB} {N0 : Nat → Int32} (hF : N0 1 = nI fr) (hfr : fr ≤ 8) (hc7 : N0 7 = nI c) (hv : TXv tb.1 c tx) (hK : WK N0) (hb : b + 12 ≤ 92) {K : Nat} (hKK : K < 1000) : ∀ (m j : Nat), j + m = K → ∀ (N : Nat → Int32) (s : Int32) (mv : Nat → Int32) (h : am_H), QR b N tx lk mv h → TT tb h → (∀ k, keepK k → N k = N0 k) → (∀ (N9 : Nat → Int32) (s9 : Int32) (mv9 : Nat → Int32) (i9 : Int32) (h9 : am_H), runR fr tb tx lk wo m N s N9 s9 → QR b N9 tx lk mv9 h9 → TT tb h9 → am_f2 b h9 h → AW X mX0_runPosts (d + 14) rc rs 39 [some (.ref b), some (.int (nI K)), some (.int wo), some (.int s9), some (.int i9)] [] n h9 Q) → AW X mX0_runPosts (d + 14) rc rs 5 [some (.ref b), some (.int (nI K)), some (.int wo), some (.int s), some (.int (nI j))] [] n h Q := by
  intro m
  induction m with
  | zero =>
    intro j hj N s mv h F G hkp hq
    obtain rfl : j = K := by omega
    refine aw_iload (npc := 7) rfl dX0_runPosts_5 rfl ?_
    refine aw_iload_n (npc := 8) rfl dX0_runPosts_7 rfl ?_
    exact aw_icmp_ge (npc := 11) (tgt := 39) dX0_runPosts_8 rfl (by decide) (fun _ => hq N s mv _ h ⟨rfl, rfl⟩ F G am_f20) (fun hc => absurd (nI_le (Nat.le_refl _) (by omega)) hc)
  | succ m ih =>
    intro j hj N s mv h F G hkp hq
    have hKN : WK N := fun f hf => by
      rw [hkp (22 + 5 * f) ⟨by omega, by omega, by omega, by omega, by omega, by omega⟩, hkp (23 + 5 * f) ⟨by omega, by omega, by omega, by omega, by omega, by omega⟩]
      exact hK f hf
    refine aw_iload (npc := 7) rfl dX0_runPosts_5 rfl ?_
    refine aw_iload_n (npc := 8) rfl dX0_runPosts_7 rfl ?_
    refine aw_icmp_ge (npc := 11) (tgt := 39) dX0_runPosts_8 rfl (by decide) (fun hc => absurd hc (nI_ge (a := j) (b := K) (by omega) (by omega))) (fun _ => ?_)
    refine aw_aload_n (npc := 12) rfl dX0_runPosts_11 rfl ?_
    refine aw_callV (npc := 15) (N := mX0_isPeace) (b := b) (mc := 0) (ms := 0) (A := []) (S := []) (L0 := [some (.ref b)]) dX0_runPosts_12 rfl km_X0_isPeace kk_X0_117 F.1 ⟨by decide, rfl⟩ rfl ⟨rfl, by decide⟩ rfl (Nat.le_of_ble_eq_true rfl) (Nat.zero_add _) (Nat.zero_add _) rfl ?_
    refine g_peace F (fun hp2 => ?_) (fun hp2 => ?_)
    · refine aw_re (S' := [.int 1]) rfl ?_
      refine aw_if_ne (npc := 18) (tgt := 39) dX0_runPosts_15 rfl (by decide) (fun _ => ?_) (fun hc => absurd hc (by decide))
      exact hq N s mv _ h (Or.inl ⟨Or.inl hp2, rfl, rfl⟩) F G am_f20
    · refine aw_re (S' := [.int 0]) rfl ?_
      refine aw_if_ne (npc := 18) (tgt := 39) dX0_runPosts_15 rfl (by decide) (fun hc => absurd (by decide) hc) (fun _ => ?_)
      refine aw_aload_n (npc := 19) rfl dX0_runPosts_18 rfl ?_
      refine aw_callV (npc := 22) (N := mX0_isDuel) (b := b) (mc := 0) (ms := 0) (A := []) (S := []) (L0 := [some (.ref b)]) dX0_runPosts_19 rfl km_X0_isDuel kk_X0_121 F.1 ⟨by decide, rfl⟩ rfl ⟨rfl, by decide⟩ rfl (Nat.le_of_ble_eq_true rfl) (Nat.zero_add _) (Nat.zero_add _) rfl ?_
      refine g_duel F (fun hd3 => ?_) (fun hd3 => ?_)
      · refine aw_re (S' := [.int 1]) rfl ?_
        refine aw_if_ne (npc := 25) (tgt := 39) dX0_runPosts_22 rfl (by decide) (fun _ => ?_) (fun hc => absurd hc (by decide))
        exact hq N s mv _ h (Or.inl ⟨Or.inr hd3, rfl, rfl⟩) F G am_f20
      · refine aw_re (S' := [.int 0]) rfl ?_
        refine aw_if_ne (npc := 25) (tgt := 39) dX0_runPosts_22 rfl (by decide) (fun hc => absurd (by decide) hc) (fun _ => ?_)
        refine aw_iload_n (npc := 26) rfl dX0_runPosts_25 rfl ?_
        refine aw_aload_n (npc := 27) rfl dX0_runPosts_26 rfl ?_
        refine aw_iload_n (npc := 28) rfl dX0_runPosts_27 rfl ?_
        refine aw_callV (npc := 31) (N := mX0_writeLetters) (b := b) (mc := 0) (ms := 0) (A := [.int wo]) (S := [.int s]) (L0 := [some (.ref b), some (.int wo), none, none, none, none]) dX0_runPosts_28 rfl km_X0_writeLetters kk_X0_124 F.1 ⟨by decide, rfl⟩ rfl ⟨rfl, by decide⟩ rfl (Nat.le_of_ble_eq_true rfl) (Nat.zero_add _) (Nat.zero_add _) rfl ?_
        refine g_write F G ((hkp 1 ⟨by omega, by omega, by omega, by omega, by omega, by omega⟩).trans hF) hfr ((hkp 7 ⟨by omega, by omega, by omega, by omega, by omega, by omega⟩).trans hc7) hv hKN hb (fun N9 s9 mv9 h9 hpo F9 G9 fz => ?_)
        refine aw_re (S' := [.int s9, .int s]) rfl ?_
        refine aw_iadd (npc := 32) dX0_runPosts_31 rfl ?_
        refine aw_istore_n (npc := 33) (L' := [some (.ref b), some (.int (nI K)), some (.int wo), some (.int (s + s9)), some (.int (nI j))]) dX0_runPosts_32 rfl (by decide) rfl rfl ?_
        refine aw_iinc (npc := 36) (v := nI (j + 1)) (L' := [some (.ref b), some (.int (nI K)), some (.int wo), some (.int (s + s9)), some (.int (nI (j + 1)))]) dX0_runPosts_33 rfl rfl (nI_1 _) (by decide) rfl rfl ?_
        refine aw_goto (npc := 5) dX0_runPosts_36 (by decide) ?_
        refine ih (j + 1) (by omega) N9 (s + s9) mv9 h9 F9 G9 (fun k hk => (post_keep hk hpo).trans (hkp k hk)) (fun N8 s8 mv8 i8 h8 hr F8 G8 f8 => hq N8 s8 mv8 i8 h8 (Or.inr ⟨hp2, hd3, N9, s9, hpo, hr⟩) F8 G8 (am_f2T f8 (am_f2T fz am_f20)))
set_option maxHeartbeats 4000000 in
set_option maxRecDepth 100000 in
theorem g_run {X : List Int32} {d rc rs n : Nat} {Q : am_Q} {b : Nat} {N : Nat → Int32} {tx : List Value} {lk mv : Nat → Int32} {h : am_H} {fr c : Nat} {wo : Int32} {tb : TB} (F : QR b N tx lk mv h) (G : TT tb h) (hF : N 1 = nI fr) (hfr : fr ≤ 8) (hc7 : N 7 = nI c) (hv : TXv tb.1 c tx) (hK : WK N) (hb : b + 12 ≤ 92) {K : Nat} (hKK : K < 1000) (hq : ∀ N9 s9 mv9 h9, runR fr tb tx lk wo K N 0 N9 s9 → QR b (upd N9 2 (N9 2 + nI K)) tx lk mv9 h9 → TT tb h9 → am_f2 b h9 h → Q (some (.int s9)) n h9) : AW X mX0_runPosts (d + 14) rc rs 0 [some (.ref b), some (.int (nI K)), some (.int wo), none, none] [] n h Q := by
  refine aw_iconst (npc := 1) (v := 0) (by decide) dX0_runPosts_0 rfl ?_
  refine aw_istore_n (npc := 2) (L' := [some (.ref b), some (.int (nI K)), some (.int wo), some (.int 0), none]) dX0_runPosts_1 rfl (by decide) rfl rfl ?_
  refine aw_iconst (npc := 3) (v := 0) (by decide) dX0_runPosts_2 rfl ?_
  refine aw_istore (npc := 5) (L' := [some (.ref b), some (.int (nI K)), some (.int wo), some (.int 0), some (.int 0)]) dX0_runPosts_3 rfl (by decide) rfl rfl ?_
  refine aw_locs (L' := [some (.ref b), some (.int (nI K)), some (.int wo), some (.int 0), some (.int (nI 0))]) rfl ?_
  refine g_runL hF hfr hc7 hv hK hb hKK K 0 (by omega) N 0 mv h F G (fun _ _ => rfl) (fun N9 s9 mv9 i9 h9 hr F9 G9 fz => ?_)
  refine aw_aload_n (npc := 40) rfl dX0_runPosts_39 rfl ?_
  refine aw_dup (npc := 41) rfl dX0_runPosts_40 rfl ?_
  refine aw_get (npc := 44) dX0_runPosts_41 rfl kf_X0_34 F9.1 rfl ?_
  refine aw_iload_n (npc := 45) rfl dX0_runPosts_44 rfl ?_
  refine aw_iadd (npc := 46) dX0_runPosts_45 rfl ?_
  refine aw_put (npc := 49) dX0_runPosts_46 rfl kf_X0_34 F9.1 (Nat.le_of_ble_eq_true rfl) (am_ok_int _) rfl ?_
  have F1 := qr_post (v := (N9 2) + (nI K)) F9
  have G2 := tt_out (k := b) (c := .inr (0, (QO b N9).set 7 (.int ((N9 2) + (nI K))))) (by omega) G9
  refine aw_iload_n (npc := 50) rfl dX0_runPosts_49 rfl ?_
  refine aw_iret rfl dX0_runPosts_50 ?_
  exact hq N9 s9 mv9 _ hr F1 G2 (am_f2U (by omega) fz)
