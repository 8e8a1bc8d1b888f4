def am_f2 (b : Nat) (h' h : am_H) : Prop := ∀ k, k < 92 → (k < b ∨ b + 12 ≤ k) → h' k = h k
theorem am_f20 {b : Nat} {h : am_H} : am_f2 b h h := fun _ _ _ => rfl
theorem am_f2U {b a : Nat} {h h' : am_H} {c : am_AC} (ha : b ≤ a ∧ a < b + 12) (hf : am_f2 b h' h) : am_f2 b (am_up h' a c) h := fun k h1 h2 => by
  rw [am_nE (by omega)]
  exact hf k h1 h2
theorem am_f2T {b : Nat} {h h' h'' : am_H} (h1 : am_f2 b h'' h') (h2 : am_f2 b h' h) : am_f2 b h'' h := fun k a c => (h1 k a c).trans (h2 k a c)
theorem am_f2B {b : Nat} {h h' : am_H} (h1 : am_fb b (b + 12) h' h) : am_f2 b h' h := fun k _ c => h1 k c
theorem am_f2C {b T : Nat} {h h' : am_H} (h1 : am_fb 92 (92 + 3 * T) h' h) : am_f2 b h' h := fun k a _ => h1 k (Or.inl a)
theorem qr_mv {b : Nat} {N : Nat → Int32} {tx : List Value} {lk mv mv' : Nat → Int32} {h : am_H} (hm : ∀ i, i < 4 → mv i = mv' i) (F : QR b N tx lk mv h) : QR b N tx lk mv' h := by
  obtain ⟨f0, f1, f2, f3, f4, f5, f6, f7, f8, f9, f10, f11⟩ := F
  exact ⟨f0, f1, f2, f3, f4, f5, f6, f7, f8, f9, f10, f11.trans (congrArg (fun l : List Int32 => (some (.inl (0, l)) : Option am_AC)) (tl_congr hm))⟩
def sentN (N : Nat → Int32) (f : Nat) : Nat → Int32 := upd N (25 + 5 * f) (N (25 + 5 * f) + 1)
def rem100 (x : Int32) : Int32 := x - x / 100 * 100
def letR (tb : TB) (tx : List Value) (lk : Nat → Int32) (f : Nat) (σ σ' : (Nat → Int32) × (Nat → Int32) × Int32 × Int32) : Prop :=
  (¬ (drawN (sentN σ.1 f)) 5 ≤ rem100 (drawV (sentN σ.1 f)) ∧ σ' = (upd (drawN (sentN σ.1 f)) 6 ((drawN (sentN σ.1 f)) 6 + 1), σ.2.1, σ.2.2.1, σ.2.2.2)) ∨
  ((drawN (sentN σ.1 f)) 5 ≤ rem100 (drawV (sentN σ.1 f)) ∧ ∃ τ, TNr tb tx lk (drawN (sentN σ.1 f)) f τ ∧
    ((¬ τ < 50 ∧ σ' = (drawN (sentN σ.1 f), σ.2.1, σ.2.2.1 + 5, σ.2.2.2)) ∨
     (τ < 50 ∧ ¬ wi (ty (drawN (sentN σ.1 f)) f) 0 3 ∧ σ' = (drawN (sentN σ.1 f), σ.2.1, σ.2.2.1, σ.2.2.2)) ∨
     (τ < 50 ∧ ∃ t, t < 4 ∧ ty (drawN (sentN σ.1 f)) f = nI t ∧ σ' = (upd (drawN (sentN σ.1 f)) (26 + 5 * f) ((drawN (sentN σ.1 f)) (26 + 5 * f) + 1), upd σ.2.1 t (σ.2.1 t + (if (drawN (sentN σ.1 f)) (23 + 5 * f) = 0 then -1 else 1)), σ.2.2.1 + (-1), σ.2.2.2 + 1))))
def LSr (tb : TB) (tx : List Value) (lk : Nat → Int32) (wo : Int32) : Nat → Nat → (Nat → Int32) × (Nat → Int32) × Int32 × Int32 → (Nat → Int32) × (Nat → Int32) × Int32 × Int32 → Prop
  | 0, _, σ, σ' => σ' = σ
  | m + 1, i, σ, σ' => ∃ σ1, ((nI i = wo ∧ σ1 = σ) ∨ (¬ nI i = wo ∧ letR tb tx lk i σ σ1)) ∧ LSr tb tx lk wo m (i + 1) σ1 σ'
theorem sd_keep {N : Nat → Int32} {f k : Nat} (h0 : k ≠ 0) (h1 : k ≠ 25 + 5 * f) : (drawN (sentN N f)) k = N k := by
  unfold drawN sentN
  rw [pk_un h0, pk_un h1]
theorem let_keep {tb : TB} {tx : List Value} {lk : Nat → Int32} {f k : Nat} {σ σ' : (Nat → Int32) × (Nat → Int32) × Int32 × Int32} (hk0 : k ≠ 0) (hk6 : k ≠ 6) (hk1 : k ≠ 25 + 5 * f) (hk2 : k ≠ 26 + 5 * f) (h : letR tb tx lk f σ σ') : σ'.1 k = σ.1 k := by
  rcases h with ⟨-, rfl⟩ | ⟨-, τ, -, ⟨-, rfl⟩ | ⟨-, -, rfl⟩ | ⟨-, t, -, -, rfl⟩⟩
  · exact (pk_un hk6).trans (sd_keep hk0 hk1)
  · exact sd_keep hk0 hk1
  · exact sd_keep hk0 hk1
  · exact (pk_un hk2).trans (sd_keep hk0 hk1)
def WK (N : Nat → Int32) : Prop := ∀ f, f < 8 → wi (N (22 + 5 * f)) 0 5 ∧ wi (N (23 + 5 * f)) 0 1
set_option maxHeartbeats 4000000 in
set_option maxRecDepth 100000 in
theorem g_letL {X : List Int32} {d rc rs n : Nat} {Q : am_Q} {b : Nat} {tx : List Value} {lk : Nat → Int32} {fr c : Nat} {wo : Int32} {tb : TB} {N0 : Nat → Int32} (hF : N0 1 = nI fr) (hfr : fr ≤ 8) (hc7 : N0 7 = nI c) (hv : TXv tb.1 c tx) (hK : WK N0) (hb : b + 12 ≤ 92) : ∀ (m i : Nat), i + m = fr → ∀ (N mv : Nat → Int32) (w s : Int32) (v5 : Option Value) (h : am_H), QR b N tx lk mv h → TT tb h → (∀ k, k ≠ 0 → k ≠ 6 → (∀ f, k ≠ 25 + 5 * f) → (∀ f, k ≠ 26 + 5 * f) → N k = N0 k) → (∀ (σ' : (Nat → Int32) × (Nat → Int32) × Int32 × Int32) (h9 : am_H) (v9 : Option Value), LSr tb tx lk wo m i (N, mv, w, s) σ' → QR b σ'.1 tx lk σ'.2.1 h9 → TT tb h9 → am_f2 b h9 h → AW X mX0_writeLetters (d + 10) rc rs 152 [some (.ref b), some (.int wo), some (.int σ'.2.2.1), some (.int σ'.2.2.2), some (.int (nI fr)), v9] [] n h9 Q) → AW X mX0_writeLetters (d + 10) rc rs 15 [some (.ref b), some (.int wo), some (.int w), some (.int s), some (.int (nI i)), v5] [] n h Q := by
  intro m
  induction m with
  | zero =>
    intro i hi N mv w s v5 h F G hkp hq
    obtain rfl : i = fr := by omega
    refine aw_iload (npc := 17) rfl dX0_writeLetters_15 rfl ?_
    refine aw_aload_n (npc := 18) rfl dX0_writeLetters_17 rfl ?_
    refine aw_get (npc := 21) dX0_writeLetters_18 rfl kf_X0_40 F.1 rfl ?_
    refine aw_top (y := nI i) ((hkp 1 (by omega) (by omega) (by omega) (by omega)).trans hF) ?_
    refine aw_icmp_ge (npc := 24) (tgt := 152) dX0_writeLetters_21 rfl (by decide) (fun _ => ?_) (fun hc => absurd (nI_le (Nat.le_refl _) (by omega)) hc)
    exact hq (N, mv, w, s) h v5 rfl F G am_f20
  | succ m ih =>
    intro i hi N mv w s v5 h F G hkp hq
    have hc7 : N 7 = nI c := (hkp 7 (by omega) (by omega) (by omega) (by omega)).trans hc7
    have hK : WK N := fun f hf => by
      rw [hkp (22 + 5 * f) (by omega) (by omega) (by omega) (by omega), hkp (23 + 5 * f) (by omega) (by omega) (by omega) (by omega)]
      exact hK f hf
    refine aw_iload (npc := 17) rfl dX0_writeLetters_15 rfl ?_
    refine aw_aload_n (npc := 18) rfl dX0_writeLetters_17 rfl ?_
    refine aw_get (npc := 21) dX0_writeLetters_18 rfl kf_X0_40 F.1 rfl ?_
    refine aw_top (y := nI fr) ((hkp 1 (by omega) (by omega) (by omega) (by omega)).trans hF) ?_
    refine aw_icmp_ge (npc := 24) (tgt := 152) dX0_writeLetters_21 rfl (by decide) (fun hc => absurd hc (nI_ge (a := i) (b := fr) (by omega) (by omega))) (fun _ => ?_)
    refine aw_iload (npc := 26) rfl dX0_writeLetters_24 rfl ?_
    refine aw_iload_n (npc := 27) rfl dX0_writeLetters_26 rfl ?_
    refine aw_icmp_ne (npc := 30) (tgt := 33) dX0_writeLetters_27 rfl (by decide) (fun hc2 => ?_) (fun hc2 => ?_)
    · refine aw_aload_n (npc := 34) rfl dX0_writeLetters_33 rfl ?_
      refine aw_get (npc := 37) dX0_writeLetters_34 rfl kf_X0_52 F.1 rfl ?_
      refine aw_iload (npc := 39) rfl dX0_writeLetters_37 rfl ?_
      refine aw_dup2 (npc := 40) rfl rfl dX0_writeLetters_39 rfl ?_
      refine aw_iald (npc := 41) (x := N (25 + 5 * i)) (j := i) dX0_writeLetters_40 rfl F.2.2.2.2.2.2.2.1 (am_ix_nI (by omega)) (tl_at (by omega)) ?_
      refine aw_iconst (npc := 42) (v := 1) (by decide) dX0_writeLetters_41 rfl ?_
      refine aw_iadd (npc := 43) dX0_writeLetters_42 rfl ?_
      refine aw_iast (npc := 44) (j := i) dX0_writeLetters_43 rfl F.2.2.2.2.2.2.2.1 (am_ix_nI (by omega)) (by rw [tl_len]; omega) rfl ?_
      have F3 := qr_sent (j := i) (v := (N (25 + 5 * i)) + 1) F (by omega)
      have G4 := tt_out (k := b + 7) (c := .inl (0, (tl 8 (fun z9 => N (25 + 5 * z9))).set i ((N (25 + 5 * i)) + 1))) (by omega) G
      refine aw_aload_n (npc := 45) rfl dX0_writeLetters_44 rfl ?_
      refine aw_callV (npc := 48) (N := mX0_draw) (b := b) (mc := 0) (ms := 0) (A := []) (S := []) (L0 := [some (.ref b)]) dX0_writeLetters_45 rfl km_X0_draw kk_X0_133 F3.1 ⟨by decide, rfl⟩ rfl ⟨rfl, by decide⟩ rfl (Nat.le_of_ble_eq_true rfl) (Nat.zero_add _) (Nat.zero_add _) rfl ?_
      refine g_draw F3 (fun hp7 F6 fz5 => ?_)
      have G8 := tt_frame G4 (fun k hk => fz5 k (by omega))
      have F9 : QR b (drawN (sentN N i)) tx lk mv hp7 := F6
      refine aw_re (S' := [.int (drawV (sentN N i))]) rfl ?_
      refine aw_bipush (npc := 50) (v := 100) (by decide) dX0_writeLetters_48 rfl ?_
      refine aw_irem (npc := 51) (by decide) dX0_writeLetters_50 rfl ?_
      refine aw_aload_n (npc := 52) rfl dX0_writeLetters_51 rfl ?_
      refine aw_get (npc := 55) dX0_writeLetters_52 rfl kf_X0_28 F9.1 rfl ?_
      refine aw_icmp_ge (npc := 58) (tgt := 71) dX0_writeLetters_55 rfl (by decide) (fun hc10 => ?_) (fun hc10 => ?_)
      · refine aw_aload_n (npc := 72) rfl dX0_writeLetters_71 rfl ?_
        refine aw_iload (npc := 74) rfl dX0_writeLetters_72 rfl ?_
        refine aw_callV (npc := 77) (N := mX0_toneOf) (b := b) (mc := 0) (ms := 0) (A := [.int (nI i)]) (S := []) (L0 := [some (.ref b), some (.int (nI i)), none, none]) dX0_writeLetters_74 rfl km_X0_toneOf kk_X0_137 F9.1 ⟨by decide, rfl⟩ rfl ⟨rfl, by decide⟩ rfl (Nat.le_of_ble_eq_true rfl) (Nat.zero_add _) (Nat.zero_add _) rfl ?_
        refine g_tone F9 G8 ((sd_keep (by omega) (by omega)).trans hc7) hv (by omega) (by rw [sd_keep (by omega) (by omega)]; exact (hK i (by omega)).1) (by omega) (fun τ15 hp14 ht16 F12 G13 fz11 => ?_)
        refine aw_re (S' := [.int τ15]) rfl ?_
        refine aw_bipush (npc := 79) (v := 50) (by decide) dX0_writeLetters_77 rfl ?_
        refine aw_icmp_lt (npc := 82) (tgt := 88) dX0_writeLetters_79 rfl (by decide) (fun hc17 => ?_) (fun hc17 => ?_)
        · refine aw_aload_n (npc := 89) rfl dX0_writeLetters_88 rfl ?_
          refine aw_iload (npc := 91) rfl dX0_writeLetters_89 rfl ?_
          refine aw_callV (npc := 94) (N := mX0_termYielded) (b := b) (mc := 0) (ms := 0) (A := [.int (nI i)]) (S := []) (L0 := [some (.ref b), some (.int (nI i)), none, none, none, none, none, none, none, none, none, none]) dX0_writeLetters_91 rfl km_X0_termYielded kk_X0_140 F12.1 ⟨by decide, rfl⟩ rfl ⟨rfl, by decide⟩ rfl (Nat.le_of_ble_eq_true rfl) (Nat.zero_add _) (Nat.zero_add _) rfl ?_
          refine g_term F12 (by omega) (by rw [sd_keep (by omega) (by omega)]; exact (hK i (by omega)).1) (by rw [sd_keep (by omega) (by omega)]; exact (hK i (by omega)).2) ?_
          refine aw_re (S' := [.int (ty (drawN (sentN N i)) i)]) rfl ?_
          refine aw_istore (npc := 96) (L' := [some (.ref b), some (.int wo), some (.int w), some (.int s), some (.int (nI i)), some (.int (ty (drawN (sentN N i)) i))]) dX0_writeLetters_94 rfl (by decide) rfl rfl ?_
          refine aw_iload (npc := 98) rfl dX0_writeLetters_96 rfl ?_
          refine aw_callSN (npc := 101) (N := mX7_isTerm) (mc := 0) (ms := 0) (A := [.int (ty (drawN (sentN N i)) i)]) (S := []) (L0 := [some (.int (ty (drawN (sentN N i)) i))]) dX0_writeLetters_98 rfl km_X7_isTerm kk_X0_143 rfl ⟨rfl, by decide⟩ rfl (Nat.le_of_ble_eq_true rfl) (Nat.zero_add _) (Nat.zero_add _) rfl ?_
          refine c_X7_isTerm (fun hw18 => ?_) (fun hw18 => ?_)
          · refine aw_re (S' := [.int 1]) rfl ?_
            refine aw_if_eq (npc := 104) (tgt := 146) dX0_writeLetters_101 rfl (by decide) (fun hc => absurd hc (by decide)) (fun _ => ?_)
            obtain ⟨t, ht3, het⟩ := wi_nI (H := 3) rfl (by decide) hw18
            have ht4 : t < 4 := by omega
            refine aw_locs (L' := [some (.ref b), some (.int wo), some (.int w), some (.int s), some (.int (nI i)), some (.int (nI t))]) (by rw [het]) ?_
            refine aw_aload_n (npc := 105) rfl dX0_writeLetters_104 rfl ?_
            refine aw_get (npc := 108) dX0_writeLetters_105 rfl kf_X0_70 F12.1 rfl ?_
            refine aw_iload (npc := 110) rfl dX0_writeLetters_108 rfl ?_
            refine aw_dup2 (npc := 111) rfl rfl dX0_writeLetters_110 rfl ?_
            refine aw_iald (npc := 112) (x := mv t) (j := t) dX0_writeLetters_111 rfl F12.2.2.2.2.2.2.2.2.2.2.2 (am_ix_nI (by omega)) (tl_at (by omega)) ?_
            refine aw_aload_n (npc := 113) rfl dX0_writeLetters_112 rfl ?_
            refine aw_get (npc := 116) dX0_writeLetters_113 rfl kf_X0_46 F12.1 rfl ?_
            refine aw_iload (npc := 118) rfl dX0_writeLetters_116 rfl ?_
            refine aw_iald (npc := 119) (x := (drawN (sentN N i)) (23 + 5 * i)) (j := i) dX0_writeLetters_118 rfl F12.2.2.2.2.2.1 (am_ix_nI (by omega)) (tl_at (by omega)) ?_
            refine aw_if_ne (npc := 122) (tgt := 126) dX0_writeLetters_119 rfl (by decide) (fun hc19 => ?_) (fun hc19 => ?_)
            · refine aw_iconst (npc := 127) (v := 1) (by decide) dX0_writeLetters_126 rfl ?_
              refine aw_iadd (npc := 128) dX0_writeLetters_127 rfl ?_
              refine aw_iast (npc := 129) (j := t) dX0_writeLetters_128 rfl F12.2.2.2.2.2.2.2.2.2.2.2 (am_ix_nI (by omega)) (by rw [tl_len]; omega) rfl ?_
              have F20 := qr_moves (j := t) (v := (mv t) + 1) F12
              have G21 := tt_out (k := b + 11) (c := .inl (0, (tl 4 mv).set t ((mv t) + 1))) (by omega) G13
              refine aw_aload_n (npc := 130) rfl dX0_writeLetters_129 rfl ?_
              refine aw_get (npc := 133) dX0_writeLetters_130 rfl kf_X0_55 F20.1 rfl ?_
              refine aw_iload (npc := 135) rfl dX0_writeLetters_133 rfl ?_
              refine aw_dup2 (npc := 136) rfl rfl dX0_writeLetters_135 rfl ?_
              refine aw_iald (npc := 137) (x := (drawN (sentN N i)) (26 + 5 * i)) (j := i) dX0_writeLetters_136 rfl F20.2.2.2.2.2.2.2.2.1 (am_ix_nI (by omega)) (tl_at (by omega)) ?_
              refine aw_iconst (npc := 138) (v := 1) (by decide) dX0_writeLetters_137 rfl ?_
              refine aw_iadd (npc := 139) dX0_writeLetters_138 rfl ?_
              refine aw_iast (npc := 140) (j := i) dX0_writeLetters_139 rfl F20.2.2.2.2.2.2.2.2.1 (am_ix_nI (by omega)) (by rw [tl_len]; omega) rfl ?_
              have F22 := qr_yield (j := i) (v := ((drawN (sentN N i)) (26 + 5 * i)) + 1) F20 (by omega)
              have G23 := tt_out (k := b + 8) (c := .inl (0, (tl 8 (fun z9 => (drawN (sentN N i)) (26 + 5 * z9))).set i (((drawN (sentN N i)) (26 + 5 * i)) + 1))) (by omega) G21
              refine aw_iinc (npc := 143) (v := w + (-1)) (L' := [some (.ref b), some (.int wo), some (.int (w + (-1))), some (.int s), some (.int (nI i)), some (.int (nI t))]) dX0_writeLetters_140 rfl rfl rfl (by decide) rfl rfl ?_
              refine aw_iinc (npc := 146) (v := s + 1) (L' := [some (.ref b), some (.int wo), some (.int (w + (-1))), some (.int (s + 1)), some (.int (nI i)), some (.int (nI t))]) dX0_writeLetters_143 rfl rfl rfl (by decide) rfl rfl ?_
              refine aw_iinc (npc := 149) (v := nI (i + 1)) (L' := [some (.ref b), some (.int wo), some (.int (w + (-1))), some (.int (s + 1)), some (.int (nI (i + 1))), some (.int (nI t))]) dX0_writeLetters_146 rfl rfl (nI_1 _) (by decide) rfl rfl ?_
              refine aw_goto (npc := 15) dX0_writeLetters_149 (by decide) ?_
              have hst : (nI i = wo ∧ ((upd (drawN (sentN N i)) (26 + 5 * i) (((drawN (sentN N i)) (26 + 5 * i)) + 1), upd mv t ((mv t) + 1), w + (-1), s + 1) : (Nat → Int32) × (Nat → Int32) × Int32 × Int32) = (N, mv, w, s)) ∨ (¬ nI i = wo ∧ letR tb tx lk i (N, mv, w, s) (upd (drawN (sentN N i)) (26 + 5 * i) (((drawN (sentN N i)) (26 + 5 * i)) + 1), upd mv t ((mv t) + 1), w + (-1), s + 1)) := Or.inr ⟨hc2, Or.inr ⟨hc10, τ15, ht16, Or.inr (Or.inr ⟨hc17, t, ht4, het, by simp only [if_neg hc19]⟩)⟩⟩
              refine ih (i + 1) (by omega) _ _ _ _ _ _ F22 G23 (fun k a1 a2 a3 a4 => ?_) (fun σ9 h9 v9 hL F9 G9 fz => hq σ9 h9 v9 ⟨_, hst, hL⟩ F9 G9 (am_f2T fz (am_f2U (by omega) (am_f2U (by omega) (am_f2T (am_f2C fz11) (am_f2T (am_f2B fz5) (am_f2U (by omega) am_f20)))))))
              rcases hst with ⟨-, e9⟩ | ⟨-, e9⟩
              · exact (congrArg (fun z => z.1 k) e9).trans (hkp k a1 a2 a3 a4)
              · exact (let_keep a1 a2 (fun z => a3 i z) (fun z => a4 i z) e9).trans (hkp k a1 a2 a3 a4)
            · refine aw_iconst (npc := 123) (v := -1) (by decide) dX0_writeLetters_122 rfl ?_
              refine aw_goto (npc := 127) dX0_writeLetters_123 (by decide) ?_
              refine aw_iadd (npc := 128) dX0_writeLetters_127 rfl ?_
              refine aw_iast (npc := 129) (j := t) dX0_writeLetters_128 rfl F12.2.2.2.2.2.2.2.2.2.2.2 (am_ix_nI (by omega)) (by rw [tl_len]; omega) rfl ?_
              have F24 := qr_moves (j := t) (v := (mv t) + (-1)) F12
              have G25 := tt_out (k := b + 11) (c := .inl (0, (tl 4 mv).set t ((mv t) + (-1)))) (by omega) G13
              refine aw_aload_n (npc := 130) rfl dX0_writeLetters_129 rfl ?_
              refine aw_get (npc := 133) dX0_writeLetters_130 rfl kf_X0_55 F24.1 rfl ?_
              refine aw_iload (npc := 135) rfl dX0_writeLetters_133 rfl ?_
              refine aw_dup2 (npc := 136) rfl rfl dX0_writeLetters_135 rfl ?_
              refine aw_iald (npc := 137) (x := (drawN (sentN N i)) (26 + 5 * i)) (j := i) dX0_writeLetters_136 rfl F24.2.2.2.2.2.2.2.2.1 (am_ix_nI (by omega)) (tl_at (by omega)) ?_
              refine aw_iconst (npc := 138) (v := 1) (by decide) dX0_writeLetters_137 rfl ?_
              refine aw_iadd (npc := 139) dX0_writeLetters_138 rfl ?_
              refine aw_iast (npc := 140) (j := i) dX0_writeLetters_139 rfl F24.2.2.2.2.2.2.2.2.1 (am_ix_nI (by omega)) (by rw [tl_len]; omega) rfl ?_
              have F26 := qr_yield (j := i) (v := ((drawN (sentN N i)) (26 + 5 * i)) + 1) F24 (by omega)
              have G27 := tt_out (k := b + 8) (c := .inl (0, (tl 8 (fun z9 => (drawN (sentN N i)) (26 + 5 * z9))).set i (((drawN (sentN N i)) (26 + 5 * i)) + 1))) (by omega) G25
              refine aw_iinc (npc := 143) (v := w + (-1)) (L' := [some (.ref b), some (.int wo), some (.int (w + (-1))), some (.int s), some (.int (nI i)), some (.int (nI t))]) dX0_writeLetters_140 rfl rfl rfl (by decide) rfl rfl ?_
              refine aw_iinc (npc := 146) (v := s + 1) (L' := [some (.ref b), some (.int wo), some (.int (w + (-1))), some (.int (s + 1)), some (.int (nI i)), some (.int (nI t))]) dX0_writeLetters_143 rfl rfl rfl (by decide) rfl rfl ?_
              refine aw_iinc (npc := 149) (v := nI (i + 1)) (L' := [some (.ref b), some (.int wo), some (.int (w + (-1))), some (.int (s + 1)), some (.int (nI (i + 1))), some (.int (nI t))]) dX0_writeLetters_146 rfl rfl (nI_1 _) (by decide) rfl rfl ?_
              refine aw_goto (npc := 15) dX0_writeLetters_149 (by decide) ?_
              have hst : (nI i = wo ∧ ((upd (drawN (sentN N i)) (26 + 5 * i) (((drawN (sentN N i)) (26 + 5 * i)) + 1), upd mv t ((mv t) + (-1)), w + (-1), s + 1) : (Nat → Int32) × (Nat → Int32) × Int32 × Int32) = (N, mv, w, s)) ∨ (¬ nI i = wo ∧ letR tb tx lk i (N, mv, w, s) (upd (drawN (sentN N i)) (26 + 5 * i) (((drawN (sentN N i)) (26 + 5 * i)) + 1), upd mv t ((mv t) + (-1)), w + (-1), s + 1)) := Or.inr ⟨hc2, Or.inr ⟨hc10, τ15, ht16, Or.inr (Or.inr ⟨hc17, t, ht4, het, by simp only [if_pos hc19]⟩)⟩⟩
              refine ih (i + 1) (by omega) _ _ _ _ _ _ F26 G27 (fun k a1 a2 a3 a4 => ?_) (fun σ9 h9 v9 hL F9 G9 fz => hq σ9 h9 v9 ⟨_, hst, hL⟩ F9 G9 (am_f2T fz (am_f2U (by omega) (am_f2U (by omega) (am_f2T (am_f2C fz11) (am_f2T (am_f2B fz5) (am_f2U (by omega) am_f20)))))))
              rcases hst with ⟨-, e9⟩ | ⟨-, e9⟩
              · exact (congrArg (fun z => z.1 k) e9).trans (hkp k a1 a2 a3 a4)
              · exact (let_keep a1 a2 (fun z => a3 i z) (fun z => a4 i z) e9).trans (hkp k a1 a2 a3 a4)
          · refine aw_re (S' := [.int 0]) rfl ?_
            refine aw_if_eq (npc := 104) (tgt := 146) dX0_writeLetters_101 rfl (by decide) (fun _ => ?_) (fun hc => absurd (by decide) hc)
            refine aw_iinc (npc := 149) (v := nI (i + 1)) (L' := [some (.ref b), some (.int wo), some (.int w), some (.int s), some (.int (nI (i + 1))), some (.int (ty (drawN (sentN N i)) i))]) dX0_writeLetters_146 rfl rfl (nI_1 _) (by decide) rfl rfl ?_
            refine aw_goto (npc := 15) dX0_writeLetters_149 (by decide) ?_
            have hst : (nI i = wo ∧ ((drawN (sentN N i), mv, w, s) : (Nat → Int32) × (Nat → Int32) × Int32 × Int32) = (N, mv, w, s)) ∨ (¬ nI i = wo ∧ letR tb tx lk i (N, mv, w, s) (drawN (sentN N i), mv, w, s)) := Or.inr ⟨hc2, Or.inr ⟨hc10, τ15, ht16, Or.inr (Or.inl ⟨hc17, hw18, rfl⟩)⟩⟩
            refine ih (i + 1) (by omega) _ _ _ _ _ _ F12 G13 (fun k a1 a2 a3 a4 => ?_) (fun σ9 h9 v9 hL F9 G9 fz => hq σ9 h9 v9 ⟨_, hst, hL⟩ F9 G9 (am_f2T fz (am_f2T (am_f2C fz11) (am_f2T (am_f2B fz5) (am_f2U (by omega) am_f20)))))
            rcases hst with ⟨-, e9⟩ | ⟨-, e9⟩
            · exact (congrArg (fun z => z.1 k) e9).trans (hkp k a1 a2 a3 a4)
            · exact (let_keep a1 a2 (fun z => a3 i z) (fun z => a4 i z) e9).trans (hkp k a1 a2 a3 a4)
        · refine aw_iinc (npc := 85) (v := w + 5) (L' := [some (.ref b), some (.int wo), some (.int (w + 5)), some (.int s), some (.int (nI i)), v5]) dX0_writeLetters_82 rfl rfl rfl (by decide) rfl rfl ?_
          refine aw_goto (npc := 146) dX0_writeLetters_85 (by decide) ?_
          refine aw_iinc (npc := 149) (v := nI (i + 1)) (L' := [some (.ref b), some (.int wo), some (.int (w + 5)), some (.int s), some (.int (nI (i + 1))), v5]) dX0_writeLetters_146 rfl rfl (nI_1 _) (by decide) rfl rfl ?_
          refine aw_goto (npc := 15) dX0_writeLetters_149 (by decide) ?_
          have hst : (nI i = wo ∧ ((drawN (sentN N i), mv, w + 5, s) : (Nat → Int32) × (Nat → Int32) × Int32 × Int32) = (N, mv, w, s)) ∨ (¬ nI i = wo ∧ letR tb tx lk i (N, mv, w, s) (drawN (sentN N i), mv, w + 5, s)) := Or.inr ⟨hc2, Or.inr ⟨hc10, τ15, ht16, Or.inl ⟨hc17, rfl⟩⟩⟩
          refine ih (i + 1) (by omega) _ _ _ _ _ _ F12 G13 (fun k a1 a2 a3 a4 => ?_) (fun σ9 h9 v9 hL F9 G9 fz => hq σ9 h9 v9 ⟨_, hst, hL⟩ F9 G9 (am_f2T fz (am_f2T (am_f2C fz11) (am_f2T (am_f2B fz5) (am_f2U (by omega) am_f20)))))
          rcases hst with ⟨-, e9⟩ | ⟨-, e9⟩
          · exact (congrArg (fun z => z.1 k) e9).trans (hkp k a1 a2 a3 a4)
          · exact (let_keep a1 a2 (fun z => a3 i z) (fun z => a4 i z) e9).trans (hkp k a1 a2 a3 a4)
      · refine aw_aload_n (npc := 59) rfl dX0_writeLetters_58 rfl ?_
        refine aw_dup (npc := 60) rfl dX0_writeLetters_59 rfl ?_
        refine aw_get (npc := 63) dX0_writeLetters_60 rfl kf_X0_31 F9.1 rfl ?_
        refine aw_iconst (npc := 64) (v := 1) (by decide) dX0_writeLetters_63 rfl ?_
        refine aw_iadd (npc := 65) dX0_writeLetters_64 rfl ?_
        refine aw_put (npc := 68) dX0_writeLetters_65 rfl kf_X0_31 F9.1 (Nat.le_of_ble_eq_true rfl) (am_ok_int _) rfl ?_
        have F28 := qr_lost (v := ((drawN (sentN N i)) 6) + 1) F9
        have G29 := tt_out (k := b) (c := .inr (0, (QO b (drawN (sentN N i))).set 6 (.int (((drawN (sentN N i)) 6) + 1)))) (by omega) G8
        refine aw_goto (npc := 146) dX0_writeLetters_68 (by decide) ?_
        refine aw_iinc (npc := 149) (v := nI (i + 1)) (L' := [some (.ref b), some (.int wo), some (.int w), some (.int s), some (.int (nI (i + 1))), v5]) dX0_writeLetters_146 rfl rfl (nI_1 _) (by decide) rfl rfl ?_
        refine aw_goto (npc := 15) dX0_writeLetters_149 (by decide) ?_
        have hst : (nI i = wo ∧ ((upd (drawN (sentN N i)) 6 (((drawN (sentN N i)) 6) + 1), mv, w, s) : (Nat → Int32) × (Nat → Int32) × Int32 × Int32) = (N, mv, w, s)) ∨ (¬ nI i = wo ∧ letR tb tx lk i (N, mv, w, s) (upd (drawN (sentN N i)) 6 (((drawN (sentN N i)) 6) + 1), mv, w, s)) := Or.inr ⟨hc2, Or.inl ⟨hc10, rfl⟩⟩
        refine ih (i + 1) (by omega) _ _ _ _ _ _ F28 G29 (fun k a1 a2 a3 a4 => ?_) (fun σ9 h9 v9 hL F9 G9 fz => hq σ9 h9 v9 ⟨_, hst, hL⟩ F9 G9 (am_f2T fz (am_f2U (by omega) (am_f2T (am_f2B fz5) (am_f2U (by omega) am_f20)))))
        rcases hst with ⟨-, e9⟩ | ⟨-, e9⟩
        · exact (congrArg (fun z => z.1 k) e9).trans (hkp k a1 a2 a3 a4)
        · exact (let_keep a1 a2 (fun z => a3 i z) (fun z => a4 i z) e9).trans (hkp k a1 a2 a3 a4)
    · refine aw_goto (npc := 146) dX0_writeLetters_30 (by decide) ?_
      refine aw_iinc (npc := 149) (v := nI (i + 1)) (L' := [some (.ref b), some (.int wo), some (.int w), some (.int s), some (.int (nI (i + 1))), v5]) dX0_writeLetters_146 rfl rfl (nI_1 _) (by decide) rfl rfl ?_
      refine aw_goto (npc := 15) dX0_writeLetters_149 (by decide) ?_
      have hst : (nI i = wo ∧ ((N, mv, w, s) : (Nat → Int32) × (Nat → Int32) × Int32 × Int32) = (N, mv, w, s)) ∨ (¬ nI i = wo ∧ letR tb tx lk i (N, mv, w, s) (N, mv, w, s)) := Or.inl ⟨hc2, rfl⟩
      refine ih (i + 1) (by omega) _ _ _ _ _ _ F G (fun k a1 a2 a3 a4 => ?_) (fun σ9 h9 v9 hL F9 G9 fz => hq σ9 h9 v9 ⟨_, hst, hL⟩ F9 G9 (am_f2T fz am_f20))
      rcases hst with ⟨-, e9⟩ | ⟨-, e9⟩
      · exact (congrArg (fun z => z.1 k) e9).trans (hkp k a1 a2 a3 a4)
      · exact (let_keep a1 a2 (fun z => a3 i z) (fun z => a4 i z) e9).trans (hkp k a1 a2 a3 a4)
