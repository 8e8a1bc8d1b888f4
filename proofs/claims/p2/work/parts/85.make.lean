theorem tl_rep (n : Nat) : List.replicate n (0 : Int32) = tl n (fun _ => 0) := by
  apply List.ext_getElem?
  intro i
  by_cases h : i < n
  · rw [tl_at h, List.getElem?_replicate, if_pos h]
  · rw [List.getElem?_replicate, if_neg h, List.getElem?_eq_none (by rw [tl_len]; omega)]
theorem am_cpy_cut {a b : Nat} {f g : Nat → Int32} (h : b ≤ a) : am_cpy (tl a f) (tl b g) 0 0 b = tl b f := by
  rw [am_cpy_tl (by omega)]
  apply tl_congr
  intro j hj
  rw [if_pos ⟨by omega, by omega⟩]
  congr 1
  omega
theorem r_copyOf {X : List Int32} {d n : Nat} {Q : am_Q} {h : am_H} {a lc : Nat} {cd : Nat → Int32} (ha : h a = some (.inl (0, tl 96 cd))) (hl : lc < 96) (hn : n < 1000000) (hna : a ≠ n) (hq : ∀ h9, h9 n = some (.inl (0, tl lc cd)) → (∀ k, k ≠ n → h9 k = h k) → Q (some (.ref n)) (n + 1) h9) : AW X mJ7_copyOf_59c91 (d + 1) 1 lc 0 [some (.ref a), some (.int (nI lc)), none] [] n h Q := by
  refine aw_iload_n (npc := 1) rfl dJ7_copyOf_59c91_0 rfl ?_
  refine aw_aload_n (npc := 2) rfl dJ7_copyOf_59c91_1 rfl ?_
  refine aw_alen (npc := 3) (v := nI 96) dJ7_copyOf_59c91_2 rfl ha (by rw [tl_len]; rfl) ?_
  refine aw_icmp_ne (npc := 6) (tgt := 14) dJ7_copyOf_59c91_3 rfl (by decide) (fun _ => ?_) (fun e => absurd ((nI_eq (a := lc) (b := 96) (by omega) (by omega)).mp e) (by omega))
  refine aw_iload_n (npc := 15) rfl dJ7_copyOf_59c91_14 rfl ?_
  refine aw_newi (npc := 17) (N := lc) (rc' := 0) (rs' := 0) dJ7_copyOf_59c91_15 rfl ka_int (am_ix_nI (by omega)) (by omega) hn rfl (by omega) rfl ?_
  refine aw_astore_n (npc := 18) (L' := [some (.ref a), some (.int (nI lc)), some (.ref n)]) dJ7_copyOf_59c91_17 rfl (by decide) rfl rfl ?_
  refine aw_aload_n (npc := 19) rfl dJ7_copyOf_59c91_18 rfl ?_
  refine aw_iconst (npc := 20) (v := 0) (by decide) dJ7_copyOf_59c91_19 rfl ?_
  refine aw_aload_n (npc := 21) rfl dJ7_copyOf_59c91_20 rfl ?_
  refine aw_iconst (npc := 22) (v := 0) (by decide) dJ7_copyOf_59c91_21 rfl ?_
  refine aw_aload_n (npc := 23) rfl dJ7_copyOf_59c91_22 rfl ?_
  refine aw_alen (npc := 24) (v := nI 96) dJ7_copyOf_59c91_23 rfl (am_ne hna ha) (by rw [tl_len]; rfl) ?_
  refine aw_iload_n (npc := 25) rfl dJ7_copyOf_59c91_24 rfl ?_
  refine aw_mmin (npc := 28) dJ7_copyOf_59c91_25 rfl kmm_J7_304 kmx_min (Nat.le_of_ble_eq_true rfl) ?_
  refine aw_top (y := nI lc) (if_pos ((nI_ltI (a := lc) (b := 96) (by omega) (by omega)).mpr hl)) ?_
  refine aw_copyi (npc := 31) (sp := 0) (dp := 0) (mm := lc) dJ7_copyOf_59c91_28 rfl kac_J7_150 kac_x (am_ne hna ha) am_eq ⟨by decide, by decide⟩ ⟨by decide, by decide⟩ (am_ix_nI (by omega)) (by rw [tl_len]; omega) (by rw [List.length_replicate]; omega) (Nat.le_of_ble_eq_true rfl) rfl ?_
  refine aw_aload_n (npc := 32) rfl dJ7_copyOf_59c91_31 rfl ?_
  refine aw_aret rfl (Or.inr ⟨_, rfl⟩) dJ7_copyOf_59c91_32 ?_
  refine hq _ (am_eq.trans ?_) (fun k hk => (am_nE hk).trans (am_nE hk))
  rw [tl_rep, am_cpy_cut (by omega)]
def mx1 (k : Nat) : Nat := if k < 1 then 1 else k
theorem r_tinit {X : List Int32} {d n b k : Nat} {Q : am_Q} {h : am_H} {c : Nat} {key : Int32} (hk : k < 1000) (hb : h b = some (.inr (5, [.int 0, .int 0, .null, .null]))) (hn : n < 1000000) (hnb : b ≠ n) (hq : ∀ h9, h9 b = some (.inr (5, [.int key, .int (nI k), .ref c, .ref n])) → h9 n = some (.inl (0, tl (mx1 k) (fun _ => 0))) → (∀ j, j ≠ n → j ≠ b → h9 j = h j) → Q none (n + 1) h9) : AW X mX5_init (d + 1) 1 (mx1 k) 0 [some (.ref b), some (.int key), some (.int (nI k)), some (.ref c)] [] n h Q := by
  have hm : mx1 k < 1000 := by unfold mx1; split <;> omega
  refine aw_aload_n (npc := 1) rfl dX5_init_0 rfl ?_
  refine aw_obj (npc := 4) dX5_init_1 rfl ko_X5_1 ko_i ko_c (Nat.le_of_ble_eq_true rfl) ?_
  refine aw_aload_n (npc := 5) rfl dX5_init_4 rfl ?_
  refine aw_iload_n (npc := 6) rfl dX5_init_5 rfl ?_
  refine aw_putF (npc := 9) dX5_init_6 rfl rfl (fun _ _ _ h9 => by cases h9; rfl) kf_X5_7 hb (Nat.le_of_ble_eq_true rfl) (am_ok_int _) rfl ?_
  refine aw_aload_n (npc := 10) rfl dX5_init_9 rfl ?_
  refine aw_iload_n (npc := 11) rfl dX5_init_10 rfl ?_
  refine aw_putF (npc := 14) dX5_init_11 rfl rfl (fun _ _ _ h9 => by cases h9; rfl) kf_X5_13 am_eq (Nat.le_of_ble_eq_true rfl) (am_ok_int _) rfl ?_
  refine aw_aload_n (npc := 15) rfl dX5_init_14 rfl ?_
  refine aw_aload_n (npc := 16) rfl dX5_init_15 rfl ?_
  refine aw_putF (npc := 19) dX5_init_16 rfl rfl (fun _ _ _ h9 => by cases h9; rfl) kf_X5_16 am_eq (Nat.le_of_ble_eq_true rfl) (am_ok_arr _ _) rfl ?_
  refine aw_aload_n (npc := 20) rfl dX5_init_19 rfl ?_
  refine aw_iload_n (npc := 21) rfl dX5_init_20 rfl ?_
  refine aw_iconst (npc := 22) (v := 1) (by decide) dX5_init_21 rfl ?_
  refine aw_mmax (npc := 25) dX5_init_22 rfl kmm_X5_20 kmx_max (Nat.le_of_ble_eq_true rfl) ?_
  refine aw_top (y := nI (mx1 k)) ?_ ?_
  · unfold mx1
    by_cases e : k < 1
    · rw [if_pos e]; exact if_pos ((nI_ltI (a := k) (b := 1) (by omega) (by omega)).mpr e)
    · rw [if_neg e]; exact if_neg (fun z => e ((nI_ltI (a := k) (b := 1) (by omega) (by omega)).mp z))
  refine aw_newi (npc := 27) (N := mx1 k) (rc' := 0) (rs' := 0) dX5_init_25 rfl ka_int (am_ix_nI (by omega)) (by omega) hn rfl (by omega) rfl ?_
  refine aw_putF (npc := 30) dX5_init_27 rfl rfl (fun _ _ _ h9 => by cases h9; rfl) kf_X5_26 (am_ne hnb am_eq) (Nat.le_of_ble_eq_true rfl) (am_ok_arr _ _) rfl ?_
  refine aw_vret rfl dX5_init_30 ?_
  refine hq _ am_eq ((am_ne (Ne.symm hnb) am_eq).trans ?_) (fun j h1 h2 => ?_)
  · rw [tl_rep]
  · rw [am_nE h2, am_nE h1, am_nE h2, am_nE h2, am_nE h2]
theorem r_make {X : List Int32} {d n : Nat} {Q : am_Q} {h : am_H} {L lc k : Nat} {r tp cd : Nat → Int32} {tn : Int32} (Rd : RD r tn tp cd h) (h7 : r 7 = nI lc) (h8 : r 8 = nI k) (hl : lc < 96) (hk : k < 1000) (hn0 : 92 ≤ n) (hn : n + 2 < 1000000) (hq : ∀ h9, h9 n = some (.inr (5, [.int (r 5), .int (nI k), .ref (n + 1), .ref (n + 2)])) → h9 (n + 1) = some (.inl (0, tl lc cd)) → h9 (n + 2) = some (.inl (0, tl (mx1 k) (fun _ => 0))) → (∀ j, j < n → h9 j = h j) → Q (some (.ref n)) (n + 3) h9) : AW X mX1_makeText (d + 2) 3 (4 + lc + mx1 k) 0 [some (.ref 39)] [] n h Q := by
  refine aw_new (npc := 3) (rc' := 2) (rs' := lc + mx1 k) dX1_makeText_0 rfl kn_X1_62 (by omega) rfl (by show lc + mx1 k + 4 = _; omega) rfl ?_
  refine aw_dup (npc := 4) rfl dX1_makeText_3 rfl ?_
  refine aw_aload_n (npc := 5) rfl dX1_makeText_4 rfl ?_
  have R1 := rd_out (a := n) (c := .inr (5, [.int 0, .int 0, .null, .null])) (by omega) Rd
  refine aw_get (npc := 8) dX1_makeText_5 rfl kf_X1_31 R1.1 rfl ?_
  refine aw_aload_n (npc := 9) rfl dX1_makeText_8 rfl ?_
  refine aw_get (npc := 12) dX1_makeText_9 rfl kf_X1_41 R1.1 rfl ?_
  refine aw_aload_n (npc := 13) rfl dX1_makeText_12 rfl ?_
  refine aw_get (npc := 16) dX1_makeText_13 rfl kf_X1_34 R1.1 rfl ?_
  refine aw_aload_n (npc := 17) rfl dX1_makeText_16 rfl ?_
  refine aw_get (npc := 20) dX1_makeText_17 rfl kf_X1_38 R1.1 rfl ?_
  refine aw_re (S' := [.int (nI lc), .ref 42, .int (nI k), .int (r 5), .ref n, .ref n]) (by rw [h7, h8]) ?_
  refine aw_callS (npc := 23) (N := mJ7_copyOf_59c91) (mc := 1) (ms := lc) (rc' := 1) (rs' := mx1 k) (A := [.ref 42, .int (nI lc)]) (S := [.int (nI k), .int (r 5), .ref n, .ref n]) (L0 := [some (.ref 42), some (.int (nI lc)), none]) dX1_makeText_20 rfl km_J7_copyOf_59c91 kk_X1_64 rfl ⟨rfl, by decide⟩ rfl (Nat.le_of_ble_eq_true rfl) rfl (by omega) rfl ?_
  refine r_copyOf (a := 42) R1.2.2.2 hl (by omega) (by omega) (fun h2 e1 f1 => ?_)
  refine aw_re (S' := [.ref (n + 1), .int (nI k), .int (r 5), .ref n, .ref n]) rfl ?_
  refine aw_callI (npc := 26) (b := n) (mc := 1) (ms := mx1 k) (rc' := 0) (rs' := 0) (A := [.int (r 5), .int (nI k), .ref (n + 1)]) (S := [.ref n]) (L0 := [some (.ref n), some (.int (r 5)), some (.int (nI k)), some (.ref (n + 1))]) dX1_makeText_23 rfl km_X5_init kk_X1_70 rfl ⟨rfl, by decide⟩ rfl (Nat.le_of_ble_eq_true rfl) rfl (by omega) rfl ?_
  refine r_tinit hk ((f1 n (by omega)).trans am_eq) (by omega) (by omega) (fun h3 g1 g2 g3 => ?_)
  refine aw_re (S' := [.ref n]) rfl ?_
  refine aw_aret rfl (Or.inl ⟨_, rfl⟩) dX1_makeText_26 ?_
  exact hq _ g1 ((g3 _ (by omega) (by omega)).trans e1) g2 (fun j hj => (g3 j (by omega) (by omega)).trans ((f1 j (by omega)).trans (am_nE (by omega))))
