def RM3 (ρ : RS) (r cd : Nat → Int32) : Prop := r 1 = nI ρ.1.2.2 ∧ r 2 = nI ρ.1.1 ∧ r 4 = fI ρ.2.1 ∧ r 5 = ρ.2.2.1 ∧ r 7 = nI ρ.2.2.2.1.length ∧ r 8 = nI ρ.2.2.2.2.1 ∧ r 9 = nI ρ.2.2.2.2.2.1 ∧ r 10 = nI ρ.2.2.2.2.2.2 ∧ (∀ j, j < ρ.2.2.2.1.length → cd j = ρ.2.2.2.1.getD j 0)
def ρI (k : Int32) : RS := ((0, 0, 0), none, k, [], 0, 0, 0)
noncomputable def ffC (L : Nat) (tp : Nat → Int32) (k : Int32) : RS := orF L tp (pcF L tp 17) (rkF L tp (avF L tp (ρI k)))
noncomputable def ffF (L : Nat) (tp : Nat → Int32) (k : Int32) : RS := cI ((ffC L tp k).1.1 = 0) (ffC L tp k) (flF (ffC L tp k))
set_option maxHeartbeats 4000000 in
set_option maxRecDepth 100000 in
theorem r_adv3 {X : List Int32} {d rc rs n : Nat} {Q : am_Q} {h : am_H} {L : Nat} {tp : Nat → Int32} {ρ : RS} (H : ∃ r cd, RD r (nI L) tp cd h ∧ RM3 ρ r cd) (w96 : L ≤ 96) (we : ρ.1.2.2 ≤ L) (wt : ρ.1.1 ≤ 5) (hq : ∀ h9, RX (avF L tp ρ) L tp h9 → am_fp (fun k => k < 39 ∨ 43 ≤ k) h9 h → Q none n h9) : AW X mX1_advance (d + 4) rc rs 0 [some (.ref 39), none, none, none] [] n h Q := by
  obtain ⟨r, cd, Rd, m1, m2, m4, m5, m7, m8, m9, m10, mc⟩ := H
  have wf : True := trivial
  refine aw_aload_n (npc := 1) rfl dX1_advance_0 rfl ?_
  refine aw_get (npc := 4) dX1_advance_1 rfl kf_X1_18 Rd.1 rfl ?_
  refine aw_top (y := nI ρ.1.2.2) (m1) ?_
  refine aw_istore_n (npc := 5) (L' := [some (.ref 39), some (.int (nI ρ.1.2.2)), none, none]) dX1_advance_4 rfl (by decide) rfl rfl ?_
  refine aw_aload_n (npc := 6) rfl dX1_advance_5 rfl ?_
  refine aw_get (npc := 9) dX1_advance_6 rfl kf_X1_22 Rd.1 rfl ?_
  refine aw_top (y := nI ρ.1.1) (m2) ?_
  refine aw_iconst (npc := 10) (v := 1) (by decide) dX1_advance_9 rfl ?_
  refine aw_icmp_eq (npc := 13) (tgt := 21) dX1_advance_10 rfl (by decide) (fun hc1 => ?_) (fun hc1 => ?_)
  · have hc1N := (nI_eq (a := ρ.1.1) (b := 1) (by omega) (by omega)).mp hc1
    refine aw_iconst (npc := 22) (v := 1) (by decide) dX1_advance_21 rfl ?_
    refine aw_goto (npc := 26) dX1_advance_22 (by decide) ?_
    refine aw_istore_n (npc := 27) (L' := [some (.ref 39), some (.int (nI ρ.1.2.2)), some (.int 1), none]) dX1_advance_26 rfl (by decide) rfl rfl ?_
    have hwd : wd ρ.1 = true := decide_eq_true (Or.inl hc1N)
    refine r_bl w96 (L - ρ.1.2.2) ρ.1.2.2 (by omega) _ _ Rd m1 (fun r1 h1 q1 q2 Rd1 f1 => ?_)
    have hsk := skB_p (tp := tp) (L - ρ.1.2.2) ρ.1.2.2
    have hsk1 : ρ.1.2.2 ≤ sk L tp ρ.1.2.2 := hsk.1
    have hsk2 : sk L tp ρ.1.2.2 ≤ L := by have z := hsk.2.1; show skB tp (L - ρ.1.2.2) ρ.1.2.2 ≤ L; omega
    refine aw_aload_n (npc := 72) rfl dX1_advance_71 rfl ?_
    refine aw_aload_n (npc := 73) rfl dX1_advance_72 rfl ?_
    refine aw_get (npc := 76) dX1_advance_73 rfl kf_X1_18 Rd1.1 rfl ?_
    refine aw_top (y := nI (sk L tp ρ.1.2.2)) (q1) ?_
    refine aw_put (npc := 79) dX1_advance_76 rfl kf_X1_25 Rd1.1 (Nat.le_of_ble_eq_true rfl) (am_ok_int _) rfl ?_
    have Rd2 := rd_r3 (v := nI (sk L tp ρ.1.2.2)) Rd1
    refine aw_aload_n (npc := 80) rfl dX1_advance_79 rfl ?_
    refine aw_get (npc := 83) dX1_advance_80 rfl kf_X1_18 Rd2.1 rfl ?_
    refine aw_top (y := r1 1) ((pk_un (by omega))) ?_
    refine aw_top (y := nI (sk L tp ρ.1.2.2)) (q1) ?_
    refine aw_aload_n (npc := 84) rfl dX1_advance_83 rfl ?_
    refine aw_get (npc := 87) dX1_advance_84 rfl kf_X1_12 Rd2.1 rfl ?_
    refine aw_get (npc := 90) dX1_advance_87 rfl kf_X1_73 Rd2.2.1 rfl ?_
    refine aw_icmp_lt (npc := 93) (tgt := 99) dX1_advance_90 rfl (by decide) (fun hc3 => ?_) (fun hc3 => ?_)
    · have hc3N := (nI_ltI (a := (sk L tp ρ.1.2.2)) (b := L) (by omega) (by omega)).mp hc3
      refine aw_aload_n (npc := 100) rfl dX1_advance_99 rfl ?_
      refine aw_aload_n (npc := 101) rfl dX1_advance_100 rfl ?_
      refine aw_get (npc := 104) dX1_advance_101 rfl kf_X1_12 Rd2.1 rfl ?_
      refine aw_get (npc := 107) dX1_advance_104 rfl kf_X1_76 Rd2.2.1 rfl ?_
      refine aw_aload_n (npc := 108) rfl dX1_advance_107 rfl ?_
      refine aw_get (npc := 111) dX1_advance_108 rfl kf_X1_18 Rd2.1 rfl ?_
      refine aw_top (y := r1 1) ((pk_un (by omega))) ?_
      refine aw_top (y := nI (sk L tp ρ.1.2.2)) (q1) ?_
      refine aw_iald (npc := 112) (x := tp (sk L tp ρ.1.2.2)) (j := (sk L tp ρ.1.2.2)) dX1_advance_111 rfl Rd2.2.2.1 (am_ix_nI (by omega)) (tl_at (by omega)) ?_
      refine aw_callS (npc := 115) (N := mX1_sortOf) (mc := 0) (ms := 0) (A := [.int (tp (sk L tp ρ.1.2.2))]) (S := [.ref 39]) (L0 := [some (.int (tp (sk L tp ρ.1.2.2)))]) dX1_advance_112 rfl km_X1_sortOf kk_X1_79 rfl ⟨rfl, by decide⟩ rfl (Nat.le_of_ble_eq_true rfl) (Nat.zero_add _) (Nat.zero_add _) rfl ?_
      refine r_sort ?_
      have hso4 := so_le (tp (sk L tp ρ.1.2.2))
      refine aw_re (S' := [.int (nI (so (tp (sk L tp ρ.1.2.2)))), .ref 39]) rfl ?_
      refine aw_put (npc := 118) dX1_advance_115 rfl kf_X1_22 Rd2.1 (Nat.le_of_ble_eq_true rfl) (am_ok_int _) rfl ?_
      have Rd5 := rd_r2 (v := nI (so (tp (sk L tp ρ.1.2.2)))) Rd2
      refine aw_aload_n (npc := 119) rfl dX1_advance_118 rfl ?_
      refine aw_dup (npc := 120) rfl dX1_advance_119 rfl ?_
      refine aw_get (npc := 123) dX1_advance_120 rfl kf_X1_18 Rd5.1 rfl ?_
      refine aw_top (y := r1 1) (((pk_un (by omega))).trans (pk_un (by omega))) ?_
      refine aw_top (y := nI (sk L tp ρ.1.2.2)) (q1) ?_
      refine aw_iconst (npc := 124) (v := 1) (by decide) dX1_advance_123 rfl ?_
      refine aw_iaddV (npc := 125) (v := nI ((sk L tp ρ.1.2.2) + 1)) dX1_advance_124 rfl (nI_add _ 1) ?_
      refine aw_put (npc := 128) dX1_advance_125 rfl kf_X1_18 Rd5.1 (Nat.le_of_ble_eq_true rfl) (am_ok_int _) rfl ?_
      have Rd6 := rd_r1 (v := nI ((sk L tp ρ.1.2.2) + 1)) Rd5
      refine aw_aload_n (npc := 129) rfl dX1_advance_128 rfl ?_
      refine aw_get (npc := 132) dX1_advance_129 rfl kf_X1_22 Rd6.1 rfl ?_
      refine aw_top (y := nI (so (tp (sk L tp ρ.1.2.2)))) (((pk_un (by omega))).trans pk_us) ?_
      refine aw_iconst (npc := 133) (v := 3) (by decide) dX1_advance_132 rfl ?_
      refine aw_icmp_ne (npc := 136) (tgt := 137) dX1_advance_133 rfl (by decide) (fun hc7 => ?_) (fun hc7 => ?_)
      · have hc7N : ¬ (so (tp (sk L tp ρ.1.2.2))) = 3 := fun z9q => hc7 ((nI_eq (a := (so (tp (sk L tp ρ.1.2.2)))) (b := 3) (by omega) (by omega)).mpr z9q)
        have hso2 : so (tp (sk L tp ρ.1.2.2)) ≤ 4 := so_le _
        refine r_wl (t := so (tp (sk L tp ρ.1.2.2))) w96 (by omega) (L - (sk L tp ρ.1.2.2 + 1)) (sk L tp ρ.1.2.2 + 1) (by omega) _ _ Rd6 pk_us (((pk_un (by decide)).trans pk_us)) (fun r2 h2 p1 p2 Rd2 f2 => ?_)
        have hrn := rnB_p (tp := tp) (t := so (tp (sk L tp ρ.1.2.2))) (L - (sk L tp ρ.1.2.2 + 1)) (sk L tp ρ.1.2.2 + 1)
        have hrn1 : sk L tp ρ.1.2.2 + 1 ≤ rn L tp (so (tp (sk L tp ρ.1.2.2))) (sk L tp ρ.1.2.2 + 1) := hrn.1
        have hrn2 : rn L tp (so (tp (sk L tp ρ.1.2.2))) (sk L tp ρ.1.2.2 + 1) ≤ L := by have z := hrn.2.1; show rnB tp _ (L - (sk L tp ρ.1.2.2 + 1)) (sk L tp ρ.1.2.2 + 1) ≤ L; omega
        have p22 : r2 2 = nI (so (tp (sk L tp ρ.1.2.2))) := (p2 2 (by decide)).trans ((pk_un (by decide)).trans pk_us)
        have p23 : r2 3 = nI (sk L tp ρ.1.2.2) := (p2 3 (by decide)).trans ((pk_un (by decide)).trans ((pk_un (by decide)).trans pk_us))
        refine aw_iload_n (npc := 187) rfl dX1_advance_186 rfl ?_
        refine aw_if_eq (npc := 190) (tgt := 202) dX1_advance_187 rfl (by decide) (fun hc => absurd hc (by decide)) (fun _ => ?_)
        refine aw_aload_n (npc := 191) rfl dX1_advance_190 rfl ?_
        refine aw_get (npc := 194) dX1_advance_191 rfl kf_X1_25 Rd2.1 rfl ?_
        refine aw_top (y := nI (sk L tp ρ.1.2.2)) (p23) ?_
        refine aw_iload_n (npc := 195) rfl dX1_advance_194 rfl ?_
        refine aw_icmp_ne (npc := 198) (tgt := 202) dX1_advance_195 rfl (by decide) (fun hc8 => ?_) (fun hc8 => ?_)
        · have hc8N : ¬ (sk L tp ρ.1.2.2) = ρ.1.2.2 := fun z9q => hc8 ((nI_eq (a := (sk L tp ρ.1.2.2)) (b := ρ.1.2.2) (by omega) (by omega)).mpr z9q)
          refine aw_iconst (npc := 203) (v := 0) (by decide) dX1_advance_202 rfl ?_
          refine aw_istore_n (npc := 204) (L' := [some (.ref 39), some (.int (nI ρ.1.2.2)), some (.int 1), some (.int 0)]) dX1_advance_203 rfl (by decide) rfl rfl ?_
          refine aw_iload_n (npc := 205) rfl dX1_advance_204 rfl ?_
          refine aw_if_ne (npc := 208) (tgt := 229) dX1_advance_205 rfl (by decide) (fun hc => absurd (by decide) hc) (fun _ => ?_)
          refine aw_aload_n (npc := 209) rfl dX1_advance_208 rfl ?_
          refine aw_get (npc := 212) dX1_advance_209 rfl kf_X1_22 Rd2.1 rfl ?_
          refine aw_top (y := nI (so (tp (sk L tp ρ.1.2.2)))) (p22) ?_
          refine aw_iconst (npc := 213) (v := 2) (by decide) dX1_advance_212 rfl ?_
          refine aw_icmp_ne (npc := 216) (tgt := 234) dX1_advance_213 rfl (by decide) (fun hc9 => ?_) (fun hc9 => ?_)
          · have hc9N : ¬ (so (tp (sk L tp ρ.1.2.2))) = 2 := fun z9q => hc9 ((nI_eq (a := (so (tp (sk L tp ρ.1.2.2)))) (b := 2) (by omega) (by omega)).mpr z9q)
            refine aw_vret rfl dX1_advance_234 ?_
            have ea : adv L tp ρ.1 = (so (tp (sk L tp ρ.1.2.2)), sk L tp ρ.1.2.2, rn L tp (so (tp (sk L tp ρ.1.2.2))) (sk L tp ρ.1.2.2 + 1)) := by
              unfold adv nx
              rw [hwd, if_neg (show ¬ L ≤ sk L tp ρ.1.2.2 by omega), if_neg hc7N]
              exact if_neg (fun z => z.elim (fun z => hc8N z.2) (fun y => hc9N y.1))
            exact hq _ ⟨_, _, Rd2, ((p1).trans (show nI (rn L tp (so (tp (sk L tp ρ.1.2.2))) (sk L tp ρ.1.2.2 + 1)) = nI (adv L tp ρ.1).2.2 by rw [ea])), ((p22).trans (show nI (so (tp (sk L tp ρ.1.2.2))) = nI (adv L tp ρ.1).1 by rw [ea])), ((p23).trans (show nI (sk L tp ρ.1.2.2) = nI (adv L tp ρ.1).2.1 by rw [ea])), (((p2 4 (by decide)).trans ((pk_un (by decide)).trans ((pk_un (by decide)).trans ((pk_un (by decide)).trans (q2 4 (by decide)))))).trans m4), (((p2 5 (by decide)).trans ((pk_un (by decide)).trans ((pk_un (by decide)).trans ((pk_un (by decide)).trans (q2 5 (by decide)))))).trans m5), (((p2 7 (by decide)).trans ((pk_un (by decide)).trans ((pk_un (by decide)).trans ((pk_un (by decide)).trans (q2 7 (by decide)))))).trans m7), (((p2 8 (by decide)).trans ((pk_un (by decide)).trans ((pk_un (by decide)).trans ((pk_un (by decide)).trans (q2 8 (by decide)))))).trans m8), (((p2 9 (by decide)).trans ((pk_un (by decide)).trans ((pk_un (by decide)).trans ((pk_un (by decide)).trans (q2 9 (by decide)))))).trans m9), (((p2 10 (by decide)).trans ((pk_un (by decide)).trans ((pk_un (by decide)).trans ((pk_un (by decide)).trans (q2 10 (by decide)))))).trans m10), mc⟩ (am_fpT f2 (am_fpU (show ¬ (39 < 39 ∨ 43 ≤ 39) by omega) (am_fpU (show ¬ (39 < 39 ∨ 43 ≤ 39) by omega) (am_fpU (show ¬ (39 < 39 ∨ 43 ≤ 39) by omega) f1))))
          · have hc9N := (nI_eq (a := (so (tp (sk L tp ρ.1.2.2)))) (b := 2) (by omega) (by omega)).mp hc9
            refine aw_aload_n (npc := 217) rfl dX1_advance_216 rfl ?_
            refine aw_get (npc := 220) dX1_advance_217 rfl kf_X1_18 Rd2.1 rfl ?_
            refine aw_top (y := nI (rn L tp (so (tp (sk L tp ρ.1.2.2))) (sk L tp ρ.1.2.2 + 1))) (p1) ?_
            refine aw_aload_n (npc := 221) rfl dX1_advance_220 rfl ?_
            refine aw_get (npc := 224) dX1_advance_221 rfl kf_X1_25 Rd2.1 rfl ?_
            refine aw_top (y := nI (sk L tp ρ.1.2.2)) (p23) ?_
            refine aw_isubV (npc := 225) (v := nI ((rn L tp (so (tp (sk L tp ρ.1.2.2))) (sk L tp ρ.1.2.2 + 1)) - (sk L tp ρ.1.2.2))) dX1_advance_224 rfl (pk_sub (by omega)) ?_
            refine aw_iconst (npc := 226) (v := 4) (by decide) dX1_advance_225 rfl ?_
            refine aw_icmp_le (npc := 229) (tgt := 234) dX1_advance_226 rfl (by decide) (fun hc10 => ?_) (fun hc10 => ?_)
            · have hc10N := (nI_leI (a := ((rn L tp (so (tp (sk L tp ρ.1.2.2))) (sk L tp ρ.1.2.2 + 1)) - (sk L tp ρ.1.2.2))) (b := 4) (by omega) (by omega)).mp hc10
              refine aw_vret rfl dX1_advance_234 ?_
              have ea : adv L tp ρ.1 = (so (tp (sk L tp ρ.1.2.2)), sk L tp ρ.1.2.2, rn L tp (so (tp (sk L tp ρ.1.2.2))) (sk L tp ρ.1.2.2 + 1)) := by
                unfold adv nx
                rw [hwd, if_neg (show ¬ L ≤ sk L tp ρ.1.2.2 by omega), if_neg hc7N]
                exact if_neg (fun z => z.elim (fun z => hc8N z.2) (fun y => by have z9 := hc10N; have y9 := y.2; omega))
              exact hq _ ⟨_, _, Rd2, ((p1).trans (show nI (rn L tp (so (tp (sk L tp ρ.1.2.2))) (sk L tp ρ.1.2.2 + 1)) = nI (adv L tp ρ.1).2.2 by rw [ea])), ((p22).trans (show nI (so (tp (sk L tp ρ.1.2.2))) = nI (adv L tp ρ.1).1 by rw [ea])), ((p23).trans (show nI (sk L tp ρ.1.2.2) = nI (adv L tp ρ.1).2.1 by rw [ea])), (((p2 4 (by decide)).trans ((pk_un (by decide)).trans ((pk_un (by decide)).trans ((pk_un (by decide)).trans (q2 4 (by decide)))))).trans m4), (((p2 5 (by decide)).trans ((pk_un (by decide)).trans ((pk_un (by decide)).trans ((pk_un (by decide)).trans (q2 5 (by decide)))))).trans m5), (((p2 7 (by decide)).trans ((pk_un (by decide)).trans ((pk_un (by decide)).trans ((pk_un (by decide)).trans (q2 7 (by decide)))))).trans m7), (((p2 8 (by decide)).trans ((pk_un (by decide)).trans ((pk_un (by decide)).trans ((pk_un (by decide)).trans (q2 8 (by decide)))))).trans m8), (((p2 9 (by decide)).trans ((pk_un (by decide)).trans ((pk_un (by decide)).trans ((pk_un (by decide)).trans (q2 9 (by decide)))))).trans m9), (((p2 10 (by decide)).trans ((pk_un (by decide)).trans ((pk_un (by decide)).trans ((pk_un (by decide)).trans (q2 10 (by decide)))))).trans m10), mc⟩ (am_fpT f2 (am_fpU (show ¬ (39 < 39 ∨ 43 ≤ 39) by omega) (am_fpU (show ¬ (39 < 39 ∨ 43 ≤ 39) by omega) (am_fpU (show ¬ (39 < 39 ∨ 43 ≤ 39) by omega) f1))))
            · have hc10N : ¬ ((rn L tp (so (tp (sk L tp ρ.1.2.2))) (sk L tp ρ.1.2.2 + 1)) - (sk L tp ρ.1.2.2)) ≤ 4 := fun z9q => hc10 ((nI_leI (a := ((rn L tp (so (tp (sk L tp ρ.1.2.2))) (sk L tp ρ.1.2.2 + 1)) - (sk L tp ρ.1.2.2))) (b := 4) (by omega) (by omega)).mpr z9q)
              refine aw_aload_n (npc := 230) rfl dX1_advance_229 rfl ?_
              refine aw_iconst (npc := 231) (v := 5) (by decide) dX1_advance_230 rfl ?_
              refine aw_put (npc := 234) dX1_advance_231 rfl kf_X1_22 Rd2.1 (Nat.le_of_ble_eq_true rfl) (am_ok_int _) rfl ?_
              have Rd11 := rd_r2 (v := 5) Rd2
              refine aw_vret rfl dX1_advance_234 ?_
              have ea : adv L tp ρ.1 = (5, sk L tp ρ.1.2.2, rn L tp (so (tp (sk L tp ρ.1.2.2))) (sk L tp ρ.1.2.2 + 1)) := by
                unfold adv nx
                rw [hwd, if_neg (show ¬ L ≤ sk L tp ρ.1.2.2 by omega), if_neg hc7N]
                exact if_pos (Or.inr ⟨hc9N, by have z9 := hc10N; omega⟩)
              exact hq _ ⟨_, _, Rd11, ((((pk_un (by omega))).trans p1).trans (show nI (rn L tp (so (tp (sk L tp ρ.1.2.2))) (sk L tp ρ.1.2.2 + 1)) = nI (adv L tp ρ.1).2.2 by rw [ea])), ((pk_us).trans (show nI (5) = nI (adv L tp ρ.1).1 by rw [ea])), ((((pk_un (by omega))).trans p23).trans (show nI (sk L tp ρ.1.2.2) = nI (adv L tp ρ.1).2.1 by rw [ea])), (((pk_un (by decide)).trans ((p2 4 (by decide)).trans ((pk_un (by decide)).trans ((pk_un (by decide)).trans ((pk_un (by decide)).trans (q2 4 (by decide))))))).trans m4), (((pk_un (by decide)).trans ((p2 5 (by decide)).trans ((pk_un (by decide)).trans ((pk_un (by decide)).trans ((pk_un (by decide)).trans (q2 5 (by decide))))))).trans m5), (((pk_un (by decide)).trans ((p2 7 (by decide)).trans ((pk_un (by decide)).trans ((pk_un (by decide)).trans ((pk_un (by decide)).trans (q2 7 (by decide))))))).trans m7), (((pk_un (by decide)).trans ((p2 8 (by decide)).trans ((pk_un (by decide)).trans ((pk_un (by decide)).trans ((pk_un (by decide)).trans (q2 8 (by decide))))))).trans m8), (((pk_un (by decide)).trans ((p2 9 (by decide)).trans ((pk_un (by decide)).trans ((pk_un (by decide)).trans ((pk_un (by decide)).trans (q2 9 (by decide))))))).trans m9), (((pk_un (by decide)).trans ((p2 10 (by decide)).trans ((pk_un (by decide)).trans ((pk_un (by decide)).trans ((pk_un (by decide)).trans (q2 10 (by decide))))))).trans m10), mc⟩ (am_fpU (show ¬ (39 < 39 ∨ 43 ≤ 39) by omega) (am_fpT f2 (am_fpU (show ¬ (39 < 39 ∨ 43 ≤ 39) by omega) (am_fpU (show ¬ (39 < 39 ∨ 43 ≤ 39) by omega) (am_fpU (show ¬ (39 < 39 ∨ 43 ≤ 39) by omega) f1)))))
        · have hc8N := (nI_eq (a := (sk L tp ρ.1.2.2)) (b := ρ.1.2.2) (by omega) (by omega)).mp hc8
          refine aw_iconst (npc := 199) (v := 1) (by decide) dX1_advance_198 rfl ?_
          refine aw_goto (npc := 203) dX1_advance_199 (by decide) ?_
          refine aw_istore_n (npc := 204) (L' := [some (.ref 39), some (.int (nI ρ.1.2.2)), some (.int 1), some (.int 1)]) dX1_advance_203 rfl (by decide) rfl rfl ?_
          refine aw_iload_n (npc := 205) rfl dX1_advance_204 rfl ?_
          refine aw_if_ne (npc := 208) (tgt := 229) dX1_advance_205 rfl (by decide) (fun _ => ?_) (fun hc => absurd hc (by decide))
          refine aw_aload_n (npc := 230) rfl dX1_advance_229 rfl ?_
          refine aw_iconst (npc := 231) (v := 5) (by decide) dX1_advance_230 rfl ?_
          refine aw_put (npc := 234) dX1_advance_231 rfl kf_X1_22 Rd2.1 (Nat.le_of_ble_eq_true rfl) (am_ok_int _) rfl ?_
          have Rd12 := rd_r2 (v := 5) Rd2
          refine aw_vret rfl dX1_advance_234 ?_
          have ea : adv L tp ρ.1 = (5, sk L tp ρ.1.2.2, rn L tp (so (tp (sk L tp ρ.1.2.2))) (sk L tp ρ.1.2.2 + 1)) := by
            unfold adv nx
            rw [hwd, if_neg (show ¬ L ≤ sk L tp ρ.1.2.2 by omega), if_neg hc7N]
            exact if_pos (Or.inl ⟨rfl, hc8N⟩)
          exact hq _ ⟨_, _, Rd12, ((((pk_un (by omega))).trans p1).trans (show nI (rn L tp (so (tp (sk L tp ρ.1.2.2))) (sk L tp ρ.1.2.2 + 1)) = nI (adv L tp ρ.1).2.2 by rw [ea])), ((pk_us).trans (show nI (5) = nI (adv L tp ρ.1).1 by rw [ea])), ((((pk_un (by omega))).trans p23).trans (show nI (sk L tp ρ.1.2.2) = nI (adv L tp ρ.1).2.1 by rw [ea])), (((pk_un (by decide)).trans ((p2 4 (by decide)).trans ((pk_un (by decide)).trans ((pk_un (by decide)).trans ((pk_un (by decide)).trans (q2 4 (by decide))))))).trans m4), (((pk_un (by decide)).trans ((p2 5 (by decide)).trans ((pk_un (by decide)).trans ((pk_un (by decide)).trans ((pk_un (by decide)).trans (q2 5 (by decide))))))).trans m5), (((pk_un (by decide)).trans ((p2 7 (by decide)).trans ((pk_un (by decide)).trans ((pk_un (by decide)).trans ((pk_un (by decide)).trans (q2 7 (by decide))))))).trans m7), (((pk_un (by decide)).trans ((p2 8 (by decide)).trans ((pk_un (by decide)).trans ((pk_un (by decide)).trans ((pk_un (by decide)).trans (q2 8 (by decide))))))).trans m8), (((pk_un (by decide)).trans ((p2 9 (by decide)).trans ((pk_un (by decide)).trans ((pk_un (by decide)).trans ((pk_un (by decide)).trans (q2 9 (by decide))))))).trans m9), (((pk_un (by decide)).trans ((p2 10 (by decide)).trans ((pk_un (by decide)).trans ((pk_un (by decide)).trans ((pk_un (by decide)).trans (q2 10 (by decide))))))).trans m10), mc⟩ (am_fpU (show ¬ (39 < 39 ∨ 43 ≤ 39) by omega) (am_fpT f2 (am_fpU (show ¬ (39 < 39 ∨ 43 ≤ 39) by omega) (am_fpU (show ¬ (39 < 39 ∨ 43 ≤ 39) by omega) (am_fpU (show ¬ (39 < 39 ∨ 43 ≤ 39) by omega) f1)))))
      · have hc7N := (nI_eq (a := (so (tp (sk L tp ρ.1.2.2)))) (b := 3) (by omega) (by omega)).mp hc7
        refine aw_vret rfl dX1_advance_136 ?_
        have ea : adv L tp ρ.1 = (3, sk L tp ρ.1.2.2, sk L tp ρ.1.2.2 + 1) := (if_neg (by omega)).trans (if_pos hc7N)
        exact hq _ ⟨_, _, Rd6, ((pk_us).trans (show nI (sk L tp ρ.1.2.2 + 1) = nI (adv L tp ρ.1).2.2 by rw [ea])), ((((pk_un (by omega))).trans pk_us).trans (show nI (so (tp (sk L tp ρ.1.2.2))) = nI (adv L tp ρ.1).1 by rw [ea]; exact congrArg nI hc7N)), (((((pk_un (by omega))).trans (pk_un (by omega))).trans pk_us).trans (show nI (sk L tp ρ.1.2.2) = nI (adv L tp ρ.1).2.1 by rw [ea])), (((pk_un (by decide)).trans ((pk_un (by decide)).trans ((pk_un (by decide)).trans (q2 4 (by decide))))).trans m4), (((pk_un (by decide)).trans ((pk_un (by decide)).trans ((pk_un (by decide)).trans (q2 5 (by decide))))).trans m5), (((pk_un (by decide)).trans ((pk_un (by decide)).trans ((pk_un (by decide)).trans (q2 7 (by decide))))).trans m7), (((pk_un (by decide)).trans ((pk_un (by decide)).trans ((pk_un (by decide)).trans (q2 8 (by decide))))).trans m8), (((pk_un (by decide)).trans ((pk_un (by decide)).trans ((pk_un (by decide)).trans (q2 9 (by decide))))).trans m9), (((pk_un (by decide)).trans ((pk_un (by decide)).trans ((pk_un (by decide)).trans (q2 10 (by decide))))).trans m10), mc⟩ (am_fpU (show ¬ (39 < 39 ∨ 43 ≤ 39) by omega) (am_fpU (show ¬ (39 < 39 ∨ 43 ≤ 39) by omega) (am_fpU (show ¬ (39 < 39 ∨ 43 ≤ 39) by omega) f1)))
    · have hc3N : ¬ (sk L tp ρ.1.2.2) < L := fun z9q => hc3 ((nI_ltI (a := (sk L tp ρ.1.2.2)) (b := L) (by omega) (by omega)).mpr z9q)
      refine aw_aload_n (npc := 94) rfl dX1_advance_93 rfl ?_
      refine aw_iconst (npc := 95) (v := 0) (by decide) dX1_advance_94 rfl ?_
      refine aw_put (npc := 98) dX1_advance_95 rfl kf_X1_22 Rd2.1 (Nat.le_of_ble_eq_true rfl) (am_ok_int _) rfl ?_
      have Rd13 := rd_r2 (v := 0) Rd2
      refine aw_vret rfl dX1_advance_98 ?_
      have ea : adv L tp ρ.1 = (0, sk L tp ρ.1.2.2, sk L tp ρ.1.2.2) := if_pos (by omega)
      exact hq _ ⟨_, _, Rd13, (((((pk_un (by omega))).trans (pk_un (by omega))).trans q1).trans (show nI (sk L tp ρ.1.2.2) = nI (adv L tp ρ.1).2.2 by rw [ea])), ((pk_us).trans (show nI (0) = nI (adv L tp ρ.1).1 by rw [ea])), ((((pk_un (by omega))).trans pk_us).trans (show nI (sk L tp ρ.1.2.2) = nI (adv L tp ρ.1).2.1 by rw [ea])), (((pk_un (by decide)).trans ((pk_un (by decide)).trans (q2 4 (by decide)))).trans m4), (((pk_un (by decide)).trans ((pk_un (by decide)).trans (q2 5 (by decide)))).trans m5), (((pk_un (by decide)).trans ((pk_un (by decide)).trans (q2 7 (by decide)))).trans m7), (((pk_un (by decide)).trans ((pk_un (by decide)).trans (q2 8 (by decide)))).trans m8), (((pk_un (by decide)).trans ((pk_un (by decide)).trans (q2 9 (by decide)))).trans m9), (((pk_un (by decide)).trans ((pk_un (by decide)).trans (q2 10 (by decide)))).trans m10), mc⟩ (am_fpU (show ¬ (39 < 39 ∨ 43 ≤ 39) by omega) (am_fpU (show ¬ (39 < 39 ∨ 43 ≤ 39) by omega) f1))
  · have hc1N : ¬ ρ.1.1 = 1 := fun z9q => hc1 ((nI_eq (a := ρ.1.1) (b := 1) (by omega) (by omega)).mpr z9q)
    refine aw_aload_n (npc := 14) rfl dX1_advance_13 rfl ?_
    refine aw_get (npc := 17) dX1_advance_14 rfl kf_X1_22 Rd.1 rfl ?_
    refine aw_top (y := nI ρ.1.1) (m2) ?_
    refine aw_iconst (npc := 18) (v := 2) (by decide) dX1_advance_17 rfl ?_
    refine aw_icmp_ne (npc := 21) (tgt := 25) dX1_advance_18 rfl (by decide) (fun hc14 => ?_) (fun hc14 => ?_)
    · have hc14N : ¬ ρ.1.1 = 2 := fun z9q => hc14 ((nI_eq (a := ρ.1.1) (b := 2) (by omega) (by omega)).mpr z9q)
      refine aw_iconst (npc := 26) (v := 0) (by decide) dX1_advance_25 rfl ?_
      refine aw_istore_n (npc := 27) (L' := [some (.ref 39), some (.int (nI ρ.1.2.2)), some (.int 0), none]) dX1_advance_26 rfl (by decide) rfl rfl ?_
      have hwd : wd ρ.1 = false := decide_eq_false (fun z => z.elim hc1N hc14N)
      refine r_bl w96 (L - ρ.1.2.2) ρ.1.2.2 (by omega) _ _ Rd m1 (fun r1 h1 q1 q2 Rd1 f1 => ?_)
      have hsk := skB_p (tp := tp) (L - ρ.1.2.2) ρ.1.2.2
      have hsk1 : ρ.1.2.2 ≤ sk L tp ρ.1.2.2 := hsk.1
      have hsk2 : sk L tp ρ.1.2.2 ≤ L := by have z := hsk.2.1; show skB tp (L - ρ.1.2.2) ρ.1.2.2 ≤ L; omega
      refine aw_aload_n (npc := 72) rfl dX1_advance_71 rfl ?_
      refine aw_aload_n (npc := 73) rfl dX1_advance_72 rfl ?_
      refine aw_get (npc := 76) dX1_advance_73 rfl kf_X1_18 Rd1.1 rfl ?_
      refine aw_top (y := nI (sk L tp ρ.1.2.2)) (q1) ?_
      refine aw_put (npc := 79) dX1_advance_76 rfl kf_X1_25 Rd1.1 (Nat.le_of_ble_eq_true rfl) (am_ok_int _) rfl ?_
      have Rd15 := rd_r3 (v := nI (sk L tp ρ.1.2.2)) Rd1
      refine aw_aload_n (npc := 80) rfl dX1_advance_79 rfl ?_
      refine aw_get (npc := 83) dX1_advance_80 rfl kf_X1_18 Rd15.1 rfl ?_
      refine aw_top (y := r1 1) ((pk_un (by omega))) ?_
      refine aw_top (y := nI (sk L tp ρ.1.2.2)) (q1) ?_
      refine aw_aload_n (npc := 84) rfl dX1_advance_83 rfl ?_
      refine aw_get (npc := 87) dX1_advance_84 rfl kf_X1_12 Rd15.1 rfl ?_
      refine aw_get (npc := 90) dX1_advance_87 rfl kf_X1_73 Rd15.2.1 rfl ?_
      refine aw_icmp_lt (npc := 93) (tgt := 99) dX1_advance_90 rfl (by decide) (fun hc16 => ?_) (fun hc16 => ?_)
      · have hc16N := (nI_ltI (a := (sk L tp ρ.1.2.2)) (b := L) (by omega) (by omega)).mp hc16
        refine aw_aload_n (npc := 100) rfl dX1_advance_99 rfl ?_
        refine aw_aload_n (npc := 101) rfl dX1_advance_100 rfl ?_
        refine aw_get (npc := 104) dX1_advance_101 rfl kf_X1_12 Rd15.1 rfl ?_
        refine aw_get (npc := 107) dX1_advance_104 rfl kf_X1_76 Rd15.2.1 rfl ?_
        refine aw_aload_n (npc := 108) rfl dX1_advance_107 rfl ?_
        refine aw_get (npc := 111) dX1_advance_108 rfl kf_X1_18 Rd15.1 rfl ?_
        refine aw_top (y := r1 1) ((pk_un (by omega))) ?_
        refine aw_top (y := nI (sk L tp ρ.1.2.2)) (q1) ?_
        refine aw_iald (npc := 112) (x := tp (sk L tp ρ.1.2.2)) (j := (sk L tp ρ.1.2.2)) dX1_advance_111 rfl Rd15.2.2.1 (am_ix_nI (by omega)) (tl_at (by omega)) ?_
        refine aw_callS (npc := 115) (N := mX1_sortOf) (mc := 0) (ms := 0) (A := [.int (tp (sk L tp ρ.1.2.2))]) (S := [.ref 39]) (L0 := [some (.int (tp (sk L tp ρ.1.2.2)))]) dX1_advance_112 rfl km_X1_sortOf kk_X1_79 rfl ⟨rfl, by decide⟩ rfl (Nat.le_of_ble_eq_true rfl) (Nat.zero_add _) (Nat.zero_add _) rfl ?_
        refine r_sort ?_
        have hso17 := so_le (tp (sk L tp ρ.1.2.2))
        refine aw_re (S' := [.int (nI (so (tp (sk L tp ρ.1.2.2)))), .ref 39]) rfl ?_
        refine aw_put (npc := 118) dX1_advance_115 rfl kf_X1_22 Rd15.1 (Nat.le_of_ble_eq_true rfl) (am_ok_int _) rfl ?_
        have Rd18 := rd_r2 (v := nI (so (tp (sk L tp ρ.1.2.2)))) Rd15
        refine aw_aload_n (npc := 119) rfl dX1_advance_118 rfl ?_
        refine aw_dup (npc := 120) rfl dX1_advance_119 rfl ?_
        refine aw_get (npc := 123) dX1_advance_120 rfl kf_X1_18 Rd18.1 rfl ?_
        refine aw_top (y := r1 1) (((pk_un (by omega))).trans (pk_un (by omega))) ?_
        refine aw_top (y := nI (sk L tp ρ.1.2.2)) (q1) ?_
        refine aw_iconst (npc := 124) (v := 1) (by decide) dX1_advance_123 rfl ?_
        refine aw_iaddV (npc := 125) (v := nI ((sk L tp ρ.1.2.2) + 1)) dX1_advance_124 rfl (nI_add _ 1) ?_
        refine aw_put (npc := 128) dX1_advance_125 rfl kf_X1_18 Rd18.1 (Nat.le_of_ble_eq_true rfl) (am_ok_int _) rfl ?_
        have Rd19 := rd_r1 (v := nI ((sk L tp ρ.1.2.2) + 1)) Rd18
        refine aw_aload_n (npc := 129) rfl dX1_advance_128 rfl ?_
        refine aw_get (npc := 132) dX1_advance_129 rfl kf_X1_22 Rd19.1 rfl ?_
        refine aw_top (y := nI (so (tp (sk L tp ρ.1.2.2)))) (((pk_un (by omega))).trans pk_us) ?_
        refine aw_iconst (npc := 133) (v := 3) (by decide) dX1_advance_132 rfl ?_
        refine aw_icmp_ne (npc := 136) (tgt := 137) dX1_advance_133 rfl (by decide) (fun hc20 => ?_) (fun hc20 => ?_)
        · have hc20N : ¬ (so (tp (sk L tp ρ.1.2.2))) = 3 := fun z9q => hc20 ((nI_eq (a := (so (tp (sk L tp ρ.1.2.2)))) (b := 3) (by omega) (by omega)).mpr z9q)
          have hso2 : so (tp (sk L tp ρ.1.2.2)) ≤ 4 := so_le _
          refine r_wl (t := so (tp (sk L tp ρ.1.2.2))) w96 (by omega) (L - (sk L tp ρ.1.2.2 + 1)) (sk L tp ρ.1.2.2 + 1) (by omega) _ _ Rd19 pk_us (((pk_un (by decide)).trans pk_us)) (fun r2 h2 p1 p2 Rd2 f2 => ?_)
          have hrn := rnB_p (tp := tp) (t := so (tp (sk L tp ρ.1.2.2))) (L - (sk L tp ρ.1.2.2 + 1)) (sk L tp ρ.1.2.2 + 1)
          have hrn1 : sk L tp ρ.1.2.2 + 1 ≤ rn L tp (so (tp (sk L tp ρ.1.2.2))) (sk L tp ρ.1.2.2 + 1) := hrn.1
          have hrn2 : rn L tp (so (tp (sk L tp ρ.1.2.2))) (sk L tp ρ.1.2.2 + 1) ≤ L := by have z := hrn.2.1; show rnB tp _ (L - (sk L tp ρ.1.2.2 + 1)) (sk L tp ρ.1.2.2 + 1) ≤ L; omega
          have p22 : r2 2 = nI (so (tp (sk L tp ρ.1.2.2))) := (p2 2 (by decide)).trans ((pk_un (by decide)).trans pk_us)
          have p23 : r2 3 = nI (sk L tp ρ.1.2.2) := (p2 3 (by decide)).trans ((pk_un (by decide)).trans ((pk_un (by decide)).trans pk_us))
          refine aw_iload_n (npc := 187) rfl dX1_advance_186 rfl ?_
          refine aw_if_eq (npc := 190) (tgt := 202) dX1_advance_187 rfl (by decide) (fun _ => ?_) (fun hc => absurd (by decide) hc)
          refine aw_iconst (npc := 203) (v := 0) (by decide) dX1_advance_202 rfl ?_
          refine aw_istore_n (npc := 204) (L' := [some (.ref 39), some (.int (nI ρ.1.2.2)), some (.int 0), some (.int 0)]) dX1_advance_203 rfl (by decide) rfl rfl ?_
          refine aw_iload_n (npc := 205) rfl dX1_advance_204 rfl ?_
          refine aw_if_ne (npc := 208) (tgt := 229) dX1_advance_205 rfl (by decide) (fun hc => absurd (by decide) hc) (fun _ => ?_)
          refine aw_aload_n (npc := 209) rfl dX1_advance_208 rfl ?_
          refine aw_get (npc := 212) dX1_advance_209 rfl kf_X1_22 Rd2.1 rfl ?_
          refine aw_top (y := nI (so (tp (sk L tp ρ.1.2.2)))) (p22) ?_
          refine aw_iconst (npc := 213) (v := 2) (by decide) dX1_advance_212 rfl ?_
          refine aw_icmp_ne (npc := 216) (tgt := 234) dX1_advance_213 rfl (by decide) (fun hc21 => ?_) (fun hc21 => ?_)
          · have hc21N : ¬ (so (tp (sk L tp ρ.1.2.2))) = 2 := fun z9q => hc21 ((nI_eq (a := (so (tp (sk L tp ρ.1.2.2)))) (b := 2) (by omega) (by omega)).mpr z9q)
            refine aw_vret rfl dX1_advance_234 ?_
            have ea : adv L tp ρ.1 = (so (tp (sk L tp ρ.1.2.2)), sk L tp ρ.1.2.2, rn L tp (so (tp (sk L tp ρ.1.2.2))) (sk L tp ρ.1.2.2 + 1)) := by
              unfold adv nx
              rw [hwd, if_neg (show ¬ L ≤ sk L tp ρ.1.2.2 by omega), if_neg hc20N]
              exact if_neg (fun z => z.elim (fun z => absurd z.1 (by decide)) (fun y => hc21N y.1))
            exact hq _ ⟨_, _, Rd2, ((p1).trans (show nI (rn L tp (so (tp (sk L tp ρ.1.2.2))) (sk L tp ρ.1.2.2 + 1)) = nI (adv L tp ρ.1).2.2 by rw [ea])), ((p22).trans (show nI (so (tp (sk L tp ρ.1.2.2))) = nI (adv L tp ρ.1).1 by rw [ea])), ((p23).trans (show nI (sk L tp ρ.1.2.2) = nI (adv L tp ρ.1).2.1 by rw [ea])), (((p2 4 (by decide)).trans ((pk_un (by decide)).trans ((pk_un (by decide)).trans ((pk_un (by decide)).trans (q2 4 (by decide)))))).trans m4), (((p2 5 (by decide)).trans ((pk_un (by decide)).trans ((pk_un (by decide)).trans ((pk_un (by decide)).trans (q2 5 (by decide)))))).trans m5), (((p2 7 (by decide)).trans ((pk_un (by decide)).trans ((pk_un (by decide)).trans ((pk_un (by decide)).trans (q2 7 (by decide)))))).trans m7), (((p2 8 (by decide)).trans ((pk_un (by decide)).trans ((pk_un (by decide)).trans ((pk_un (by decide)).trans (q2 8 (by decide)))))).trans m8), (((p2 9 (by decide)).trans ((pk_un (by decide)).trans ((pk_un (by decide)).trans ((pk_un (by decide)).trans (q2 9 (by decide)))))).trans m9), (((p2 10 (by decide)).trans ((pk_un (by decide)).trans ((pk_un (by decide)).trans ((pk_un (by decide)).trans (q2 10 (by decide)))))).trans m10), mc⟩ (am_fpT f2 (am_fpU (show ¬ (39 < 39 ∨ 43 ≤ 39) by omega) (am_fpU (show ¬ (39 < 39 ∨ 43 ≤ 39) by omega) (am_fpU (show ¬ (39 < 39 ∨ 43 ≤ 39) by omega) f1))))
          · have hc21N := (nI_eq (a := (so (tp (sk L tp ρ.1.2.2)))) (b := 2) (by omega) (by omega)).mp hc21
            refine aw_aload_n (npc := 217) rfl dX1_advance_216 rfl ?_
            refine aw_get (npc := 220) dX1_advance_217 rfl kf_X1_18 Rd2.1 rfl ?_
            refine aw_top (y := nI (rn L tp (so (tp (sk L tp ρ.1.2.2))) (sk L tp ρ.1.2.2 + 1))) (p1) ?_
            refine aw_aload_n (npc := 221) rfl dX1_advance_220 rfl ?_
            refine aw_get (npc := 224) dX1_advance_221 rfl kf_X1_25 Rd2.1 rfl ?_
            refine aw_top (y := nI (sk L tp ρ.1.2.2)) (p23) ?_
            refine aw_isubV (npc := 225) (v := nI ((rn L tp (so (tp (sk L tp ρ.1.2.2))) (sk L tp ρ.1.2.2 + 1)) - (sk L tp ρ.1.2.2))) dX1_advance_224 rfl (pk_sub (by omega)) ?_
            refine aw_iconst (npc := 226) (v := 4) (by decide) dX1_advance_225 rfl ?_
            refine aw_icmp_le (npc := 229) (tgt := 234) dX1_advance_226 rfl (by decide) (fun hc22 => ?_) (fun hc22 => ?_)
            · have hc22N := (nI_leI (a := ((rn L tp (so (tp (sk L tp ρ.1.2.2))) (sk L tp ρ.1.2.2 + 1)) - (sk L tp ρ.1.2.2))) (b := 4) (by omega) (by omega)).mp hc22
              refine aw_vret rfl dX1_advance_234 ?_
              have ea : adv L tp ρ.1 = (so (tp (sk L tp ρ.1.2.2)), sk L tp ρ.1.2.2, rn L tp (so (tp (sk L tp ρ.1.2.2))) (sk L tp ρ.1.2.2 + 1)) := by
                unfold adv nx
                rw [hwd, if_neg (show ¬ L ≤ sk L tp ρ.1.2.2 by omega), if_neg hc20N]
                exact if_neg (fun z => z.elim (fun z => absurd z.1 (by decide)) (fun y => by have z9 := hc22N; have y9 := y.2; omega))
              exact hq _ ⟨_, _, Rd2, ((p1).trans (show nI (rn L tp (so (tp (sk L tp ρ.1.2.2))) (sk L tp ρ.1.2.2 + 1)) = nI (adv L tp ρ.1).2.2 by rw [ea])), ((p22).trans (show nI (so (tp (sk L tp ρ.1.2.2))) = nI (adv L tp ρ.1).1 by rw [ea])), ((p23).trans (show nI (sk L tp ρ.1.2.2) = nI (adv L tp ρ.1).2.1 by rw [ea])), (((p2 4 (by decide)).trans ((pk_un (by decide)).trans ((pk_un (by decide)).trans ((pk_un (by decide)).trans (q2 4 (by decide)))))).trans m4), (((p2 5 (by decide)).trans ((pk_un (by decide)).trans ((pk_un (by decide)).trans ((pk_un (by decide)).trans (q2 5 (by decide)))))).trans m5), (((p2 7 (by decide)).trans ((pk_un (by decide)).trans ((pk_un (by decide)).trans ((pk_un (by decide)).trans (q2 7 (by decide)))))).trans m7), (((p2 8 (by decide)).trans ((pk_un (by decide)).trans ((pk_un (by decide)).trans ((pk_un (by decide)).trans (q2 8 (by decide)))))).trans m8), (((p2 9 (by decide)).trans ((pk_un (by decide)).trans ((pk_un (by decide)).trans ((pk_un (by decide)).trans (q2 9 (by decide)))))).trans m9), (((p2 10 (by decide)).trans ((pk_un (by decide)).trans ((pk_un (by decide)).trans ((pk_un (by decide)).trans (q2 10 (by decide)))))).trans m10), mc⟩ (am_fpT f2 (am_fpU (show ¬ (39 < 39 ∨ 43 ≤ 39) by omega) (am_fpU (show ¬ (39 < 39 ∨ 43 ≤ 39) by omega) (am_fpU (show ¬ (39 < 39 ∨ 43 ≤ 39) by omega) f1))))
            · have hc22N : ¬ ((rn L tp (so (tp (sk L tp ρ.1.2.2))) (sk L tp ρ.1.2.2 + 1)) - (sk L tp ρ.1.2.2)) ≤ 4 := fun z9q => hc22 ((nI_leI (a := ((rn L tp (so (tp (sk L tp ρ.1.2.2))) (sk L tp ρ.1.2.2 + 1)) - (sk L tp ρ.1.2.2))) (b := 4) (by omega) (by omega)).mpr z9q)
              refine aw_aload_n (npc := 230) rfl dX1_advance_229 rfl ?_
              refine aw_iconst (npc := 231) (v := 5) (by decide) dX1_advance_230 rfl ?_
              refine aw_put (npc := 234) dX1_advance_231 rfl kf_X1_22 Rd2.1 (Nat.le_of_ble_eq_true rfl) (am_ok_int _) rfl ?_
              have Rd23 := rd_r2 (v := 5) Rd2
              refine aw_vret rfl dX1_advance_234 ?_
              have ea : adv L tp ρ.1 = (5, sk L tp ρ.1.2.2, rn L tp (so (tp (sk L tp ρ.1.2.2))) (sk L tp ρ.1.2.2 + 1)) := by
                unfold adv nx
                rw [hwd, if_neg (show ¬ L ≤ sk L tp ρ.1.2.2 by omega), if_neg hc20N]
                exact if_pos (Or.inr ⟨hc21N, by have z9 := hc22N; omega⟩)
              exact hq _ ⟨_, _, Rd23, ((((pk_un (by omega))).trans p1).trans (show nI (rn L tp (so (tp (sk L tp ρ.1.2.2))) (sk L tp ρ.1.2.2 + 1)) = nI (adv L tp ρ.1).2.2 by rw [ea])), ((pk_us).trans (show nI (5) = nI (adv L tp ρ.1).1 by rw [ea])), ((((pk_un (by omega))).trans p23).trans (show nI (sk L tp ρ.1.2.2) = nI (adv L tp ρ.1).2.1 by rw [ea])), (((pk_un (by decide)).trans ((p2 4 (by decide)).trans ((pk_un (by decide)).trans ((pk_un (by decide)).trans ((pk_un (by decide)).trans (q2 4 (by decide))))))).trans m4), (((pk_un (by decide)).trans ((p2 5 (by decide)).trans ((pk_un (by decide)).trans ((pk_un (by decide)).trans ((pk_un (by decide)).trans (q2 5 (by decide))))))).trans m5), (((pk_un (by decide)).trans ((p2 7 (by decide)).trans ((pk_un (by decide)).trans ((pk_un (by decide)).trans ((pk_un (by decide)).trans (q2 7 (by decide))))))).trans m7), (((pk_un (by decide)).trans ((p2 8 (by decide)).trans ((pk_un (by decide)).trans ((pk_un (by decide)).trans ((pk_un (by decide)).trans (q2 8 (by decide))))))).trans m8), (((pk_un (by decide)).trans ((p2 9 (by decide)).trans ((pk_un (by decide)).trans ((pk_un (by decide)).trans ((pk_un (by decide)).trans (q2 9 (by decide))))))).trans m9), (((pk_un (by decide)).trans ((p2 10 (by decide)).trans ((pk_un (by decide)).trans ((pk_un (by decide)).trans ((pk_un (by decide)).trans (q2 10 (by decide))))))).trans m10), mc⟩ (am_fpU (show ¬ (39 < 39 ∨ 43 ≤ 39) by omega) (am_fpT f2 (am_fpU (show ¬ (39 < 39 ∨ 43 ≤ 39) by omega) (am_fpU (show ¬ (39 < 39 ∨ 43 ≤ 39) by omega) (am_fpU (show ¬ (39 < 39 ∨ 43 ≤ 39) by omega) f1)))))
        · have hc20N := (nI_eq (a := (so (tp (sk L tp ρ.1.2.2)))) (b := 3) (by omega) (by omega)).mp hc20
          refine aw_vret rfl dX1_advance_136 ?_
          have ea : adv L tp ρ.1 = (3, sk L tp ρ.1.2.2, sk L tp ρ.1.2.2 + 1) := (if_neg (by omega)).trans (if_pos hc20N)
          exact hq _ ⟨_, _, Rd19, ((pk_us).trans (show nI (sk L tp ρ.1.2.2 + 1) = nI (adv L tp ρ.1).2.2 by rw [ea])), ((((pk_un (by omega))).trans pk_us).trans (show nI (so (tp (sk L tp ρ.1.2.2))) = nI (adv L tp ρ.1).1 by rw [ea]; exact congrArg nI hc20N)), (((((pk_un (by omega))).trans (pk_un (by omega))).trans pk_us).trans (show nI (sk L tp ρ.1.2.2) = nI (adv L tp ρ.1).2.1 by rw [ea])), (((pk_un (by decide)).trans ((pk_un (by decide)).trans ((pk_un (by decide)).trans (q2 4 (by decide))))).trans m4), (((pk_un (by decide)).trans ((pk_un (by decide)).trans ((pk_un (by decide)).trans (q2 5 (by decide))))).trans m5), (((pk_un (by decide)).trans ((pk_un (by decide)).trans ((pk_un (by decide)).trans (q2 7 (by decide))))).trans m7), (((pk_un (by decide)).trans ((pk_un (by decide)).trans ((pk_un (by decide)).trans (q2 8 (by decide))))).trans m8), (((pk_un (by decide)).trans ((pk_un (by decide)).trans ((pk_un (by decide)).trans (q2 9 (by decide))))).trans m9), (((pk_un (by decide)).trans ((pk_un (by decide)).trans ((pk_un (by decide)).trans (q2 10 (by decide))))).trans m10), mc⟩ (am_fpU (show ¬ (39 < 39 ∨ 43 ≤ 39) by omega) (am_fpU (show ¬ (39 < 39 ∨ 43 ≤ 39) by omega) (am_fpU (show ¬ (39 < 39 ∨ 43 ≤ 39) by omega) f1)))
      · have hc16N : ¬ (sk L tp ρ.1.2.2) < L := fun z9q => hc16 ((nI_ltI (a := (sk L tp ρ.1.2.2)) (b := L) (by omega) (by omega)).mpr z9q)
        refine aw_aload_n (npc := 94) rfl dX1_advance_93 rfl ?_
        refine aw_iconst (npc := 95) (v := 0) (by decide) dX1_advance_94 rfl ?_
        refine aw_put (npc := 98) dX1_advance_95 rfl kf_X1_22 Rd15.1 (Nat.le_of_ble_eq_true rfl) (am_ok_int _) rfl ?_
        have Rd24 := rd_r2 (v := 0) Rd15
        refine aw_vret rfl dX1_advance_98 ?_
        have ea : adv L tp ρ.1 = (0, sk L tp ρ.1.2.2, sk L tp ρ.1.2.2) := if_pos (by omega)
        exact hq _ ⟨_, _, Rd24, (((((pk_un (by omega))).trans (pk_un (by omega))).trans q1).trans (show nI (sk L tp ρ.1.2.2) = nI (adv L tp ρ.1).2.2 by rw [ea])), ((pk_us).trans (show nI (0) = nI (adv L tp ρ.1).1 by rw [ea])), ((((pk_un (by omega))).trans pk_us).trans (show nI (sk L tp ρ.1.2.2) = nI (adv L tp ρ.1).2.1 by rw [ea])), (((pk_un (by decide)).trans ((pk_un (by decide)).trans (q2 4 (by decide)))).trans m4), (((pk_un (by decide)).trans ((pk_un (by decide)).trans (q2 5 (by decide)))).trans m5), (((pk_un (by decide)).trans ((pk_un (by decide)).trans (q2 7 (by decide)))).trans m7), (((pk_un (by decide)).trans ((pk_un (by decide)).trans (q2 8 (by decide)))).trans m8), (((pk_un (by decide)).trans ((pk_un (by decide)).trans (q2 9 (by decide)))).trans m9), (((pk_un (by decide)).trans ((pk_un (by decide)).trans (q2 10 (by decide)))).trans m10), mc⟩ (am_fpU (show ¬ (39 < 39 ∨ 43 ≤ 39) by omega) (am_fpU (show ¬ (39 < 39 ∨ 43 ≤ 39) by omega) f1))
    · have hc14N := (nI_eq (a := ρ.1.1) (b := 2) (by omega) (by omega)).mp hc14
      refine aw_iconst (npc := 22) (v := 1) (by decide) dX1_advance_21 rfl ?_
      refine aw_goto (npc := 26) dX1_advance_22 (by decide) ?_
      refine aw_istore_n (npc := 27) (L' := [some (.ref 39), some (.int (nI ρ.1.2.2)), some (.int 1), none]) dX1_advance_26 rfl (by decide) rfl rfl ?_
      have hwd : wd ρ.1 = true := decide_eq_true (Or.inr hc14N)
      refine r_bl w96 (L - ρ.1.2.2) ρ.1.2.2 (by omega) _ _ Rd m1 (fun r1 h1 q1 q2 Rd1 f1 => ?_)
      have hsk := skB_p (tp := tp) (L - ρ.1.2.2) ρ.1.2.2
      have hsk1 : ρ.1.2.2 ≤ sk L tp ρ.1.2.2 := hsk.1
      have hsk2 : sk L tp ρ.1.2.2 ≤ L := by have z := hsk.2.1; show skB tp (L - ρ.1.2.2) ρ.1.2.2 ≤ L; omega
      refine aw_aload_n (npc := 72) rfl dX1_advance_71 rfl ?_
      refine aw_aload_n (npc := 73) rfl dX1_advance_72 rfl ?_
      refine aw_get (npc := 76) dX1_advance_73 rfl kf_X1_18 Rd1.1 rfl ?_
      refine aw_top (y := nI (sk L tp ρ.1.2.2)) (q1) ?_
      refine aw_put (npc := 79) dX1_advance_76 rfl kf_X1_25 Rd1.1 (Nat.le_of_ble_eq_true rfl) (am_ok_int _) rfl ?_
      have Rd25 := rd_r3 (v := nI (sk L tp ρ.1.2.2)) Rd1
      refine aw_aload_n (npc := 80) rfl dX1_advance_79 rfl ?_
      refine aw_get (npc := 83) dX1_advance_80 rfl kf_X1_18 Rd25.1 rfl ?_
      refine aw_top (y := r1 1) ((pk_un (by omega))) ?_
      refine aw_top (y := nI (sk L tp ρ.1.2.2)) (q1) ?_
      refine aw_aload_n (npc := 84) rfl dX1_advance_83 rfl ?_
      refine aw_get (npc := 87) dX1_advance_84 rfl kf_X1_12 Rd25.1 rfl ?_
      refine aw_get (npc := 90) dX1_advance_87 rfl kf_X1_73 Rd25.2.1 rfl ?_
      refine aw_icmp_lt (npc := 93) (tgt := 99) dX1_advance_90 rfl (by decide) (fun hc26 => ?_) (fun hc26 => ?_)
      · have hc26N := (nI_ltI (a := (sk L tp ρ.1.2.2)) (b := L) (by omega) (by omega)).mp hc26
        refine aw_aload_n (npc := 100) rfl dX1_advance_99 rfl ?_
        refine aw_aload_n (npc := 101) rfl dX1_advance_100 rfl ?_
        refine aw_get (npc := 104) dX1_advance_101 rfl kf_X1_12 Rd25.1 rfl ?_
        refine aw_get (npc := 107) dX1_advance_104 rfl kf_X1_76 Rd25.2.1 rfl ?_
        refine aw_aload_n (npc := 108) rfl dX1_advance_107 rfl ?_
        refine aw_get (npc := 111) dX1_advance_108 rfl kf_X1_18 Rd25.1 rfl ?_
        refine aw_top (y := r1 1) ((pk_un (by omega))) ?_
        refine aw_top (y := nI (sk L tp ρ.1.2.2)) (q1) ?_
        refine aw_iald (npc := 112) (x := tp (sk L tp ρ.1.2.2)) (j := (sk L tp ρ.1.2.2)) dX1_advance_111 rfl Rd25.2.2.1 (am_ix_nI (by omega)) (tl_at (by omega)) ?_
        refine aw_callS (npc := 115) (N := mX1_sortOf) (mc := 0) (ms := 0) (A := [.int (tp (sk L tp ρ.1.2.2))]) (S := [.ref 39]) (L0 := [some (.int (tp (sk L tp ρ.1.2.2)))]) dX1_advance_112 rfl km_X1_sortOf kk_X1_79 rfl ⟨rfl, by decide⟩ rfl (Nat.le_of_ble_eq_true rfl) (Nat.zero_add _) (Nat.zero_add _) rfl ?_
        refine r_sort ?_
        have hso27 := so_le (tp (sk L tp ρ.1.2.2))
        refine aw_re (S' := [.int (nI (so (tp (sk L tp ρ.1.2.2)))), .ref 39]) rfl ?_
        refine aw_put (npc := 118) dX1_advance_115 rfl kf_X1_22 Rd25.1 (Nat.le_of_ble_eq_true rfl) (am_ok_int _) rfl ?_
        have Rd28 := rd_r2 (v := nI (so (tp (sk L tp ρ.1.2.2)))) Rd25
        refine aw_aload_n (npc := 119) rfl dX1_advance_118 rfl ?_
        refine aw_dup (npc := 120) rfl dX1_advance_119 rfl ?_
        refine aw_get (npc := 123) dX1_advance_120 rfl kf_X1_18 Rd28.1 rfl ?_
        refine aw_top (y := r1 1) (((pk_un (by omega))).trans (pk_un (by omega))) ?_
        refine aw_top (y := nI (sk L tp ρ.1.2.2)) (q1) ?_
        refine aw_iconst (npc := 124) (v := 1) (by decide) dX1_advance_123 rfl ?_
        refine aw_iaddV (npc := 125) (v := nI ((sk L tp ρ.1.2.2) + 1)) dX1_advance_124 rfl (nI_add _ 1) ?_
        refine aw_put (npc := 128) dX1_advance_125 rfl kf_X1_18 Rd28.1 (Nat.le_of_ble_eq_true rfl) (am_ok_int _) rfl ?_
        have Rd29 := rd_r1 (v := nI ((sk L tp ρ.1.2.2) + 1)) Rd28
        refine aw_aload_n (npc := 129) rfl dX1_advance_128 rfl ?_
        refine aw_get (npc := 132) dX1_advance_129 rfl kf_X1_22 Rd29.1 rfl ?_
        refine aw_top (y := nI (so (tp (sk L tp ρ.1.2.2)))) (((pk_un (by omega))).trans pk_us) ?_
        refine aw_iconst (npc := 133) (v := 3) (by decide) dX1_advance_132 rfl ?_
        refine aw_icmp_ne (npc := 136) (tgt := 137) dX1_advance_133 rfl (by decide) (fun hc30 => ?_) (fun hc30 => ?_)
        · have hc30N : ¬ (so (tp (sk L tp ρ.1.2.2))) = 3 := fun z9q => hc30 ((nI_eq (a := (so (tp (sk L tp ρ.1.2.2)))) (b := 3) (by omega) (by omega)).mpr z9q)
          have hso2 : so (tp (sk L tp ρ.1.2.2)) ≤ 4 := so_le _
          refine r_wl (t := so (tp (sk L tp ρ.1.2.2))) w96 (by omega) (L - (sk L tp ρ.1.2.2 + 1)) (sk L tp ρ.1.2.2 + 1) (by omega) _ _ Rd29 pk_us (((pk_un (by decide)).trans pk_us)) (fun r2 h2 p1 p2 Rd2 f2 => ?_)
          have hrn := rnB_p (tp := tp) (t := so (tp (sk L tp ρ.1.2.2))) (L - (sk L tp ρ.1.2.2 + 1)) (sk L tp ρ.1.2.2 + 1)
          have hrn1 : sk L tp ρ.1.2.2 + 1 ≤ rn L tp (so (tp (sk L tp ρ.1.2.2))) (sk L tp ρ.1.2.2 + 1) := hrn.1
          have hrn2 : rn L tp (so (tp (sk L tp ρ.1.2.2))) (sk L tp ρ.1.2.2 + 1) ≤ L := by have z := hrn.2.1; show rnB tp _ (L - (sk L tp ρ.1.2.2 + 1)) (sk L tp ρ.1.2.2 + 1) ≤ L; omega
          have p22 : r2 2 = nI (so (tp (sk L tp ρ.1.2.2))) := (p2 2 (by decide)).trans ((pk_un (by decide)).trans pk_us)
          have p23 : r2 3 = nI (sk L tp ρ.1.2.2) := (p2 3 (by decide)).trans ((pk_un (by decide)).trans ((pk_un (by decide)).trans pk_us))
          refine aw_iload_n (npc := 187) rfl dX1_advance_186 rfl ?_
          refine aw_if_eq (npc := 190) (tgt := 202) dX1_advance_187 rfl (by decide) (fun hc => absurd hc (by decide)) (fun _ => ?_)
          refine aw_aload_n (npc := 191) rfl dX1_advance_190 rfl ?_
          refine aw_get (npc := 194) dX1_advance_191 rfl kf_X1_25 Rd2.1 rfl ?_
          refine aw_top (y := nI (sk L tp ρ.1.2.2)) (p23) ?_
          refine aw_iload_n (npc := 195) rfl dX1_advance_194 rfl ?_
          refine aw_icmp_ne (npc := 198) (tgt := 202) dX1_advance_195 rfl (by decide) (fun hc31 => ?_) (fun hc31 => ?_)
          · have hc31N : ¬ (sk L tp ρ.1.2.2) = ρ.1.2.2 := fun z9q => hc31 ((nI_eq (a := (sk L tp ρ.1.2.2)) (b := ρ.1.2.2) (by omega) (by omega)).mpr z9q)
            refine aw_iconst (npc := 203) (v := 0) (by decide) dX1_advance_202 rfl ?_
            refine aw_istore_n (npc := 204) (L' := [some (.ref 39), some (.int (nI ρ.1.2.2)), some (.int 1), some (.int 0)]) dX1_advance_203 rfl (by decide) rfl rfl ?_
            refine aw_iload_n (npc := 205) rfl dX1_advance_204 rfl ?_
            refine aw_if_ne (npc := 208) (tgt := 229) dX1_advance_205 rfl (by decide) (fun hc => absurd (by decide) hc) (fun _ => ?_)
            refine aw_aload_n (npc := 209) rfl dX1_advance_208 rfl ?_
            refine aw_get (npc := 212) dX1_advance_209 rfl kf_X1_22 Rd2.1 rfl ?_
            refine aw_top (y := nI (so (tp (sk L tp ρ.1.2.2)))) (p22) ?_
            refine aw_iconst (npc := 213) (v := 2) (by decide) dX1_advance_212 rfl ?_
            refine aw_icmp_ne (npc := 216) (tgt := 234) dX1_advance_213 rfl (by decide) (fun hc32 => ?_) (fun hc32 => ?_)
            · have hc32N : ¬ (so (tp (sk L tp ρ.1.2.2))) = 2 := fun z9q => hc32 ((nI_eq (a := (so (tp (sk L tp ρ.1.2.2)))) (b := 2) (by omega) (by omega)).mpr z9q)
              refine aw_vret rfl dX1_advance_234 ?_
              have ea : adv L tp ρ.1 = (so (tp (sk L tp ρ.1.2.2)), sk L tp ρ.1.2.2, rn L tp (so (tp (sk L tp ρ.1.2.2))) (sk L tp ρ.1.2.2 + 1)) := by
                unfold adv nx
                rw [hwd, if_neg (show ¬ L ≤ sk L tp ρ.1.2.2 by omega), if_neg hc30N]
                exact if_neg (fun z => z.elim (fun z => hc31N z.2) (fun y => hc32N y.1))
              exact hq _ ⟨_, _, Rd2, ((p1).trans (show nI (rn L tp (so (tp (sk L tp ρ.1.2.2))) (sk L tp ρ.1.2.2 + 1)) = nI (adv L tp ρ.1).2.2 by rw [ea])), ((p22).trans (show nI (so (tp (sk L tp ρ.1.2.2))) = nI (adv L tp ρ.1).1 by rw [ea])), ((p23).trans (show nI (sk L tp ρ.1.2.2) = nI (adv L tp ρ.1).2.1 by rw [ea])), (((p2 4 (by decide)).trans ((pk_un (by decide)).trans ((pk_un (by decide)).trans ((pk_un (by decide)).trans (q2 4 (by decide)))))).trans m4), (((p2 5 (by decide)).trans ((pk_un (by decide)).trans ((pk_un (by decide)).trans ((pk_un (by decide)).trans (q2 5 (by decide)))))).trans m5), (((p2 7 (by decide)).trans ((pk_un (by decide)).trans ((pk_un (by decide)).trans ((pk_un (by decide)).trans (q2 7 (by decide)))))).trans m7), (((p2 8 (by decide)).trans ((pk_un (by decide)).trans ((pk_un (by decide)).trans ((pk_un (by decide)).trans (q2 8 (by decide)))))).trans m8), (((p2 9 (by decide)).trans ((pk_un (by decide)).trans ((pk_un (by decide)).trans ((pk_un (by decide)).trans (q2 9 (by decide)))))).trans m9), (((p2 10 (by decide)).trans ((pk_un (by decide)).trans ((pk_un (by decide)).trans ((pk_un (by decide)).trans (q2 10 (by decide)))))).trans m10), mc⟩ (am_fpT f2 (am_fpU (show ¬ (39 < 39 ∨ 43 ≤ 39) by omega) (am_fpU (show ¬ (39 < 39 ∨ 43 ≤ 39) by omega) (am_fpU (show ¬ (39 < 39 ∨ 43 ≤ 39) by omega) f1))))
            · have hc32N := (nI_eq (a := (so (tp (sk L tp ρ.1.2.2)))) (b := 2) (by omega) (by omega)).mp hc32
              refine aw_aload_n (npc := 217) rfl dX1_advance_216 rfl ?_
              refine aw_get (npc := 220) dX1_advance_217 rfl kf_X1_18 Rd2.1 rfl ?_
              refine aw_top (y := nI (rn L tp (so (tp (sk L tp ρ.1.2.2))) (sk L tp ρ.1.2.2 + 1))) (p1) ?_
              refine aw_aload_n (npc := 221) rfl dX1_advance_220 rfl ?_
              refine aw_get (npc := 224) dX1_advance_221 rfl kf_X1_25 Rd2.1 rfl ?_
              refine aw_top (y := nI (sk L tp ρ.1.2.2)) (p23) ?_
              refine aw_isubV (npc := 225) (v := nI ((rn L tp (so (tp (sk L tp ρ.1.2.2))) (sk L tp ρ.1.2.2 + 1)) - (sk L tp ρ.1.2.2))) dX1_advance_224 rfl (pk_sub (by omega)) ?_
              refine aw_iconst (npc := 226) (v := 4) (by decide) dX1_advance_225 rfl ?_
              refine aw_icmp_le (npc := 229) (tgt := 234) dX1_advance_226 rfl (by decide) (fun hc33 => ?_) (fun hc33 => ?_)
              · have hc33N := (nI_leI (a := ((rn L tp (so (tp (sk L tp ρ.1.2.2))) (sk L tp ρ.1.2.2 + 1)) - (sk L tp ρ.1.2.2))) (b := 4) (by omega) (by omega)).mp hc33
                refine aw_vret rfl dX1_advance_234 ?_
                have ea : adv L tp ρ.1 = (so (tp (sk L tp ρ.1.2.2)), sk L tp ρ.1.2.2, rn L tp (so (tp (sk L tp ρ.1.2.2))) (sk L tp ρ.1.2.2 + 1)) := by
                  unfold adv nx
                  rw [hwd, if_neg (show ¬ L ≤ sk L tp ρ.1.2.2 by omega), if_neg hc30N]
                  exact if_neg (fun z => z.elim (fun z => hc31N z.2) (fun y => by have z9 := hc33N; have y9 := y.2; omega))
                exact hq _ ⟨_, _, Rd2, ((p1).trans (show nI (rn L tp (so (tp (sk L tp ρ.1.2.2))) (sk L tp ρ.1.2.2 + 1)) = nI (adv L tp ρ.1).2.2 by rw [ea])), ((p22).trans (show nI (so (tp (sk L tp ρ.1.2.2))) = nI (adv L tp ρ.1).1 by rw [ea])), ((p23).trans (show nI (sk L tp ρ.1.2.2) = nI (adv L tp ρ.1).2.1 by rw [ea])), (((p2 4 (by decide)).trans ((pk_un (by decide)).trans ((pk_un (by decide)).trans ((pk_un (by decide)).trans (q2 4 (by decide)))))).trans m4), (((p2 5 (by decide)).trans ((pk_un (by decide)).trans ((pk_un (by decide)).trans ((pk_un (by decide)).trans (q2 5 (by decide)))))).trans m5), (((p2 7 (by decide)).trans ((pk_un (by decide)).trans ((pk_un (by decide)).trans ((pk_un (by decide)).trans (q2 7 (by decide)))))).trans m7), (((p2 8 (by decide)).trans ((pk_un (by decide)).trans ((pk_un (by decide)).trans ((pk_un (by decide)).trans (q2 8 (by decide)))))).trans m8), (((p2 9 (by decide)).trans ((pk_un (by decide)).trans ((pk_un (by decide)).trans ((pk_un (by decide)).trans (q2 9 (by decide)))))).trans m9), (((p2 10 (by decide)).trans ((pk_un (by decide)).trans ((pk_un (by decide)).trans ((pk_un (by decide)).trans (q2 10 (by decide)))))).trans m10), mc⟩ (am_fpT f2 (am_fpU (show ¬ (39 < 39 ∨ 43 ≤ 39) by omega) (am_fpU (show ¬ (39 < 39 ∨ 43 ≤ 39) by omega) (am_fpU (show ¬ (39 < 39 ∨ 43 ≤ 39) by omega) f1))))
              · have hc33N : ¬ ((rn L tp (so (tp (sk L tp ρ.1.2.2))) (sk L tp ρ.1.2.2 + 1)) - (sk L tp ρ.1.2.2)) ≤ 4 := fun z9q => hc33 ((nI_leI (a := ((rn L tp (so (tp (sk L tp ρ.1.2.2))) (sk L tp ρ.1.2.2 + 1)) - (sk L tp ρ.1.2.2))) (b := 4) (by omega) (by omega)).mpr z9q)
                refine aw_aload_n (npc := 230) rfl dX1_advance_229 rfl ?_
                refine aw_iconst (npc := 231) (v := 5) (by decide) dX1_advance_230 rfl ?_
                refine aw_put (npc := 234) dX1_advance_231 rfl kf_X1_22 Rd2.1 (Nat.le_of_ble_eq_true rfl) (am_ok_int _) rfl ?_
                have Rd34 := rd_r2 (v := 5) Rd2
                refine aw_vret rfl dX1_advance_234 ?_
                have ea : adv L tp ρ.1 = (5, sk L tp ρ.1.2.2, rn L tp (so (tp (sk L tp ρ.1.2.2))) (sk L tp ρ.1.2.2 + 1)) := by
                  unfold adv nx
                  rw [hwd, if_neg (show ¬ L ≤ sk L tp ρ.1.2.2 by omega), if_neg hc30N]
                  exact if_pos (Or.inr ⟨hc32N, by have z9 := hc33N; omega⟩)
                exact hq _ ⟨_, _, Rd34, ((((pk_un (by omega))).trans p1).trans (show nI (rn L tp (so (tp (sk L tp ρ.1.2.2))) (sk L tp ρ.1.2.2 + 1)) = nI (adv L tp ρ.1).2.2 by rw [ea])), ((pk_us).trans (show nI (5) = nI (adv L tp ρ.1).1 by rw [ea])), ((((pk_un (by omega))).trans p23).trans (show nI (sk L tp ρ.1.2.2) = nI (adv L tp ρ.1).2.1 by rw [ea])), (((pk_un (by decide)).trans ((p2 4 (by decide)).trans ((pk_un (by decide)).trans ((pk_un (by decide)).trans ((pk_un (by decide)).trans (q2 4 (by decide))))))).trans m4), (((pk_un (by decide)).trans ((p2 5 (by decide)).trans ((pk_un (by decide)).trans ((pk_un (by decide)).trans ((pk_un (by decide)).trans (q2 5 (by decide))))))).trans m5), (((pk_un (by decide)).trans ((p2 7 (by decide)).trans ((pk_un (by decide)).trans ((pk_un (by decide)).trans ((pk_un (by decide)).trans (q2 7 (by decide))))))).trans m7), (((pk_un (by decide)).trans ((p2 8 (by decide)).trans ((pk_un (by decide)).trans ((pk_un (by decide)).trans ((pk_un (by decide)).trans (q2 8 (by decide))))))).trans m8), (((pk_un (by decide)).trans ((p2 9 (by decide)).trans ((pk_un (by decide)).trans ((pk_un (by decide)).trans ((pk_un (by decide)).trans (q2 9 (by decide))))))).trans m9), (((pk_un (by decide)).trans ((p2 10 (by decide)).trans ((pk_un (by decide)).trans ((pk_un (by decide)).trans ((pk_un (by decide)).trans (q2 10 (by decide))))))).trans m10), mc⟩ (am_fpU (show ¬ (39 < 39 ∨ 43 ≤ 39) by omega) (am_fpT f2 (am_fpU (show ¬ (39 < 39 ∨ 43 ≤ 39) by omega) (am_fpU (show ¬ (39 < 39 ∨ 43 ≤ 39) by omega) (am_fpU (show ¬ (39 < 39 ∨ 43 ≤ 39) by omega) f1)))))
          · have hc31N := (nI_eq (a := (sk L tp ρ.1.2.2)) (b := ρ.1.2.2) (by omega) (by omega)).mp hc31
            refine aw_iconst (npc := 199) (v := 1) (by decide) dX1_advance_198 rfl ?_
            refine aw_goto (npc := 203) dX1_advance_199 (by decide) ?_
            refine aw_istore_n (npc := 204) (L' := [some (.ref 39), some (.int (nI ρ.1.2.2)), some (.int 1), some (.int 1)]) dX1_advance_203 rfl (by decide) rfl rfl ?_
            refine aw_iload_n (npc := 205) rfl dX1_advance_204 rfl ?_
            refine aw_if_ne (npc := 208) (tgt := 229) dX1_advance_205 rfl (by decide) (fun _ => ?_) (fun hc => absurd hc (by decide))
            refine aw_aload_n (npc := 230) rfl dX1_advance_229 rfl ?_
            refine aw_iconst (npc := 231) (v := 5) (by decide) dX1_advance_230 rfl ?_
            refine aw_put (npc := 234) dX1_advance_231 rfl kf_X1_22 Rd2.1 (Nat.le_of_ble_eq_true rfl) (am_ok_int _) rfl ?_
            have Rd35 := rd_r2 (v := 5) Rd2
            refine aw_vret rfl dX1_advance_234 ?_
            have ea : adv L tp ρ.1 = (5, sk L tp ρ.1.2.2, rn L tp (so (tp (sk L tp ρ.1.2.2))) (sk L tp ρ.1.2.2 + 1)) := by
              unfold adv nx
              rw [hwd, if_neg (show ¬ L ≤ sk L tp ρ.1.2.2 by omega), if_neg hc30N]
              exact if_pos (Or.inl ⟨rfl, hc31N⟩)
            exact hq _ ⟨_, _, Rd35, ((((pk_un (by omega))).trans p1).trans (show nI (rn L tp (so (tp (sk L tp ρ.1.2.2))) (sk L tp ρ.1.2.2 + 1)) = nI (adv L tp ρ.1).2.2 by rw [ea])), ((pk_us).trans (show nI (5) = nI (adv L tp ρ.1).1 by rw [ea])), ((((pk_un (by omega))).trans p23).trans (show nI (sk L tp ρ.1.2.2) = nI (adv L tp ρ.1).2.1 by rw [ea])), (((pk_un (by decide)).trans ((p2 4 (by decide)).trans ((pk_un (by decide)).trans ((pk_un (by decide)).trans ((pk_un (by decide)).trans (q2 4 (by decide))))))).trans m4), (((pk_un (by decide)).trans ((p2 5 (by decide)).trans ((pk_un (by decide)).trans ((pk_un (by decide)).trans ((pk_un (by decide)).trans (q2 5 (by decide))))))).trans m5), (((pk_un (by decide)).trans ((p2 7 (by decide)).trans ((pk_un (by decide)).trans ((pk_un (by decide)).trans ((pk_un (by decide)).trans (q2 7 (by decide))))))).trans m7), (((pk_un (by decide)).trans ((p2 8 (by decide)).trans ((pk_un (by decide)).trans ((pk_un (by decide)).trans ((pk_un (by decide)).trans (q2 8 (by decide))))))).trans m8), (((pk_un (by decide)).trans ((p2 9 (by decide)).trans ((pk_un (by decide)).trans ((pk_un (by decide)).trans ((pk_un (by decide)).trans (q2 9 (by decide))))))).trans m9), (((pk_un (by decide)).trans ((p2 10 (by decide)).trans ((pk_un (by decide)).trans ((pk_un (by decide)).trans ((pk_un (by decide)).trans (q2 10 (by decide))))))).trans m10), mc⟩ (am_fpU (show ¬ (39 < 39 ∨ 43 ≤ 39) by omega) (am_fpT f2 (am_fpU (show ¬ (39 < 39 ∨ 43 ≤ 39) by omega) (am_fpU (show ¬ (39 < 39 ∨ 43 ≤ 39) by omega) (am_fpU (show ¬ (39 < 39 ∨ 43 ≤ 39) by omega) f1)))))
        · have hc30N := (nI_eq (a := (so (tp (sk L tp ρ.1.2.2)))) (b := 3) (by omega) (by omega)).mp hc30
          refine aw_vret rfl dX1_advance_136 ?_
          have ea : adv L tp ρ.1 = (3, sk L tp ρ.1.2.2, sk L tp ρ.1.2.2 + 1) := (if_neg (by omega)).trans (if_pos hc30N)
          exact hq _ ⟨_, _, Rd29, ((pk_us).trans (show nI (sk L tp ρ.1.2.2 + 1) = nI (adv L tp ρ.1).2.2 by rw [ea])), ((((pk_un (by omega))).trans pk_us).trans (show nI (so (tp (sk L tp ρ.1.2.2))) = nI (adv L tp ρ.1).1 by rw [ea]; exact congrArg nI hc30N)), (((((pk_un (by omega))).trans (pk_un (by omega))).trans pk_us).trans (show nI (sk L tp ρ.1.2.2) = nI (adv L tp ρ.1).2.1 by rw [ea])), (((pk_un (by decide)).trans ((pk_un (by decide)).trans ((pk_un (by decide)).trans (q2 4 (by decide))))).trans m4), (((pk_un (by decide)).trans ((pk_un (by decide)).trans ((pk_un (by decide)).trans (q2 5 (by decide))))).trans m5), (((pk_un (by decide)).trans ((pk_un (by decide)).trans ((pk_un (by decide)).trans (q2 7 (by decide))))).trans m7), (((pk_un (by decide)).trans ((pk_un (by decide)).trans ((pk_un (by decide)).trans (q2 8 (by decide))))).trans m8), (((pk_un (by decide)).trans ((pk_un (by decide)).trans ((pk_un (by decide)).trans (q2 9 (by decide))))).trans m9), (((pk_un (by decide)).trans ((pk_un (by decide)).trans ((pk_un (by decide)).trans (q2 10 (by decide))))).trans m10), mc⟩ (am_fpU (show ¬ (39 < 39 ∨ 43 ≤ 39) by omega) (am_fpU (show ¬ (39 < 39 ∨ 43 ≤ 39) by omega) (am_fpU (show ¬ (39 < 39 ∨ 43 ≤ 39) by omega) f1)))
      · have hc26N : ¬ (sk L tp ρ.1.2.2) < L := fun z9q => hc26 ((nI_ltI (a := (sk L tp ρ.1.2.2)) (b := L) (by omega) (by omega)).mpr z9q)
        refine aw_aload_n (npc := 94) rfl dX1_advance_93 rfl ?_
        refine aw_iconst (npc := 95) (v := 0) (by decide) dX1_advance_94 rfl ?_
        refine aw_put (npc := 98) dX1_advance_95 rfl kf_X1_22 Rd25.1 (Nat.le_of_ble_eq_true rfl) (am_ok_int _) rfl ?_
        have Rd36 := rd_r2 (v := 0) Rd25
        refine aw_vret rfl dX1_advance_98 ?_
        have ea : adv L tp ρ.1 = (0, sk L tp ρ.1.2.2, sk L tp ρ.1.2.2) := if_pos (by omega)
        exact hq _ ⟨_, _, Rd36, (((((pk_un (by omega))).trans (pk_un (by omega))).trans q1).trans (show nI (sk L tp ρ.1.2.2) = nI (adv L tp ρ.1).2.2 by rw [ea])), ((pk_us).trans (show nI (0) = nI (adv L tp ρ.1).1 by rw [ea])), ((((pk_un (by omega))).trans pk_us).trans (show nI (sk L tp ρ.1.2.2) = nI (adv L tp ρ.1).2.1 by rw [ea])), (((pk_un (by decide)).trans ((pk_un (by decide)).trans (q2 4 (by decide)))).trans m4), (((pk_un (by decide)).trans ((pk_un (by decide)).trans (q2 5 (by decide)))).trans m5), (((pk_un (by decide)).trans ((pk_un (by decide)).trans (q2 7 (by decide)))).trans m7), (((pk_un (by decide)).trans ((pk_un (by decide)).trans (q2 8 (by decide)))).trans m8), (((pk_un (by decide)).trans ((pk_un (by decide)).trans (q2 9 (by decide)))).trans m9), (((pk_un (by decide)).trans ((pk_un (by decide)).trans (q2 10 (by decide)))).trans m10), mc⟩ (am_fpU (show ¬ (39 < 39 ∨ 43 ≤ 39) by omega) (am_fpU (show ¬ (39 < 39 ∨ 43 ≤ 39) by omega) f1))
theorem wr_I {L : Nat} {tp : Nat → Int32} {k : Int32} (hL : L ≤ 96) : WR L tp (avF L tp (ρI k)) := ⟨(nx_wf (Nat.zero_le _)).1, hL, by show (0 : Nat) ≤ 96; omega, by show (0 : Nat) ≤ 8; omega, by show (0 : Nat) ≤ 8; omega, fun q hq => by cases hq⟩
theorem rk_d {L : Nat} {tp : Nat → Int32} {ρ : RS} : (rkF L tp ρ).2.2.2.2.2 = ρ.2.2.2.2.2 := by
  unfold rkF cI
  repeat' split
  all_goals rfl
set_option maxHeartbeats 4000000 in
set_option maxRecDepth 100000 in
theorem r_find {X : List Int32} {d rc rs n : Nat} {Q : am_Q} {h : am_H} {L : Nat} {tp : Nat → Int32} {r cd : Nat → Int32} (hL : L ≤ 96) (Rd : RD r (nI L) tp cd h) (hq : ∀ h9, RX (ffF L tp (r 5)) L tp h9 → am_fp (fun k => k < 39 ∨ 43 ≤ k) h9 h → Q (some (.int (fI (ffF L tp (r 5)).2.1))) n h9) : AW X mX1_findFault (d + 710) rc rs 0 [some (.ref 39)] [] n h Q := by
  have hO := pc_ok (L := L) (tp := tp) 17
  have hOr := r_or (P := pcF L tp 17) (r_and (P := pcF L tp 17) (r_test (P := pcF L tp 17) (r_sum (P := pcF L tp 17) (r_prod (r_piece 17) hO) (pd_ok hO)) (sm_ok hO)) (tsF_ok hO)) (an_ok hO)
  refine aw_aload_n (npc := 1) rfl dX1_findFault_0 rfl ?_
  refine aw_iconst (npc := 2) (v := 0) (by decide) dX1_findFault_1 rfl ?_
  refine aw_put (npc := 5) dX1_findFault_2 rfl kf_X1_18 Rd.1 (Nat.le_of_ble_eq_true rfl) (am_ok_int _) rfl ?_
  have Rd1 := rd_r1 (v := 0) Rd
  refine aw_aload_n (npc := 6) rfl dX1_findFault_5 rfl ?_
  refine aw_iconst (npc := 7) (v := 0) (by decide) dX1_findFault_6 rfl ?_
  refine aw_put (npc := 10) dX1_findFault_7 rfl kf_X1_22 Rd1.1 (Nat.le_of_ble_eq_true rfl) (am_ok_int _) rfl ?_
  have Rd2 := rd_r2 (v := 0) Rd1
  refine aw_aload_n (npc := 11) rfl dX1_findFault_10 rfl ?_
  refine aw_iconst (npc := 12) (v := -1) (by decide) dX1_findFault_11 rfl ?_
  refine aw_put (npc := 15) dX1_findFault_12 rfl kf_X1_28 Rd2.1 (Nat.le_of_ble_eq_true rfl) (am_ok_int _) rfl ?_
  have Rd3 := rd_r4 (v := (-1)) Rd2
  refine aw_aload_n (npc := 16) rfl dX1_findFault_15 rfl ?_
  refine aw_iconst (npc := 17) (v := 0) (by decide) dX1_findFault_16 rfl ?_
  refine aw_put (npc := 20) dX1_findFault_17 rfl kf_X1_38 Rd3.1 (Nat.le_of_ble_eq_true rfl) (am_ok_int _) rfl ?_
  have Rd4 := rd_r7 (v := 0) Rd3
  refine aw_aload_n (npc := 21) rfl dX1_findFault_20 rfl ?_
  refine aw_iconst (npc := 22) (v := 0) (by decide) dX1_findFault_21 rfl ?_
  refine aw_put (npc := 25) dX1_findFault_22 rfl kf_X1_41 Rd4.1 (Nat.le_of_ble_eq_true rfl) (am_ok_int _) rfl ?_
  have Rd5 := rd_r8 (v := 0) Rd4
  refine aw_aload_n (npc := 26) rfl dX1_findFault_25 rfl ?_
  refine aw_iconst (npc := 27) (v := 0) (by decide) dX1_findFault_26 rfl ?_
  refine aw_put (npc := 30) dX1_findFault_27 rfl kf_X1_44 Rd5.1 (Nat.le_of_ble_eq_true rfl) (am_ok_int _) rfl ?_
  have Rd6 := rd_r9 (v := 0) Rd5
  refine aw_aload_n (npc := 31) rfl dX1_findFault_30 rfl ?_
  refine aw_iconst (npc := 32) (v := 0) (by decide) dX1_findFault_31 rfl ?_
  refine aw_put (npc := 35) dX1_findFault_32 rfl kf_X1_47 Rd6.1 (Nat.le_of_ble_eq_true rfl) (am_ok_int _) rfl ?_
  have Rd7 := rd_r10 (v := 0) Rd6
  refine aw_aload_n (npc := 36) rfl dX1_findFault_35 rfl ?_
  refine aw_callV (npc := 39) (N := mX1_advance) (b := 39) (mc := 0) (ms := 0) (A := []) (S := []) (L0 := [some (.ref 39), none, none, none]) dX1_findFault_36 rfl km_X1_advance kk_X1_50 Rd7.1 ⟨by decide, rfl⟩ rfl ⟨rfl, by decide⟩ rfl (Nat.le_of_ble_eq_true rfl) (Nat.zero_add _) (Nat.zero_add _) rfl ?_
  refine r_adv3 (ρ := ρI (r 5)) ⟨_, _, Rd7, ((((((((pk_un (by omega))).trans (pk_un (by omega))).trans (pk_un (by omega))).trans (pk_un (by omega))).trans (pk_un (by omega))).trans (pk_un (by omega))).trans pk_us), (((((((pk_un (by omega))).trans (pk_un (by omega))).trans (pk_un (by omega))).trans (pk_un (by omega))).trans (pk_un (by omega))).trans pk_us), ((((((pk_un (by omega))).trans (pk_un (by omega))).trans (pk_un (by omega))).trans (pk_un (by omega))).trans pk_us), ((((((((pk_un (by omega))).trans (pk_un (by omega))).trans (pk_un (by omega))).trans (pk_un (by omega))).trans (pk_un (by omega))).trans (pk_un (by omega))).trans (pk_un (by omega))), (((((pk_un (by omega))).trans (pk_un (by omega))).trans (pk_un (by omega))).trans pk_us), ((((pk_un (by omega))).trans (pk_un (by omega))).trans pk_us), (((pk_un (by omega))).trans pk_us), (pk_us), fun j hj => absurd hj (Nat.not_lt_zero j)⟩ hL (Nat.zero_le _) (Nat.zero_le _) (fun hp Ha fz => ?_)
  have Wa := wr_I (L := L) (tp := tp) (k := r 5) hL
  refine aw_aload_n (npc := 40) rfl dX1_findFault_39 rfl ?_
  obtain ⟨r1u, cd1u, Rd1u, m1_1, m2_1, m3_1, m4_1, m5_1, m7_1, m8_1, m9_1, m10_1, mc_1⟩ := id Ha
  refine aw_callV (npc := 43) (N := mX1_readKey) (b := 39) (mc := 0) (ms := 0) (A := []) (S := []) (L0 := [some (.ref 39)]) dX1_findFault_40 rfl km_X1_readKey kk_X1_53 Rd1u.1 ⟨by decide, rfl⟩ rfl ⟨rfl, by decide⟩ rfl (Nat.le_of_ble_eq_true rfl) (Nat.zero_add _) (Nat.zero_add _) rfl ?_
  refine r_key  Ha Wa (fun hp8 Hr9 fz10 => ?_)
  have fyfz10 : ∀ k, (k < 39 ∨ 43 ≤ k) → hp8 k = _ := fun k hk => fz10 k hk
  have Wf11 : WR L tp (rkF L tp (avF L tp (ρI (r 5)))) := wr_rk Wa
  refine aw_aload_n (npc := 44) rfl dX1_findFault_43 rfl ?_
  obtain ⟨r2u, cd2u, Rd2u, m1_2, m2_2, m3_2, m4_2, m5_2, m7_2, m8_2, m9_2, m10_2, mc_2⟩ := id Hr9
  refine aw_callV (npc := 47) (N := mX1_readOr) (b := 39) (mc := 0) (ms := 0) (A := []) (S := []) (L0 := [some (.ref 39), none]) dX1_findFault_44 rfl km_X1_readOr kk_X1_56 Rd2u.1 ⟨by decide, rfl⟩ rfl ⟨rfl, by decide⟩ rfl (Nat.le_of_ble_eq_true rfl) (Nat.zero_add _) (Nat.zero_add _) rfl ?_
  have hd9 : 17 ≤ 17 + (rkF L tp (avF L tp (ρI (r 5)))).2.2.2.2.2.1 + (rkF L tp (avF L tp (ρI (r 5)))).2.2.2.2.2.2 := by omega
  refine aw_dd (d2 := d + 4 + 705) (by omega) ?_
  refine hOr _ _ _ _ _ _ _ (rkF L tp (avF L tp (ρI (r 5)))) Hr9 Wf11 hd9 (fun hp2 Ho fz2 => ?_)
  have Wo := (or_ok (pc_ok 17)) (rkF L tp (avF L tp (ρI (r 5)))) Wf11 hd9
  obtain ⟨wk, w96, wcl, wob, wog, wft⟩ := id Wo.1
  have wt : (ffC L tp (r 5)).1.1 ≤ 5 := wk.2.2.1
  have fyz2 : ∀ k, (k < 39 ∨ 43 ≤ k) → hp2 k = _ := fun k hk => fz2 k hk
  refine aw_aload_n (npc := 48) rfl dX1_findFault_47 rfl ?_
  obtain ⟨r3u, cd3u, Rd3u, m1_3, m2_3, m3_3, m4_3, m5_3, m7_3, m8_3, m9_3, m10_3, mc_3⟩ := id Ho
  refine aw_get (npc := 51) dX1_findFault_48 rfl kf_X1_22 Rd3u.1 rfl ?_
  refine aw_top (y := nI (ffC L tp (r 5)).1.1) (m2_3) ?_
  refine aw_if_eq (npc := 54) (tgt := 58) dX1_findFault_51 rfl (by decide) (fun hc12 => ?_) (fun hc12 => ?_)
  · have hc12N := (nI_eq (a := (ffC L tp (r 5)).1.1) (b := 0) (by omega) (by omega)).mp hc12
    refine aw_aload_n (npc := 59) rfl dX1_findFault_58 rfl ?_
    refine aw_get (npc := 62) dX1_findFault_59 rfl kf_X1_28 Rd3u.1 rfl ?_
    refine aw_top (y := fI (ffC L tp (r 5)).2.1) (m4_3) ?_
    refine aw_iret rfl dX1_findFault_62 ?_
    have e9 : ffF L tp (r 5) = ffC L tp (r 5) := (cI_t (show (ffC L tp (r 5)).1.1 = 0 from hc12N))
    exact (congrArg (fun z : RS => fI z.2.1) e9) ▸ hq _ (rx_c e9.symm Ho) (am_fpT (fun k (hk : k < 39 ∨ 43 ≤ k) => fyz2 k (by omega)) (am_fpT (fun k (hk : k < 39 ∨ 43 ≤ k) => fyfz10 k (by omega)) (am_fpT fz (am_fpU (show ¬ (39 < 39 ∨ 43 ≤ 39) by omega) (am_fpU (show ¬ (39 < 39 ∨ 43 ≤ 39) by omega) (am_fpU (show ¬ (39 < 39 ∨ 43 ≤ 39) by omega) (am_fpU (show ¬ (39 < 39 ∨ 43 ≤ 39) by omega) (am_fpU (show ¬ (39 < 39 ∨ 43 ≤ 39) by omega) (am_fpU (show ¬ (39 < 39 ∨ 43 ≤ 39) by omega) (am_fpU (show ¬ (39 < 39 ∨ 43 ≤ 39) by omega) am_fp0))))))))))
  · have hc12N : ¬ ((ffC L tp (r 5)).1.1) = 0 := fun z9q => hc12 ((nI_eq (a := (ffC L tp (r 5)).1.1) (b := 0) (by omega) (by omega)).mpr z9q)
    refine aw_aload_n (npc := 55) rfl dX1_findFault_54 rfl ?_
    refine aw_callV (npc := 58) (N := mX1_fail) (b := 39) (mc := 0) (ms := 0) (A := []) (S := []) (L0 := [some (.ref 39)]) dX1_findFault_55 rfl km_X1_fail kk_X1_59 Rd3u.1 ⟨by decide, rfl⟩ rfl ⟨rfl, by decide⟩ rfl (Nat.le_of_ble_eq_true rfl) (Nat.zero_add _) (Nat.zero_add _) rfl ?_
    refine r_fail  Ho Wo.1 (fun hp13 Hr14 fz15 => ?_)
    have fyfz15 : ∀ k, (k < 39 ∨ 43 ≤ k) → hp13 k = _ := fun k hk => fz15 k hk
    have Wf16 : WR L tp (flF (ffC L tp (r 5))) := wr_fl Wo.1
    refine aw_aload_n (npc := 59) rfl dX1_findFault_58 rfl ?_
    obtain ⟨r4u, cd4u, Rd4u, m1_4, m2_4, m3_4, m4_4, m5_4, m7_4, m8_4, m9_4, m10_4, mc_4⟩ := id Hr14
    refine aw_get (npc := 62) dX1_findFault_59 rfl kf_X1_28 Rd4u.1 rfl ?_
    refine aw_top (y := fI (flF (ffC L tp (r 5))).2.1) (m4_4) ?_
    refine aw_iret rfl dX1_findFault_62 ?_
    have e9 : ffF L tp (r 5) = flF (ffC L tp (r 5)) := (cI_f (show ¬ (ffC L tp (r 5)).1.1 = 0 from hc12N))
    exact (congrArg (fun z : RS => fI z.2.1) e9) ▸ hq _ (rx_c e9.symm Hr14) (am_fpT (fun k (hk : k < 39 ∨ 43 ≤ k) => fyfz15 k (by omega)) (am_fpT (fun k (hk : k < 39 ∨ 43 ≤ k) => fyz2 k (by omega)) (am_fpT (fun k (hk : k < 39 ∨ 43 ≤ k) => fyfz10 k (by omega)) (am_fpT fz (am_fpU (show ¬ (39 < 39 ∨ 43 ≤ 39) by omega) (am_fpU (show ¬ (39 < 39 ∨ 43 ≤ 39) by omega) (am_fpU (show ¬ (39 < 39 ∨ 43 ≤ 39) by omega) (am_fpU (show ¬ (39 < 39 ∨ 43 ≤ 39) by omega) (am_fpU (show ¬ (39 < 39 ∨ 43 ≤ 39) by omega) (am_fpU (show ¬ (39 < 39 ∨ 43 ≤ 39) by omega) (am_fpU (show ¬ (39 < 39 ∨ 43 ≤ 39) by omega) am_fp0)))))))))))
