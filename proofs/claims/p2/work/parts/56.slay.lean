noncomputable def laB (N : Nat → Int32) (s t k : Int32) : Prop := wi s 0 4 ∧ wi t 0 3 ∧ (t = 1 → wi k 0 (N 1 - 1)) ∧ (t = 2 → wi k 0 3)
noncomputable def laK (N sr : Nat → Int32) (s t k : Int32) : Prop := laB N s t k ∧ (t = 2 → ¬ sr (fN k) = -1)
noncomputable def laV (N sr th : Nat → Int32) (s t k : Int32) : Int32 := cI (laB N s t k) (cI (t = 2 ∧ sr (fN k) = -1) (-1000000011) (th (fN s))) (-1000000001)
noncomputable def laT (N sr : Nat → Int32) (s t k : Int32) (th : Nat → Int32) : Nat → Int32 := cI (laK N sr s t k) (upd th (fN s) t) th
noncomputable def laH (N sr cl : Nat → Int32) (s t k : Int32) (hc : Nat → Int32) : Nat → Int32 := cI (laK N sr s t k ∧ t = 2) (cpS hc cl (fN s) (fN k)) hc
def laU (p : Prop) (f g : Nat → Int32) (s : Nat) (v : Int32) : Prop := (p → g = upd f s v) ∧ (¬ p → g = f)
set_option maxHeartbeats 4000000 in
set_option maxRecDepth 100000 in
theorem C_lay {X : List Int32} {d rc rs n : Nat} {Q : am_Q} {h : am_H} {N : Nat → Int32} {tx : List Value} {lk mv : Nat → Int32} {ik wc : Int32} {fr c : Nat} {s : Int32} {t : Int32} {k : Int32} {sr sz cl : Nat → Int32} {th kd pr nu ss zs hc : Nat → Int32} (O : OB ik wc h) (F : QR 1 N tx lk mv h) (Rw : RW sr sz cl h) (Sl : SL th kd pr nu ss zs hc h) (hR : RG N fr c) (hI : RI sr sz) (hq : ∀ v9 th9 kd9 pr9 nu9 ss9 zs9 hc9 h9, v9 = laV N sr th s t k → th9 = laT N sr s t k th → laU (laK N sr s t k ∧ t = 1) kd kd9 (fN s) (N (22 + 5 * fN k)) → laU (laK N sr s t k ∧ t = 1) pr pr9 (fN s) (N (24 + 5 * fN k)) → laU (laK N sr s t k ∧ ¬ t = 1 ∧ ¬ t = 2) nu nu9 (fN s) k → laU (laK N sr s t k ∧ t = 2) ss ss9 (fN s) (sr (fN k)) → laU (laK N sr s t k ∧ t = 2) zs zs9 (fN s) (sz (fN k)) → hc9 = laH N sr cl s t k hc → SL th9 kd9 pr9 nu9 ss9 zs9 hc9 h9 → am_fp (fun k => k < 54 ∨ 69 ≤ k) h9 h → Q (some (.int v9)) n h9) : AW X mX7_lay (d + 12) rc rs 0 [some (.ref 0), some (.int s), some (.int t), some (.int k), none, none] [] n h Q := by
  have h8r := hR.2.1
  have h14r := hR.2.2.2.1
  refine aw_iload_n (npc := 1) rfl dX7_lay_0 rfl ?_
  refine aw_callS (npc := 4) (N := mX7_isSlot) (mc := 0) (ms := 0) (A := [.int s]) (S := []) (L0 := [some (.int s)]) dX7_lay_1 rfl km_X7_isSlot kk_X7_299 rfl ⟨rfl, by decide⟩ rfl (Nat.le_of_ble_eq_true rfl) (Nat.zero_add _) (Nat.zero_add _) rfl ?_
  refine c_X7_isSlot (fun hw1 => ?_) (fun hw1 => ?_)
  · obtain ⟨sn, hsn, esn⟩ := wi_nI (H := 4) (by decide) (by decide) hw1
    subst esn
    have fsn : fN (nI sn) = sn := fN_nI (by omega)
    refine aw_re (S' := [.int 1]) rfl ?_
    refine aw_if_eq (npc := 7) (tgt := 44) dX7_lay_4 rfl (by decide) (fun hc => absurd hc (by decide)) (fun _ => ?_)
    refine aw_iload_n (npc := 8) rfl dX7_lay_7 rfl ?_
    refine aw_iconst (npc := 9) (v := 0) (by decide) dX7_lay_8 rfl ?_
    refine aw_iconst (npc := 10) (v := 3) (by decide) dX7_lay_9 rfl ?_
    refine aw_callS (npc := 13) (N := mX7_within) (mc := 0) (ms := 0) (A := [.int t, .int 0, .int 3]) (S := []) (L0 := [some (.int t), some (.int 0), some (.int 3)]) dX7_lay_10 rfl km_X7_within kk_X7_74 rfl ⟨rfl, by decide⟩ rfl (Nat.le_of_ble_eq_true rfl) (Nat.zero_add _) (Nat.zero_add _) rfl ?_
    refine c_X7_within (fun hw2 => ?_) (fun hw2 => ?_)
    · rcases wi_c0_3 hw2 with rfl | rfl | rfl | rfl
      · refine aw_re (S' := [.int 1]) rfl ?_
        refine aw_if_eq (npc := 16) (tgt := 44) dX7_lay_13 rfl (by decide) (fun hc => absurd hc (by decide)) (fun _ => ?_)
        refine aw_iload_n (npc := 17) rfl dX7_lay_16 rfl ?_
        refine aw_iconst (npc := 18) (v := 1) (by decide) dX7_lay_17 rfl ?_
        refine aw_icmp_ne (npc := 21) (tgt := 32) dX7_lay_18 rfl (by decide) (fun _ => ?_) (fun hc => absurd hc (by decide))
        refine aw_iload_n (npc := 33) rfl dX7_lay_32 rfl ?_
        refine aw_iconst (npc := 34) (v := 2) (by decide) dX7_lay_33 rfl ?_
        refine aw_icmp_ne (npc := 37) (tgt := 47) dX7_lay_34 rfl (by decide) (fun _ => ?_) (fun hc => absurd hc (by decide))
        refine aw_iload_n (npc := 48) rfl dX7_lay_47 rfl ?_
        refine aw_iconst (npc := 49) (v := 2) (by decide) dX7_lay_48 rfl ?_
        refine aw_icmp_ne (npc := 52) (tgt := 67) dX7_lay_49 rfl (by decide) (fun _ => ?_) (fun hc => absurd hc (by decide))
        refine aw_aload_n (npc := 68) rfl dX7_lay_67 rfl ?_
        refine aw_get (npc := 71) dX7_lay_68 rfl kf_X7_53 O.1 rfl ?_
        refine aw_iload_n (npc := 72) rfl dX7_lay_71 rfl ?_
        refine aw_aald (npc := 73) (j := sn) dX7_lay_72 rfl (by decide) O.2.2 (am_ix_nI (by omega)) (sl_at (by omega)) ?_
        refine aw_astore (npc := 75) (L' := [some (.ref 0), some (.int (nI sn)), some (.int 0), some (.int k), some (.ref (54 + 3 * sn)), none]) dX7_lay_73 rfl (by decide) rfl rfl ?_
        refine aw_aload (npc := 77) rfl dX7_lay_75 rfl ?_
        refine aw_get (npc := 80) dX7_lay_77 rfl kf_X7_302 (Sl sn (by omega)).1 rfl ?_
        refine aw_istore (npc := 82) (L' := [some (.ref 0), some (.int (nI sn)), some (.int 0), some (.int k), some (.ref (54 + 3 * sn)), some (.int (th sn))]) dX7_lay_80 rfl (by decide) rfl rfl ?_
        refine aw_aload (npc := 84) rfl dX7_lay_82 rfl ?_
        refine aw_iload_n (npc := 85) rfl dX7_lay_84 rfl ?_
        refine aw_put (npc := 88) dX7_lay_85 rfl kf_X7_302 (Sl sn (by omega)).1 (Nat.le_of_ble_eq_true rfl) (am_ok_int _) rfl ?_
        have Sl3 := sl_th (s := sn) (v := 0) Sl
        have O4 := ob_out (a := 54 + 3 * sn) (c := .inr (3, (slO th kd pr nu sn).set 0 (.int 0))) (by omega) O
        have F5 := qr_out (a := 54 + 3 * sn) (c := .inr (3, (slO th kd pr nu sn).set 0 (.int 0))) (by omega) F
        have Rw6 := rw_out (a := 54 + 3 * sn) (c := .inr (3, (slO th kd pr nu sn).set 0 (.int 0))) (by omega) Rw
        refine aw_iload_n (npc := 89) rfl dX7_lay_88 rfl ?_
        refine aw_iconst (npc := 90) (v := 1) (by decide) dX7_lay_89 rfl ?_
        refine aw_icmp_ne (npc := 93) (tgt := 124) dX7_lay_90 rfl (by decide) (fun _ => ?_) (fun hc => absurd hc (by decide))
        refine aw_iload_n (npc := 125) rfl dX7_lay_124 rfl ?_
        refine aw_iconst (npc := 126) (v := 2) (by decide) dX7_lay_125 rfl ?_
        refine aw_icmp_ne (npc := 129) (tgt := 146) dX7_lay_126 rfl (by decide) (fun _ => ?_) (fun hc => absurd hc (by decide))
        refine aw_aload (npc := 148) rfl dX7_lay_146 rfl ?_
        refine aw_iload_n (npc := 149) rfl dX7_lay_148 rfl ?_
        refine aw_put (npc := 152) dX7_lay_149 rfl kf_X7_318 (Sl3 sn (by omega)).1 (Nat.le_of_ble_eq_true rfl) (am_ok_int _) rfl ?_
        have Sl7 := sl_nu (s := sn) (v := k) Sl3
        have O8 := ob_out (a := 54 + 3 * sn) (c := .inr (3, (slO (upd th sn 0) kd pr nu sn).set 3 (.int k))) (by omega) O4
        have F9 := qr_out (a := 54 + 3 * sn) (c := .inr (3, (slO (upd th sn 0) kd pr nu sn).set 3 (.int k))) (by omega) F5
        have Rw10 := rw_out (a := 54 + 3 * sn) (c := .inr (3, (slO (upd th sn 0) kd pr nu sn).set 3 (.int k))) (by omega) Rw6
        refine aw_iload (npc := 154) rfl dX7_lay_152 rfl ?_
        refine aw_iret rfl dX7_lay_154 ?_
        exact hq _ _ _ _ _ _ _ _ _ (by simp [laB, laK, laV, laT, laH, laU, cI, hw1, hw2, fsn]) (by simp [laB, laK, laV, laT, laH, laU, cI, hw1, hw2, fsn]) (by simp [laB, laK, laV, laT, laH, laU, cI, hw1, hw2, fsn]) (by simp [laB, laK, laV, laT, laH, laU, cI, hw1, hw2, fsn]) (by simp [laB, laK, laV, laT, laH, laU, cI, hw1, hw2, fsn]) (by simp [laB, laK, laV, laT, laH, laU, cI, hw1, hw2, fsn]) (by simp [laB, laK, laV, laT, laH, laU, cI, hw1, hw2, fsn]) (by simp [laB, laK, laV, laT, laH, laU, cI, hw1, hw2, fsn]) Sl7 (am_fpU (show ¬ ((54 + 3 * sn) < 54 ∨ 69 ≤ (54 + 3 * sn)) by omega) (am_fpU (show ¬ ((54 + 3 * sn) < 54 ∨ 69 ≤ (54 + 3 * sn)) by omega) am_fp0))
      · refine aw_re (S' := [.int 1]) rfl ?_
        refine aw_if_eq (npc := 16) (tgt := 44) dX7_lay_13 rfl (by decide) (fun hc => absurd hc (by decide)) (fun _ => ?_)
        refine aw_iload_n (npc := 17) rfl dX7_lay_16 rfl ?_
        refine aw_iconst (npc := 18) (v := 1) (by decide) dX7_lay_17 rfl ?_
        refine aw_icmp_ne (npc := 21) (tgt := 32) dX7_lay_18 rfl (by decide) (fun hc => absurd (by decide) hc) (fun _ => ?_)
        refine aw_aload_n (npc := 22) rfl dX7_lay_21 rfl ?_
        refine aw_get (npc := 25) dX7_lay_22 rfl kf_X7_10 O.1 rfl ?_
        refine aw_iload_n (npc := 26) rfl dX7_lay_25 rfl ?_
        refine aw_callV (npc := 29) (N := mX0_isFriend) (b := 1) (mc := 0) (ms := 0) (A := [.int k]) (S := []) (L0 := [some (.ref 1), some (.int k)]) dX7_lay_26 rfl km_X0_isFriend kk_X7_87 F.1 ⟨by decide, rfl⟩ rfl ⟨rfl, by decide⟩ rfl (Nat.le_of_ble_eq_true rfl) (Nat.zero_add _) (Nat.zero_add _) rfl ?_
        refine g_isFriend F (fun hw11 => ?_) (fun hw11 => ?_)
        · obtain ⟨kn, hkn, ekn⟩ := wi_idx hR.1 (by have z := hR.2.1; omega) hw11
          subst ekn
          have h8kn : kn < 8 := by have z := hR.2.1; omega
          have fkn : fN (nI kn) = kn := fN_nI (by omega)
          refine aw_re (S' := [.int 1]) rfl ?_
          refine aw_if_eq (npc := 32) (tgt := 44) dX7_lay_29 rfl (by decide) (fun hc => absurd hc (by decide)) (fun _ => ?_)
          refine aw_iload_n (npc := 33) rfl dX7_lay_32 rfl ?_
          refine aw_iconst (npc := 34) (v := 2) (by decide) dX7_lay_33 rfl ?_
          refine aw_icmp_ne (npc := 37) (tgt := 47) dX7_lay_34 rfl (by decide) (fun _ => ?_) (fun hc => absurd hc (by decide))
          refine aw_iload_n (npc := 48) rfl dX7_lay_47 rfl ?_
          refine aw_iconst (npc := 49) (v := 2) (by decide) dX7_lay_48 rfl ?_
          refine aw_icmp_ne (npc := 52) (tgt := 67) dX7_lay_49 rfl (by decide) (fun _ => ?_) (fun hc => absurd hc (by decide))
          refine aw_aload_n (npc := 68) rfl dX7_lay_67 rfl ?_
          refine aw_get (npc := 71) dX7_lay_68 rfl kf_X7_53 O.1 rfl ?_
          refine aw_iload_n (npc := 72) rfl dX7_lay_71 rfl ?_
          refine aw_aald (npc := 73) (j := sn) dX7_lay_72 rfl (by decide) O.2.2 (am_ix_nI (by omega)) (sl_at (by omega)) ?_
          refine aw_astore (npc := 75) (L' := [some (.ref 0), some (.int (nI sn)), some (.int 1), some (.int (nI kn)), some (.ref (54 + 3 * sn)), none]) dX7_lay_73 rfl (by decide) rfl rfl ?_
          refine aw_aload (npc := 77) rfl dX7_lay_75 rfl ?_
          refine aw_get (npc := 80) dX7_lay_77 rfl kf_X7_302 (Sl sn (by omega)).1 rfl ?_
          refine aw_istore (npc := 82) (L' := [some (.ref 0), some (.int (nI sn)), some (.int 1), some (.int (nI kn)), some (.ref (54 + 3 * sn)), some (.int (th sn))]) dX7_lay_80 rfl (by decide) rfl rfl ?_
          refine aw_aload (npc := 84) rfl dX7_lay_82 rfl ?_
          refine aw_iload_n (npc := 85) rfl dX7_lay_84 rfl ?_
          refine aw_put (npc := 88) dX7_lay_85 rfl kf_X7_302 (Sl sn (by omega)).1 (Nat.le_of_ble_eq_true rfl) (am_ok_int _) rfl ?_
          have Sl12 := sl_th (s := sn) (v := 1) Sl
          have O13 := ob_out (a := 54 + 3 * sn) (c := .inr (3, (slO th kd pr nu sn).set 0 (.int 1))) (by omega) O
          have F14 := qr_out (a := 54 + 3 * sn) (c := .inr (3, (slO th kd pr nu sn).set 0 (.int 1))) (by omega) F
          have Rw15 := rw_out (a := 54 + 3 * sn) (c := .inr (3, (slO th kd pr nu sn).set 0 (.int 1))) (by omega) Rw
          refine aw_iload_n (npc := 89) rfl dX7_lay_88 rfl ?_
          refine aw_iconst (npc := 90) (v := 1) (by decide) dX7_lay_89 rfl ?_
          refine aw_icmp_ne (npc := 93) (tgt := 124) dX7_lay_90 rfl (by decide) (fun hc => absurd (by decide) hc) (fun _ => ?_)
          refine aw_aload (npc := 95) rfl dX7_lay_93 rfl ?_
          refine aw_aload_n (npc := 96) rfl dX7_lay_95 rfl ?_
          refine aw_get (npc := 99) dX7_lay_96 rfl kf_X7_10 O13.1 rfl ?_
          refine aw_get (npc := 102) dX7_lay_99 rfl kf_X7_90 F14.1 rfl ?_
          refine aw_iload_n (npc := 103) rfl dX7_lay_102 rfl ?_
          refine aw_iald (npc := 104) (x := N (22 + 5 * kn)) (j := kn) dX7_lay_103 rfl F14.2.2.2.2.1 (am_ix_nI (by omega)) (tl_at (by omega)) ?_
          refine aw_put (npc := 107) dX7_lay_104 rfl kf_X7_305 (Sl12 sn (by omega)).1 (Nat.le_of_ble_eq_true rfl) (am_ok_int _) rfl ?_
          have Sl16 := sl_kd (s := sn) (v := N (22 + 5 * kn)) Sl12
          have O17 := ob_out (a := 54 + 3 * sn) (c := .inr (3, (slO (upd th sn 1) kd pr nu sn).set 1 (.int (N (22 + 5 * kn))))) (by omega) O13
          have F18 := qr_out (a := 54 + 3 * sn) (c := .inr (3, (slO (upd th sn 1) kd pr nu sn).set 1 (.int (N (22 + 5 * kn))))) (by omega) F14
          have Rw19 := rw_out (a := 54 + 3 * sn) (c := .inr (3, (slO (upd th sn 1) kd pr nu sn).set 1 (.int (N (22 + 5 * kn))))) (by omega) Rw15
          refine aw_aload (npc := 109) rfl dX7_lay_107 rfl ?_
          refine aw_aload_n (npc := 110) rfl dX7_lay_109 rfl ?_
          refine aw_get (npc := 113) dX7_lay_110 rfl kf_X7_10 O17.1 rfl ?_
          refine aw_get (npc := 116) dX7_lay_113 rfl kf_X7_96 F18.1 rfl ?_
          refine aw_iload_n (npc := 117) rfl dX7_lay_116 rfl ?_
          refine aw_iald (npc := 118) (x := N (24 + 5 * kn)) (j := kn) dX7_lay_117 rfl F18.2.2.2.2.2.2.1 (am_ix_nI (by omega)) (tl_at (by omega)) ?_
          refine aw_put (npc := 121) dX7_lay_118 rfl kf_X7_308 (Sl16 sn (by omega)).1 (Nat.le_of_ble_eq_true rfl) (am_ok_int _) rfl ?_
          have Sl20 := sl_pr (s := sn) (v := N (24 + 5 * kn)) Sl16
          have O21 := ob_out (a := 54 + 3 * sn) (c := .inr (3, (slO (upd th sn 1) (upd kd sn (N (22 + 5 * kn))) pr nu sn).set 2 (.int (N (24 + 5 * kn))))) (by omega) O17
          have F22 := qr_out (a := 54 + 3 * sn) (c := .inr (3, (slO (upd th sn 1) (upd kd sn (N (22 + 5 * kn))) pr nu sn).set 2 (.int (N (24 + 5 * kn))))) (by omega) F18
          have Rw23 := rw_out (a := 54 + 3 * sn) (c := .inr (3, (slO (upd th sn 1) (upd kd sn (N (22 + 5 * kn))) pr nu sn).set 2 (.int (N (24 + 5 * kn))))) (by omega) Rw19
          refine aw_goto (npc := 152) dX7_lay_121 (by decide) ?_
          refine aw_iload (npc := 154) rfl dX7_lay_152 rfl ?_
          refine aw_iret rfl dX7_lay_154 ?_
          exact hq _ _ _ _ _ _ _ _ _ (by simp [laB, laK, laV, laT, laH, laU, cI, hw1, hw2, hw11, fsn, fkn]) (by simp [laB, laK, laV, laT, laH, laU, cI, hw1, hw2, hw11, fsn, fkn]) (by simp [laB, laK, laV, laT, laH, laU, cI, hw1, hw2, hw11, fsn, fkn]) (by simp [laB, laK, laV, laT, laH, laU, cI, hw1, hw2, hw11, fsn, fkn]) (by simp [laB, laK, laV, laT, laH, laU, cI, hw1, hw2, hw11, fsn, fkn]) (by simp [laB, laK, laV, laT, laH, laU, cI, hw1, hw2, hw11, fsn, fkn]) (by simp [laB, laK, laV, laT, laH, laU, cI, hw1, hw2, hw11, fsn, fkn]) (by simp [laB, laK, laV, laT, laH, laU, cI, hw1, hw2, hw11, fsn, fkn]) Sl20 (am_fpU (show ¬ ((54 + 3 * sn) < 54 ∨ 69 ≤ (54 + 3 * sn)) by omega) (am_fpU (show ¬ ((54 + 3 * sn) < 54 ∨ 69 ≤ (54 + 3 * sn)) by omega) (am_fpU (show ¬ ((54 + 3 * sn) < 54 ∨ 69 ≤ (54 + 3 * sn)) by omega) am_fp0)))
        · refine aw_re (S' := [.int 0]) rfl ?_
          refine aw_if_eq (npc := 32) (tgt := 44) dX7_lay_29 rfl (by decide) (fun _ => ?_) (fun hc => absurd (by decide) hc)
          refine aw_ldc (npc := 46) kc_X7_78 dX7_lay_44 rfl ?_
          refine aw_iret rfl dX7_lay_46 ?_
          exact hq _ _ _ _ _ _ _ _ _ (by simp [laB, laK, laV, laT, laH, laU, cI, hw1, hw2, hw11, fsn]) (by simp [laB, laK, laV, laT, laH, laU, cI, hw1, hw2, hw11, fsn]) (by simp [laB, laK, laV, laT, laH, laU, cI, hw1, hw2, hw11, fsn]) (by simp [laB, laK, laV, laT, laH, laU, cI, hw1, hw2, hw11, fsn]) (by simp [laB, laK, laV, laT, laH, laU, cI, hw1, hw2, hw11, fsn]) (by simp [laB, laK, laV, laT, laH, laU, cI, hw1, hw2, hw11, fsn]) (by simp [laB, laK, laV, laT, laH, laU, cI, hw1, hw2, hw11, fsn]) (by simp [laB, laK, laV, laT, laH, laU, cI, hw1, hw2, hw11, fsn]) Sl am_fp0
      · refine aw_re (S' := [.int 1]) rfl ?_
        refine aw_if_eq (npc := 16) (tgt := 44) dX7_lay_13 rfl (by decide) (fun hc => absurd hc (by decide)) (fun _ => ?_)
        refine aw_iload_n (npc := 17) rfl dX7_lay_16 rfl ?_
        refine aw_iconst (npc := 18) (v := 1) (by decide) dX7_lay_17 rfl ?_
        refine aw_icmp_ne (npc := 21) (tgt := 32) dX7_lay_18 rfl (by decide) (fun _ => ?_) (fun hc => absurd hc (by decide))
        refine aw_iload_n (npc := 33) rfl dX7_lay_32 rfl ?_
        refine aw_iconst (npc := 34) (v := 2) (by decide) dX7_lay_33 rfl ?_
        refine aw_icmp_ne (npc := 37) (tgt := 47) dX7_lay_34 rfl (by decide) (fun hc => absurd (by decide) hc) (fun _ => ?_)
        refine aw_iload_n (npc := 38) rfl dX7_lay_37 rfl ?_
        refine aw_callS (npc := 41) (N := mX7_isSheet) (mc := 0) (ms := 0) (A := [.int k]) (S := []) (L0 := [some (.int k)]) dX7_lay_38 rfl km_X7_isSheet kk_X7_204 rfl ⟨rfl, by decide⟩ rfl (Nat.le_of_ble_eq_true rfl) (Nat.zero_add _) (Nat.zero_add _) rfl ?_
        refine c_X7_isSheet (fun hw24 => ?_) (fun hw24 => ?_)
        · obtain ⟨kn, hkn, ekn⟩ := wi_nI (H := 3) (by decide) (by decide) hw24
          subst ekn
          have fkn : fN (nI kn) = kn := fN_nI (by omega)
          obtain ⟨hsr, z9, hz9, ez9⟩ := hI kn (by omega)
          refine aw_re (S' := [.int 1]) rfl ?_
          refine aw_if_ne (npc := 44) (tgt := 47) dX7_lay_41 rfl (by decide) (fun _ => ?_) (fun hc => absurd hc (by decide))
          refine aw_iload_n (npc := 48) rfl dX7_lay_47 rfl ?_
          refine aw_iconst (npc := 49) (v := 2) (by decide) dX7_lay_48 rfl ?_
          refine aw_icmp_ne (npc := 52) (tgt := 67) dX7_lay_49 rfl (by decide) (fun hc => absurd (by decide) hc) (fun _ => ?_)
          refine aw_aload_n (npc := 53) rfl dX7_lay_52 rfl ?_
          refine aw_get (npc := 56) dX7_lay_53 rfl kf_X7_47 O.1 rfl ?_
          refine aw_iload_n (npc := 57) rfl dX7_lay_56 rfl ?_
          refine aw_aald (npc := 58) (j := kn) dX7_lay_57 rfl (by decide) O.2.1 (am_ix_nI (by omega)) (sh_at (by omega)) ?_
          refine aw_callV (npc := 61) (N := mX2_isMissing) (b := 46 + 2 * kn) (mc := 0) (ms := 0) (A := []) (S := []) (L0 := [some (.ref (46 + 2 * kn))]) dX7_lay_58 rfl km_X2_isMissing kk_X7_207 (Rw kn (by omega)).1 ⟨by decide, rfl⟩ rfl ⟨rfl, by decide⟩ rfl (Nat.le_of_ble_eq_true rfl) (Nat.zero_add _) (Nat.zero_add _) rfl ?_
          refine aw_aload_n (npc := 1) rfl dX2_isMissing_0 rfl ?_
          refine aw_get (npc := 4) dX2_isMissing_1 rfl kf_X2_9 (Rw kn (by omega)).1 rfl ?_
          rcases wi_cm1_1 hsr with esr | esr | esr
          · refine aw_top (y := -1) esr ?_
            refine aw_iconst (npc := 5) (v := -1) (by decide) dX2_isMissing_4 rfl ?_
            refine aw_icmp_ne (npc := 8) (tgt := 12) dX2_isMissing_5 rfl (by decide) (fun hc => absurd (by decide) hc) (fun _ => ?_)
            refine aw_iconst (npc := 9) (v := 1) (by decide) dX2_isMissing_8 rfl ?_
            refine aw_goto (npc := 13) dX2_isMissing_9 (by decide) ?_
            refine aw_zret rfl rfl dX2_isMissing_13 ?_
            refine aw_re (S' := [.int 1]) rfl ?_
            refine aw_if_eq (npc := 64) (tgt := 67) dX7_lay_61 rfl (by decide) (fun hc => absurd hc (by decide)) (fun _ => ?_)
            refine aw_ldc (npc := 66) kc_X7_210 dX7_lay_64 rfl ?_
            refine aw_iret rfl dX7_lay_66 ?_
            exact hq _ _ _ _ _ _ _ _ _ (by simp [laB, laK, laV, laT, laH, laU, cI, hw1, hw2, hw24, fsn, fkn, esr]) (by simp [laB, laK, laV, laT, laH, laU, cI, hw1, hw2, hw24, fsn, fkn, esr]) (by simp [laB, laK, laV, laT, laH, laU, cI, hw1, hw2, hw24, fsn, fkn, esr]) (by simp [laB, laK, laV, laT, laH, laU, cI, hw1, hw2, hw24, fsn, fkn, esr]) (by simp [laB, laK, laV, laT, laH, laU, cI, hw1, hw2, hw24, fsn, fkn, esr]) (by simp [laB, laK, laV, laT, laH, laU, cI, hw1, hw2, hw24, fsn, fkn, esr]) (by simp [laB, laK, laV, laT, laH, laU, cI, hw1, hw2, hw24, fsn, fkn, esr]) (by simp [laB, laK, laV, laT, laH, laU, cI, hw1, hw2, hw24, fsn, fkn, esr]) Sl am_fp0
          · refine aw_top (y := 0) esr ?_
            refine aw_iconst (npc := 5) (v := -1) (by decide) dX2_isMissing_4 rfl ?_
            refine aw_icmp_ne (npc := 8) (tgt := 12) dX2_isMissing_5 rfl (by decide) (fun _ => ?_) (fun hc => absurd hc (by decide))
            refine aw_iconst (npc := 13) (v := 0) (by decide) dX2_isMissing_12 rfl ?_
            refine aw_zret rfl rfl dX2_isMissing_13 ?_
            refine aw_re (S' := [.int 0]) rfl ?_
            refine aw_if_eq (npc := 64) (tgt := 67) dX7_lay_61 rfl (by decide) (fun _ => ?_) (fun hc => absurd (by decide) hc)
            refine aw_aload_n (npc := 68) rfl dX7_lay_67 rfl ?_
            refine aw_get (npc := 71) dX7_lay_68 rfl kf_X7_53 O.1 rfl ?_
            refine aw_iload_n (npc := 72) rfl dX7_lay_71 rfl ?_
            refine aw_aald (npc := 73) (j := sn) dX7_lay_72 rfl (by decide) O.2.2 (am_ix_nI (by omega)) (sl_at (by omega)) ?_
            refine aw_astore (npc := 75) (L' := [some (.ref 0), some (.int (nI sn)), some (.int 2), some (.int (nI kn)), some (.ref (54 + 3 * sn)), none]) dX7_lay_73 rfl (by decide) rfl rfl ?_
            refine aw_aload (npc := 77) rfl dX7_lay_75 rfl ?_
            refine aw_get (npc := 80) dX7_lay_77 rfl kf_X7_302 (Sl sn (by omega)).1 rfl ?_
            refine aw_istore (npc := 82) (L' := [some (.ref 0), some (.int (nI sn)), some (.int 2), some (.int (nI kn)), some (.ref (54 + 3 * sn)), some (.int (th sn))]) dX7_lay_80 rfl (by decide) rfl rfl ?_
            refine aw_aload (npc := 84) rfl dX7_lay_82 rfl ?_
            refine aw_iload_n (npc := 85) rfl dX7_lay_84 rfl ?_
            refine aw_put (npc := 88) dX7_lay_85 rfl kf_X7_302 (Sl sn (by omega)).1 (Nat.le_of_ble_eq_true rfl) (am_ok_int _) rfl ?_
            have Sl25 := sl_th (s := sn) (v := 2) Sl
            have O26 := ob_out (a := 54 + 3 * sn) (c := .inr (3, (slO th kd pr nu sn).set 0 (.int 2))) (by omega) O
            have F27 := qr_out (a := 54 + 3 * sn) (c := .inr (3, (slO th kd pr nu sn).set 0 (.int 2))) (by omega) F
            have Rw28 := rw_out (a := 54 + 3 * sn) (c := .inr (3, (slO th kd pr nu sn).set 0 (.int 2))) (by omega) Rw
            refine aw_iload_n (npc := 89) rfl dX7_lay_88 rfl ?_
            refine aw_iconst (npc := 90) (v := 1) (by decide) dX7_lay_89 rfl ?_
            refine aw_icmp_ne (npc := 93) (tgt := 124) dX7_lay_90 rfl (by decide) (fun _ => ?_) (fun hc => absurd hc (by decide))
            refine aw_iload_n (npc := 125) rfl dX7_lay_124 rfl ?_
            refine aw_iconst (npc := 126) (v := 2) (by decide) dX7_lay_125 rfl ?_
            refine aw_icmp_ne (npc := 129) (tgt := 146) dX7_lay_126 rfl (by decide) (fun hc => absurd (by decide) hc) (fun _ => ?_)
            refine aw_aload (npc := 131) rfl dX7_lay_129 rfl ?_
            refine aw_get (npc := 134) dX7_lay_131 rfl kf_X7_311 (Sl25 sn (by omega)).1 rfl ?_
            refine aw_aload_n (npc := 135) rfl dX7_lay_134 rfl ?_
            refine aw_get (npc := 138) dX7_lay_135 rfl kf_X7_47 O26.1 rfl ?_
            refine aw_iload_n (npc := 139) rfl dX7_lay_138 rfl ?_
            refine aw_aald (npc := 140) (j := kn) dX7_lay_139 rfl (by decide) O26.2.1 (am_ix_nI (by omega)) (sh_at (by omega)) ?_
            refine aw_callV (npc := 143) (N := mX2_becomes) (b := 55 + 3 * sn) (mc := 0) (ms := 0) (A := [.ref (46 + 2 * kn)]) (S := []) (L0 := [some (.ref (55 + 3 * sn)), some (.ref (46 + 2 * kn))]) dX7_lay_140 rfl km_X2_becomes kk_X7_315 (Sl25 sn (by omega)).2.1 ⟨by decide, rfl⟩ rfl ⟨rfl, by decide⟩ rfl (Nat.le_of_ble_eq_true rfl) (Nat.zero_add _) (Nat.zero_add _) rfl ?_
            refine aw_aload_n (npc := 1) rfl dX2_becomes_0 rfl ?_
            refine aw_aload_n (npc := 2) rfl dX2_becomes_1 rfl ?_
            refine aw_get (npc := 5) dX2_becomes_2 rfl kf_X2_9 (Rw28 kn (by omega)).1 rfl ?_
            refine aw_put (npc := 8) dX2_becomes_5 rfl kf_X2_9 (Sl25 sn (by omega)).2.1 (Nat.le_of_ble_eq_true rfl) (am_ok_int _) rfl ?_
            have Sl29 := sl_ss (s := sn) (v := sr kn) Sl25
            have O30 := ob_out (a := 55 + 3 * sn) (c := .inr (2, (slR ss zs sn).set 0 (.int (sr kn)))) (by omega) O26
            have F31 := qr_out (a := 55 + 3 * sn) (c := .inr (2, (slR ss zs sn).set 0 (.int (sr kn)))) (by omega) F27
            have Rw32 := rw_out (a := 55 + 3 * sn) (c := .inr (2, (slR ss zs sn).set 0 (.int (sr kn)))) (by omega) Rw28
            refine aw_aload_n (npc := 9) rfl dX2_becomes_8 rfl ?_
            refine aw_aload_n (npc := 10) rfl dX2_becomes_9 rfl ?_
            refine aw_get (npc := 13) dX2_becomes_10 rfl kf_X2_15 (Rw32 kn (by omega)).1 rfl ?_
            refine aw_put (npc := 16) dX2_becomes_13 rfl kf_X2_15 (Sl29 sn (by omega)).2.1 (Nat.le_of_ble_eq_true rfl) (am_ok_int _) rfl ?_
            have Sl33 := sl_zs (s := sn) (v := sz kn) Sl29
            have O34 := ob_out (a := 55 + 3 * sn) (c := .inr (2, (slR (upd ss sn (sr kn)) zs sn).set 1 (.int (sz kn)))) (by omega) O30
            have F35 := qr_out (a := 55 + 3 * sn) (c := .inr (2, (slR (upd ss sn (sr kn)) zs sn).set 1 (.int (sz kn)))) (by omega) F31
            have Rw36 := rw_out (a := 55 + 3 * sn) (c := .inr (2, (slR (upd ss sn (sr kn)) zs sn).set 1 (.int (sz kn)))) (by omega) Rw32
            refine aw_aload_n (npc := 17) rfl dX2_becomes_16 rfl ?_
            refine aw_get (npc := 20) dX2_becomes_17 rfl kf_X2_18 (Rw36 kn (by omega)).1 rfl ?_
            refine aw_iconst (npc := 21) (v := 0) (by decide) dX2_becomes_20 rfl ?_
            refine aw_aload_n (npc := 22) rfl dX2_becomes_21 rfl ?_
            refine aw_get (npc := 25) dX2_becomes_22 rfl kf_X2_18 (Sl33 sn (by omega)).2.1 rfl ?_
            refine aw_iconst (npc := 26) (v := 0) (by decide) dX2_becomes_25 rfl ?_
            refine aw_bipush (npc := 28) (v := 24) (by decide) dX2_becomes_26 rfl ?_
            refine aw_copyi (npc := 31) (sp := 0) (dp := 0) (mm := 24) dX2_becomes_28 rfl kac_X2_28 kac_x (Rw36 kn (by omega)).2 (Sl33 sn (by omega)).2.2 ⟨by decide, by decide⟩ ⟨by decide, by decide⟩ ⟨by decide, by decide⟩ (by rw [tl_len]; omega) (by rw [tl_len]; omega) (Nat.le_of_ble_eq_true rfl) rfl ?_
            have Rw37 := sl_arr (hc' := cpS hc cl sn kn) (s := sn) Sl33 cpS_l (fun t i ht hi e => cpS_o (by omega) e)
            have O38 := ob_out (a := 56 + 3 * sn) (c := .inl (0, am_cpy (tl 24 (fun i => cl (24 * kn + i))) (tl 24 (fun i => hc (24 * sn + i))) 0 0 24)) (by omega) O34
            have F39 := qr_out (a := 56 + 3 * sn) (c := .inl (0, am_cpy (tl 24 (fun i => cl (24 * kn + i))) (tl 24 (fun i => hc (24 * sn + i))) 0 0 24)) (by omega) F35
            have Rw40 := rw_out (a := 56 + 3 * sn) (c := .inl (0, am_cpy (tl 24 (fun i => cl (24 * kn + i))) (tl 24 (fun i => hc (24 * sn + i))) 0 0 24)) (by omega) Rw36
            refine aw_vret rfl dX2_becomes_31 ?_
            refine aw_goto (npc := 152) dX7_lay_143 (by decide) ?_
            refine aw_iload (npc := 154) rfl dX7_lay_152 rfl ?_
            refine aw_iret rfl dX7_lay_154 ?_
            exact hq _ _ _ _ _ _ _ _ _ (by simp [laB, laK, laV, laT, laH, laU, cI, hw1, hw2, hw24, fsn, fkn, esr]) (by simp [laB, laK, laV, laT, laH, laU, cI, hw1, hw2, hw24, fsn, fkn, esr]) (by simp [laB, laK, laV, laT, laH, laU, cI, hw1, hw2, hw24, fsn, fkn, esr]) (by simp [laB, laK, laV, laT, laH, laU, cI, hw1, hw2, hw24, fsn, fkn, esr]) (by simp [laB, laK, laV, laT, laH, laU, cI, hw1, hw2, hw24, fsn, fkn, esr]) (by simp [laB, laK, laV, laT, laH, laU, cI, hw1, hw2, hw24, fsn, fkn, esr]) (by simp [laB, laK, laV, laT, laH, laU, cI, hw1, hw2, hw24, fsn, fkn, esr]) (by simp [laB, laK, laV, laT, laH, laU, cI, hw1, hw2, hw24, fsn, fkn, esr]) Rw37 (am_fpU (show ¬ ((56 + 3 * sn) < 54 ∨ 69 ≤ (56 + 3 * sn)) by omega) (am_fpU (show ¬ ((55 + 3 * sn) < 54 ∨ 69 ≤ (55 + 3 * sn)) by omega) (am_fpU (show ¬ ((55 + 3 * sn) < 54 ∨ 69 ≤ (55 + 3 * sn)) by omega) (am_fpU (show ¬ ((54 + 3 * sn) < 54 ∨ 69 ≤ (54 + 3 * sn)) by omega) am_fp0))))
          · refine aw_top (y := 1) esr ?_
            refine aw_iconst (npc := 5) (v := -1) (by decide) dX2_isMissing_4 rfl ?_
            refine aw_icmp_ne (npc := 8) (tgt := 12) dX2_isMissing_5 rfl (by decide) (fun _ => ?_) (fun hc => absurd hc (by decide))
            refine aw_iconst (npc := 13) (v := 0) (by decide) dX2_isMissing_12 rfl ?_
            refine aw_zret rfl rfl dX2_isMissing_13 ?_
            refine aw_re (S' := [.int 0]) rfl ?_
            refine aw_if_eq (npc := 64) (tgt := 67) dX7_lay_61 rfl (by decide) (fun _ => ?_) (fun hc => absurd (by decide) hc)
            refine aw_aload_n (npc := 68) rfl dX7_lay_67 rfl ?_
            refine aw_get (npc := 71) dX7_lay_68 rfl kf_X7_53 O.1 rfl ?_
            refine aw_iload_n (npc := 72) rfl dX7_lay_71 rfl ?_
            refine aw_aald (npc := 73) (j := sn) dX7_lay_72 rfl (by decide) O.2.2 (am_ix_nI (by omega)) (sl_at (by omega)) ?_
            refine aw_astore (npc := 75) (L' := [some (.ref 0), some (.int (nI sn)), some (.int 2), some (.int (nI kn)), some (.ref (54 + 3 * sn)), none]) dX7_lay_73 rfl (by decide) rfl rfl ?_
            refine aw_aload (npc := 77) rfl dX7_lay_75 rfl ?_
            refine aw_get (npc := 80) dX7_lay_77 rfl kf_X7_302 (Sl sn (by omega)).1 rfl ?_
            refine aw_istore (npc := 82) (L' := [some (.ref 0), some (.int (nI sn)), some (.int 2), some (.int (nI kn)), some (.ref (54 + 3 * sn)), some (.int (th sn))]) dX7_lay_80 rfl (by decide) rfl rfl ?_
            refine aw_aload (npc := 84) rfl dX7_lay_82 rfl ?_
            refine aw_iload_n (npc := 85) rfl dX7_lay_84 rfl ?_
            refine aw_put (npc := 88) dX7_lay_85 rfl kf_X7_302 (Sl sn (by omega)).1 (Nat.le_of_ble_eq_true rfl) (am_ok_int _) rfl ?_
            have Sl41 := sl_th (s := sn) (v := 2) Sl
            have O42 := ob_out (a := 54 + 3 * sn) (c := .inr (3, (slO th kd pr nu sn).set 0 (.int 2))) (by omega) O
            have F43 := qr_out (a := 54 + 3 * sn) (c := .inr (3, (slO th kd pr nu sn).set 0 (.int 2))) (by omega) F
            have Rw44 := rw_out (a := 54 + 3 * sn) (c := .inr (3, (slO th kd pr nu sn).set 0 (.int 2))) (by omega) Rw
            refine aw_iload_n (npc := 89) rfl dX7_lay_88 rfl ?_
            refine aw_iconst (npc := 90) (v := 1) (by decide) dX7_lay_89 rfl ?_
            refine aw_icmp_ne (npc := 93) (tgt := 124) dX7_lay_90 rfl (by decide) (fun _ => ?_) (fun hc => absurd hc (by decide))
            refine aw_iload_n (npc := 125) rfl dX7_lay_124 rfl ?_
            refine aw_iconst (npc := 126) (v := 2) (by decide) dX7_lay_125 rfl ?_
            refine aw_icmp_ne (npc := 129) (tgt := 146) dX7_lay_126 rfl (by decide) (fun hc => absurd (by decide) hc) (fun _ => ?_)
            refine aw_aload (npc := 131) rfl dX7_lay_129 rfl ?_
            refine aw_get (npc := 134) dX7_lay_131 rfl kf_X7_311 (Sl41 sn (by omega)).1 rfl ?_
            refine aw_aload_n (npc := 135) rfl dX7_lay_134 rfl ?_
            refine aw_get (npc := 138) dX7_lay_135 rfl kf_X7_47 O42.1 rfl ?_
            refine aw_iload_n (npc := 139) rfl dX7_lay_138 rfl ?_
            refine aw_aald (npc := 140) (j := kn) dX7_lay_139 rfl (by decide) O42.2.1 (am_ix_nI (by omega)) (sh_at (by omega)) ?_
            refine aw_callV (npc := 143) (N := mX2_becomes) (b := 55 + 3 * sn) (mc := 0) (ms := 0) (A := [.ref (46 + 2 * kn)]) (S := []) (L0 := [some (.ref (55 + 3 * sn)), some (.ref (46 + 2 * kn))]) dX7_lay_140 rfl km_X2_becomes kk_X7_315 (Sl41 sn (by omega)).2.1 ⟨by decide, rfl⟩ rfl ⟨rfl, by decide⟩ rfl (Nat.le_of_ble_eq_true rfl) (Nat.zero_add _) (Nat.zero_add _) rfl ?_
            refine aw_aload_n (npc := 1) rfl dX2_becomes_0 rfl ?_
            refine aw_aload_n (npc := 2) rfl dX2_becomes_1 rfl ?_
            refine aw_get (npc := 5) dX2_becomes_2 rfl kf_X2_9 (Rw44 kn (by omega)).1 rfl ?_
            refine aw_put (npc := 8) dX2_becomes_5 rfl kf_X2_9 (Sl41 sn (by omega)).2.1 (Nat.le_of_ble_eq_true rfl) (am_ok_int _) rfl ?_
            have Sl45 := sl_ss (s := sn) (v := sr kn) Sl41
            have O46 := ob_out (a := 55 + 3 * sn) (c := .inr (2, (slR ss zs sn).set 0 (.int (sr kn)))) (by omega) O42
            have F47 := qr_out (a := 55 + 3 * sn) (c := .inr (2, (slR ss zs sn).set 0 (.int (sr kn)))) (by omega) F43
            have Rw48 := rw_out (a := 55 + 3 * sn) (c := .inr (2, (slR ss zs sn).set 0 (.int (sr kn)))) (by omega) Rw44
            refine aw_aload_n (npc := 9) rfl dX2_becomes_8 rfl ?_
            refine aw_aload_n (npc := 10) rfl dX2_becomes_9 rfl ?_
            refine aw_get (npc := 13) dX2_becomes_10 rfl kf_X2_15 (Rw48 kn (by omega)).1 rfl ?_
            refine aw_put (npc := 16) dX2_becomes_13 rfl kf_X2_15 (Sl45 sn (by omega)).2.1 (Nat.le_of_ble_eq_true rfl) (am_ok_int _) rfl ?_
            have Sl49 := sl_zs (s := sn) (v := sz kn) Sl45
            have O50 := ob_out (a := 55 + 3 * sn) (c := .inr (2, (slR (upd ss sn (sr kn)) zs sn).set 1 (.int (sz kn)))) (by omega) O46
            have F51 := qr_out (a := 55 + 3 * sn) (c := .inr (2, (slR (upd ss sn (sr kn)) zs sn).set 1 (.int (sz kn)))) (by omega) F47
            have Rw52 := rw_out (a := 55 + 3 * sn) (c := .inr (2, (slR (upd ss sn (sr kn)) zs sn).set 1 (.int (sz kn)))) (by omega) Rw48
            refine aw_aload_n (npc := 17) rfl dX2_becomes_16 rfl ?_
            refine aw_get (npc := 20) dX2_becomes_17 rfl kf_X2_18 (Rw52 kn (by omega)).1 rfl ?_
            refine aw_iconst (npc := 21) (v := 0) (by decide) dX2_becomes_20 rfl ?_
            refine aw_aload_n (npc := 22) rfl dX2_becomes_21 rfl ?_
            refine aw_get (npc := 25) dX2_becomes_22 rfl kf_X2_18 (Sl49 sn (by omega)).2.1 rfl ?_
            refine aw_iconst (npc := 26) (v := 0) (by decide) dX2_becomes_25 rfl ?_
            refine aw_bipush (npc := 28) (v := 24) (by decide) dX2_becomes_26 rfl ?_
            refine aw_copyi (npc := 31) (sp := 0) (dp := 0) (mm := 24) dX2_becomes_28 rfl kac_X2_28 kac_x (Rw52 kn (by omega)).2 (Sl49 sn (by omega)).2.2 ⟨by decide, by decide⟩ ⟨by decide, by decide⟩ ⟨by decide, by decide⟩ (by rw [tl_len]; omega) (by rw [tl_len]; omega) (Nat.le_of_ble_eq_true rfl) rfl ?_
            have Rw53 := sl_arr (hc' := cpS hc cl sn kn) (s := sn) Sl49 cpS_l (fun t i ht hi e => cpS_o (by omega) e)
            have O54 := ob_out (a := 56 + 3 * sn) (c := .inl (0, am_cpy (tl 24 (fun i => cl (24 * kn + i))) (tl 24 (fun i => hc (24 * sn + i))) 0 0 24)) (by omega) O50
            have F55 := qr_out (a := 56 + 3 * sn) (c := .inl (0, am_cpy (tl 24 (fun i => cl (24 * kn + i))) (tl 24 (fun i => hc (24 * sn + i))) 0 0 24)) (by omega) F51
            have Rw56 := rw_out (a := 56 + 3 * sn) (c := .inl (0, am_cpy (tl 24 (fun i => cl (24 * kn + i))) (tl 24 (fun i => hc (24 * sn + i))) 0 0 24)) (by omega) Rw52
            refine aw_vret rfl dX2_becomes_31 ?_
            refine aw_goto (npc := 152) dX7_lay_143 (by decide) ?_
            refine aw_iload (npc := 154) rfl dX7_lay_152 rfl ?_
            refine aw_iret rfl dX7_lay_154 ?_
            exact hq _ _ _ _ _ _ _ _ _ (by simp [laB, laK, laV, laT, laH, laU, cI, hw1, hw2, hw24, fsn, fkn, esr]) (by simp [laB, laK, laV, laT, laH, laU, cI, hw1, hw2, hw24, fsn, fkn, esr]) (by simp [laB, laK, laV, laT, laH, laU, cI, hw1, hw2, hw24, fsn, fkn, esr]) (by simp [laB, laK, laV, laT, laH, laU, cI, hw1, hw2, hw24, fsn, fkn, esr]) (by simp [laB, laK, laV, laT, laH, laU, cI, hw1, hw2, hw24, fsn, fkn, esr]) (by simp [laB, laK, laV, laT, laH, laU, cI, hw1, hw2, hw24, fsn, fkn, esr]) (by simp [laB, laK, laV, laT, laH, laU, cI, hw1, hw2, hw24, fsn, fkn, esr]) (by simp [laB, laK, laV, laT, laH, laU, cI, hw1, hw2, hw24, fsn, fkn, esr]) Rw53 (am_fpU (show ¬ ((56 + 3 * sn) < 54 ∨ 69 ≤ (56 + 3 * sn)) by omega) (am_fpU (show ¬ ((55 + 3 * sn) < 54 ∨ 69 ≤ (55 + 3 * sn)) by omega) (am_fpU (show ¬ ((55 + 3 * sn) < 54 ∨ 69 ≤ (55 + 3 * sn)) by omega) (am_fpU (show ¬ ((54 + 3 * sn) < 54 ∨ 69 ≤ (54 + 3 * sn)) by omega) am_fp0))))
        · refine aw_re (S' := [.int 0]) rfl ?_
          refine aw_if_ne (npc := 44) (tgt := 47) dX7_lay_41 rfl (by decide) (fun hc => absurd (by decide) hc) (fun _ => ?_)
          refine aw_ldc (npc := 46) kc_X7_78 dX7_lay_44 rfl ?_
          refine aw_iret rfl dX7_lay_46 ?_
          exact hq _ _ _ _ _ _ _ _ _ (by simp [laB, laK, laV, laT, laH, laU, cI, hw1, hw2, hw24, fsn]) (by simp [laB, laK, laV, laT, laH, laU, cI, hw1, hw2, hw24, fsn]) (by simp [laB, laK, laV, laT, laH, laU, cI, hw1, hw2, hw24, fsn]) (by simp [laB, laK, laV, laT, laH, laU, cI, hw1, hw2, hw24, fsn]) (by simp [laB, laK, laV, laT, laH, laU, cI, hw1, hw2, hw24, fsn]) (by simp [laB, laK, laV, laT, laH, laU, cI, hw1, hw2, hw24, fsn]) (by simp [laB, laK, laV, laT, laH, laU, cI, hw1, hw2, hw24, fsn]) (by simp [laB, laK, laV, laT, laH, laU, cI, hw1, hw2, hw24, fsn]) Sl am_fp0
      · refine aw_re (S' := [.int 1]) rfl ?_
        refine aw_if_eq (npc := 16) (tgt := 44) dX7_lay_13 rfl (by decide) (fun hc => absurd hc (by decide)) (fun _ => ?_)
        refine aw_iload_n (npc := 17) rfl dX7_lay_16 rfl ?_
        refine aw_iconst (npc := 18) (v := 1) (by decide) dX7_lay_17 rfl ?_
        refine aw_icmp_ne (npc := 21) (tgt := 32) dX7_lay_18 rfl (by decide) (fun _ => ?_) (fun hc => absurd hc (by decide))
        refine aw_iload_n (npc := 33) rfl dX7_lay_32 rfl ?_
        refine aw_iconst (npc := 34) (v := 2) (by decide) dX7_lay_33 rfl ?_
        refine aw_icmp_ne (npc := 37) (tgt := 47) dX7_lay_34 rfl (by decide) (fun _ => ?_) (fun hc => absurd hc (by decide))
        refine aw_iload_n (npc := 48) rfl dX7_lay_47 rfl ?_
        refine aw_iconst (npc := 49) (v := 2) (by decide) dX7_lay_48 rfl ?_
        refine aw_icmp_ne (npc := 52) (tgt := 67) dX7_lay_49 rfl (by decide) (fun _ => ?_) (fun hc => absurd hc (by decide))
        refine aw_aload_n (npc := 68) rfl dX7_lay_67 rfl ?_
        refine aw_get (npc := 71) dX7_lay_68 rfl kf_X7_53 O.1 rfl ?_
        refine aw_iload_n (npc := 72) rfl dX7_lay_71 rfl ?_
        refine aw_aald (npc := 73) (j := sn) dX7_lay_72 rfl (by decide) O.2.2 (am_ix_nI (by omega)) (sl_at (by omega)) ?_
        refine aw_astore (npc := 75) (L' := [some (.ref 0), some (.int (nI sn)), some (.int 3), some (.int k), some (.ref (54 + 3 * sn)), none]) dX7_lay_73 rfl (by decide) rfl rfl ?_
        refine aw_aload (npc := 77) rfl dX7_lay_75 rfl ?_
        refine aw_get (npc := 80) dX7_lay_77 rfl kf_X7_302 (Sl sn (by omega)).1 rfl ?_
        refine aw_istore (npc := 82) (L' := [some (.ref 0), some (.int (nI sn)), some (.int 3), some (.int k), some (.ref (54 + 3 * sn)), some (.int (th sn))]) dX7_lay_80 rfl (by decide) rfl rfl ?_
        refine aw_aload (npc := 84) rfl dX7_lay_82 rfl ?_
        refine aw_iload_n (npc := 85) rfl dX7_lay_84 rfl ?_
        refine aw_put (npc := 88) dX7_lay_85 rfl kf_X7_302 (Sl sn (by omega)).1 (Nat.le_of_ble_eq_true rfl) (am_ok_int _) rfl ?_
        have Sl57 := sl_th (s := sn) (v := 3) Sl
        have O58 := ob_out (a := 54 + 3 * sn) (c := .inr (3, (slO th kd pr nu sn).set 0 (.int 3))) (by omega) O
        have F59 := qr_out (a := 54 + 3 * sn) (c := .inr (3, (slO th kd pr nu sn).set 0 (.int 3))) (by omega) F
        have Rw60 := rw_out (a := 54 + 3 * sn) (c := .inr (3, (slO th kd pr nu sn).set 0 (.int 3))) (by omega) Rw
        refine aw_iload_n (npc := 89) rfl dX7_lay_88 rfl ?_
        refine aw_iconst (npc := 90) (v := 1) (by decide) dX7_lay_89 rfl ?_
        refine aw_icmp_ne (npc := 93) (tgt := 124) dX7_lay_90 rfl (by decide) (fun _ => ?_) (fun hc => absurd hc (by decide))
        refine aw_iload_n (npc := 125) rfl dX7_lay_124 rfl ?_
        refine aw_iconst (npc := 126) (v := 2) (by decide) dX7_lay_125 rfl ?_
        refine aw_icmp_ne (npc := 129) (tgt := 146) dX7_lay_126 rfl (by decide) (fun _ => ?_) (fun hc => absurd hc (by decide))
        refine aw_aload (npc := 148) rfl dX7_lay_146 rfl ?_
        refine aw_iload_n (npc := 149) rfl dX7_lay_148 rfl ?_
        refine aw_put (npc := 152) dX7_lay_149 rfl kf_X7_318 (Sl57 sn (by omega)).1 (Nat.le_of_ble_eq_true rfl) (am_ok_int _) rfl ?_
        have Sl61 := sl_nu (s := sn) (v := k) Sl57
        have O62 := ob_out (a := 54 + 3 * sn) (c := .inr (3, (slO (upd th sn 3) kd pr nu sn).set 3 (.int k))) (by omega) O58
        have F63 := qr_out (a := 54 + 3 * sn) (c := .inr (3, (slO (upd th sn 3) kd pr nu sn).set 3 (.int k))) (by omega) F59
        have Rw64 := rw_out (a := 54 + 3 * sn) (c := .inr (3, (slO (upd th sn 3) kd pr nu sn).set 3 (.int k))) (by omega) Rw60
        refine aw_iload (npc := 154) rfl dX7_lay_152 rfl ?_
        refine aw_iret rfl dX7_lay_154 ?_
        exact hq _ _ _ _ _ _ _ _ _ (by simp [laB, laK, laV, laT, laH, laU, cI, hw1, hw2, fsn]) (by simp [laB, laK, laV, laT, laH, laU, cI, hw1, hw2, fsn]) (by simp [laB, laK, laV, laT, laH, laU, cI, hw1, hw2, fsn]) (by simp [laB, laK, laV, laT, laH, laU, cI, hw1, hw2, fsn]) (by simp [laB, laK, laV, laT, laH, laU, cI, hw1, hw2, fsn]) (by simp [laB, laK, laV, laT, laH, laU, cI, hw1, hw2, fsn]) (by simp [laB, laK, laV, laT, laH, laU, cI, hw1, hw2, fsn]) (by simp [laB, laK, laV, laT, laH, laU, cI, hw1, hw2, fsn]) Sl61 (am_fpU (show ¬ ((54 + 3 * sn) < 54 ∨ 69 ≤ (54 + 3 * sn)) by omega) (am_fpU (show ¬ ((54 + 3 * sn) < 54 ∨ 69 ≤ (54 + 3 * sn)) by omega) am_fp0))
    · refine aw_re (S' := [.int 0]) rfl ?_
      refine aw_if_eq (npc := 16) (tgt := 44) dX7_lay_13 rfl (by decide) (fun _ => ?_) (fun hc => absurd (by decide) hc)
      refine aw_ldc (npc := 46) kc_X7_78 dX7_lay_44 rfl ?_
      refine aw_iret rfl dX7_lay_46 ?_
      exact hq _ _ _ _ _ _ _ _ _ (by simp [laB, laK, laV, laT, laH, laU, cI, hw1, hw2, fsn, nwi_1 hw2 (k := 0) ⟨by decide, by decide⟩, nwi_1 hw2 (k := 1) ⟨by decide, by decide⟩, nwi_1 hw2 (k := 2) ⟨by decide, by decide⟩, nwi_1 hw2 (k := 3) ⟨by decide, by decide⟩]) (by simp [laB, laK, laV, laT, laH, laU, cI, hw1, hw2, fsn, nwi_1 hw2 (k := 0) ⟨by decide, by decide⟩, nwi_1 hw2 (k := 1) ⟨by decide, by decide⟩, nwi_1 hw2 (k := 2) ⟨by decide, by decide⟩, nwi_1 hw2 (k := 3) ⟨by decide, by decide⟩]) (by simp [laB, laK, laV, laT, laH, laU, cI, hw1, hw2, fsn, nwi_1 hw2 (k := 0) ⟨by decide, by decide⟩, nwi_1 hw2 (k := 1) ⟨by decide, by decide⟩, nwi_1 hw2 (k := 2) ⟨by decide, by decide⟩, nwi_1 hw2 (k := 3) ⟨by decide, by decide⟩]) (by simp [laB, laK, laV, laT, laH, laU, cI, hw1, hw2, fsn, nwi_1 hw2 (k := 0) ⟨by decide, by decide⟩, nwi_1 hw2 (k := 1) ⟨by decide, by decide⟩, nwi_1 hw2 (k := 2) ⟨by decide, by decide⟩, nwi_1 hw2 (k := 3) ⟨by decide, by decide⟩]) (by simp [laB, laK, laV, laT, laH, laU, cI, hw1, hw2, fsn, nwi_1 hw2 (k := 0) ⟨by decide, by decide⟩, nwi_1 hw2 (k := 1) ⟨by decide, by decide⟩, nwi_1 hw2 (k := 2) ⟨by decide, by decide⟩, nwi_1 hw2 (k := 3) ⟨by decide, by decide⟩]) (by simp [laB, laK, laV, laT, laH, laU, cI, hw1, hw2, fsn, nwi_1 hw2 (k := 0) ⟨by decide, by decide⟩, nwi_1 hw2 (k := 1) ⟨by decide, by decide⟩, nwi_1 hw2 (k := 2) ⟨by decide, by decide⟩, nwi_1 hw2 (k := 3) ⟨by decide, by decide⟩]) (by simp [laB, laK, laV, laT, laH, laU, cI, hw1, hw2, fsn, nwi_1 hw2 (k := 0) ⟨by decide, by decide⟩, nwi_1 hw2 (k := 1) ⟨by decide, by decide⟩, nwi_1 hw2 (k := 2) ⟨by decide, by decide⟩, nwi_1 hw2 (k := 3) ⟨by decide, by decide⟩]) (by simp [laB, laK, laV, laT, laH, laU, cI, hw1, hw2, fsn, nwi_1 hw2 (k := 0) ⟨by decide, by decide⟩, nwi_1 hw2 (k := 1) ⟨by decide, by decide⟩, nwi_1 hw2 (k := 2) ⟨by decide, by decide⟩, nwi_1 hw2 (k := 3) ⟨by decide, by decide⟩]) Sl am_fp0
  · refine aw_re (S' := [.int 0]) rfl ?_
    refine aw_if_eq (npc := 7) (tgt := 44) dX7_lay_4 rfl (by decide) (fun _ => ?_) (fun hc => absurd (by decide) hc)
    refine aw_ldc (npc := 46) kc_X7_78 dX7_lay_44 rfl ?_
    refine aw_iret rfl dX7_lay_46 ?_
    exact hq _ _ _ _ _ _ _ _ _ (by simp [laB, laK, laV, laT, laH, laU, cI, hw1]) (by simp [laB, laK, laV, laT, laH, laU, cI, hw1]) (by simp [laB, laK, laV, laT, laH, laU, cI, hw1]) (by simp [laB, laK, laV, laT, laH, laU, cI, hw1]) (by simp [laB, laK, laV, laT, laH, laU, cI, hw1]) (by simp [laB, laK, laV, laT, laH, laU, cI, hw1]) (by simp [laB, laK, laV, laT, laH, laU, cI, hw1]) (by simp [laB, laK, laV, laT, laH, laU, cI, hw1]) Sl am_fp0
set_option maxHeartbeats 4000000 in
set_option maxRecDepth 100000 in
theorem m_layL {X : List Int32} {d rc rs n : Nat} {Q : am_Q} {o N : Nat → Int32} {s k : Nat} {w : Int32} (hs : s < 5) (hk4 : k < 4) {a0 : Nat → Nat → Int32} : ∀ (q i : Nat), i + q = 24 → ∀ (a : Nat → Nat → Int32) (h : am_H), MR o N a h → a 89 = cpT (a0 89) (a0 85) s k i → (∀ c, c ≠ 89 → a c = a0 c) → (∀ a9 h9, MR o N a9 h9 → a9 89 = cpT (a0 89) (a0 85) s k 24 → (∀ c, c ≠ 89 → a9 c = a0 c) → am_fp (fun k => k < 69 ∨ 92 ≤ k) h9 h → AW X mX8_lay d rc rs 176 [some (.ref 69), some (.int (nI s)), some (.int 2), some (.int (nI k)), some (.int w), some (.int (nI 24))] [] n h9 Q) → AW X mX8_lay d rc rs 134 [some (.ref 69), some (.int (nI s)), some (.int 2), some (.int (nI k)), some (.int w), some (.int (nI i))] [] n h Q := by
  intro q
  induction q with
  | zero =>
    intro i hi a h F hk9 hc9 hq
    obtain rfl : i = 24 := by omega
    refine aw_iload (npc := 136) rfl dX8_lay_134 rfl ?_
    refine aw_bipush (npc := 138) (v := 24) (by decide) dX8_lay_136 rfl ?_
    exact aw_icmp_ge (npc := 141) (tgt := 176) dX8_lay_138 rfl (by decide) (fun _ => hq _ _ F hk9 hc9 am_fp0) (fun hc => absurd (nI_le (a := 24) (b := 24) (Nat.le_refl _) (by decide)) hc)
  | succ q ih =>
    intro i hi a h F hk9 hc9 hq
    refine aw_iload (npc := 136) rfl dX8_lay_134 rfl ?_
    refine aw_bipush (npc := 138) (v := 24) (by decide) dX8_lay_136 rfl ?_
    refine aw_icmp_ge (npc := 141) (tgt := 176) dX8_lay_138 rfl (by decide) (fun hc => absurd hc (nI_ge (a := i) (b := 24) (by omega) (by omega))) (fun _ => ?_)
    refine aw_iload_n (npc := 142) rfl dX8_lay_141 rfl ?_
    refine aw_iconst (npc := 143) (v := 2) (by decide) dX8_lay_142 rfl ?_
    refine aw_icmp_ne (npc := 146) (tgt := 176) dX8_lay_143 rfl (by decide) (fun hc => absurd (by decide) hc) (fun _ => ?_)
    refine aw_aload_n (npc := 147) rfl dX8_lay_146 rfl ?_
    refine aw_get (npc := 150) dX8_lay_147 rfl kf_X8_73 F.1 rfl ?_
    refine aw_bipush (npc := 152) (v := 24) (by decide) dX8_lay_150 rfl ?_
    refine aw_iload_n (npc := 153) rfl dX8_lay_152 rfl ?_
    refine aw_imulV (npc := 154) (v := nI (24 * s)) dX8_lay_153 rfl (pk_mul 24 _) ?_
    refine aw_iload (npc := 156) rfl dX8_lay_154 rfl ?_
    refine aw_iaddV (npc := 157) (v := nI ((24 * s) + i)) dX8_lay_156 rfl (nI_add _ _) ?_
    refine aw_aload_n (npc := 158) rfl dX8_lay_157 rfl ?_
    refine aw_get (npc := 161) dX8_lay_158 rfl kf_X8_61 F.1 rfl ?_
    refine aw_bipush (npc := 163) (v := 24) (by decide) dX8_lay_161 rfl ?_
    refine aw_iload_n (npc := 164) rfl dX8_lay_163 rfl ?_
    refine aw_imulV (npc := 165) (v := nI (24 * k)) dX8_lay_164 rfl (pk_mul 24 _) ?_
    refine aw_iload (npc := 167) rfl dX8_lay_165 rfl ?_
    refine aw_iaddV (npc := 168) (v := nI ((24 * k) + i)) dX8_lay_167 rfl (nI_add _ _) ?_
    refine aw_iald (npc := 169) (x := (a 85) ((24 * k) + i)) (j := ((24 * k) + i)) dX8_lay_168 rfl F.2.2.2.2.2.2.2.2.2.2.2.2.2.2.2.2.1 (am_ix_nI (by omega)) (tl_at (by omega)) ?_
    refine aw_iast (npc := 170) (j := ((24 * s) + i)) dX8_lay_169 rfl F.2.2.2.2.2.2.2.2.2.2.2.2.2.2.2.2.2.2.2.2.1 (am_ix_nI (by omega)) (by rw [tl_len]; omega) rfl ?_
    have F2 := mr_89 (j := ((24 * s) + i)) (v := (a 85) ((24 * k) + i)) F
    refine aw_iinc (npc := 173) (v := nI (i + 1)) (L' := [some (.ref 69), some (.int (nI s)), some (.int 2), some (.int (nI k)), some (.int w), some (.int (nI (i + 1)))]) dX8_lay_170 rfl rfl (nI_1 _) (by decide) rfl rfl ?_
    refine aw_goto (npc := 134) dX8_lay_173 (by decide) ?_
    refine ih (i + 1) (by omega) _ _ F2 ?_ (fun c hc => (aup_n hc).trans (hc9 c hc)) (fun a9 h9 M9 e9 c9 f9 => hq a9 h9 M9 e9 c9 (am_fpT f9 (am_fpU (show ¬ (89 < 69 ∨ 92 ≤ 89) by omega) am_fp0)))
    rw [aup_s, hk9, hc9 85 (by decide)]
    exact cpT_s
def upA (a : Nat → Nat → Int32) (s : Nat) (x y z : Int32) : Nat → Nat → Int32 := aup (aup (aup a 86 s x) 87 s y) 88 s z
theorem upA_86 {a : Nat → Nat → Int32} {s : Nat} {x y z : Int32} : upA a s x y z 86 = upd (a 86) s x := rfl
theorem upA_87 {a : Nat → Nat → Int32} {s : Nat} {x y z : Int32} : upA a s x y z 87 = upd (a 87) s y := rfl
theorem upA_88 {a : Nat → Nat → Int32} {s : Nat} {x y z : Int32} : upA a s x y z 88 = upd (a 88) s z := rfl
theorem upA_n {a : Nat → Nat → Int32} {s c : Nat} {x y z : Int32} (h : c ≠ 86 ∧ c ≠ 87 ∧ c ≠ 88) : upA a s x y z c = a c := (aup_n h.2.2).trans ((aup_n h.2.1).trans (aup_n h.1))
def laM (N sr : Nat → Int32) (s t k : Int32) (sz hA hA9 : Nat → Int32) : Prop := (laK N sr s t k → (t = 1 → hA9 = upd hA (fN s) (N (22 + 5 * fN k))) ∧ (t = 2 → hA9 = upd hA (fN s) (sz (fN k))) ∧ (¬ t = 1 → ¬ t = 2 → hA9 = upd hA (fN s) k)) ∧ (¬ laK N sr s t k → hA9 = hA)
def laM2 (N sr : Nat → Int32) (s t k : Int32) (hB hB9 : Nat → Int32) : Prop := (laK N sr s t k → (t = 1 → hB9 = upd hB (fN s) (wort (N (22 + 5 * fN k)) (N (24 + 5 * fN k)))) ∧ (¬ t = 1 → hB9 = upd hB (fN s) 0)) ∧ (¬ laK N sr s t k → hB9 = hB)
set_option maxHeartbeats 4000000 in
set_option maxRecDepth 100000 in
theorem M_lay {X : List Int32} {d rc rs n : Nat} {Q : am_Q} {h : am_H} {o N : Nat → Int32} {a : Nat → Nat → Int32} {fr c : Nat} {s : Int32} {t : Int32} {k : Int32} (F : MR o N a h) (hR : RG N fr c) (hI : RI (a 83) (a 84)) (hq : ∀ v9 a9 h9, v9 = laV N (a 83) (a 86) s t k → a9 86 = laT N (a 83) s t k (a 86) → laM N (a 83) s t k (a 84) (a 87) (a9 87) → laM2 N (a 83) s t k (a 88) (a9 88) → a9 89 = laH N (a 83) (a 85) s t k (a 89) → (∀ c, c ≠ 86 → c ≠ 87 → c ≠ 88 → c ≠ 89 → a9 c = a c) → MR o N a9 h9 → am_fp (fun k => k < 69 ∨ 92 ≤ k) h9 h → Q (some (.int v9)) n h9) : AW X mX8_lay (d + 12) rc rs 0 [some (.ref 69), some (.int s), some (.int t), some (.int k), none, none] [] n h Q := by
  have h8r := hR.2.1
  have h14r := hR.2.2.2.1
  refine aw_iload_n (npc := 1) rfl dX8_lay_0 rfl ?_
  refine aw_callS (npc := 4) (N := mX8_isSlot) (mc := 0) (ms := 0) (A := [.int s]) (S := []) (L0 := [some (.int s)]) dX8_lay_1 rfl km_X8_isSlot kk_X8_262 rfl ⟨rfl, by decide⟩ rfl (Nat.le_of_ble_eq_true rfl) (Nat.zero_add _) (Nat.zero_add _) rfl ?_
  refine c_X8_isSlot (fun hw1 => ?_) (fun hw1 => ?_)
  · obtain ⟨sn, hsn, esn⟩ := wi_nI (H := 4) (by decide) (by decide) hw1
    subst esn
    have fsn : fN (nI sn) = sn := fN_nI (by omega)
    refine aw_re (S' := [.int 1]) rfl ?_
    refine aw_if_eq (npc := 7) (tgt := 41) dX8_lay_4 rfl (by decide) (fun hc => absurd hc (by decide)) (fun _ => ?_)
    refine aw_iload_n (npc := 8) rfl dX8_lay_7 rfl ?_
    refine aw_iconst (npc := 9) (v := 0) (by decide) dX8_lay_8 rfl ?_
    refine aw_iconst (npc := 10) (v := 3) (by decide) dX8_lay_9 rfl ?_
    refine aw_callS (npc := 13) (N := mX8_in) (mc := 0) (ms := 0) (A := [.int t, .int 0, .int 3]) (S := []) (L0 := [some (.int t), some (.int 0), some (.int 3)]) dX8_lay_10 rfl km_X8_in kk_X8_83 rfl ⟨rfl, by decide⟩ rfl (Nat.le_of_ble_eq_true rfl) (Nat.zero_add _) (Nat.zero_add _) rfl ?_
    refine c_X8_in (fun hw2 => ?_) (fun hw2 => ?_)
    · rcases wi_c0_3 hw2 with rfl | rfl | rfl | rfl
      · refine aw_re (S' := [.int 1]) rfl ?_
        refine aw_if_eq (npc := 16) (tgt := 41) dX8_lay_13 rfl (by decide) (fun hc => absurd hc (by decide)) (fun _ => ?_)
        refine aw_iload_n (npc := 17) rfl dX8_lay_16 rfl ?_
        refine aw_iconst (npc := 18) (v := 1) (by decide) dX8_lay_17 rfl ?_
        refine aw_icmp_ne (npc := 21) (tgt := 29) dX8_lay_18 rfl (by decide) (fun _ => ?_) (fun hc => absurd hc (by decide))
        refine aw_iload_n (npc := 30) rfl dX8_lay_29 rfl ?_
        refine aw_iconst (npc := 31) (v := 2) (by decide) dX8_lay_30 rfl ?_
        refine aw_icmp_ne (npc := 34) (tgt := 44) dX8_lay_31 rfl (by decide) (fun _ => ?_) (fun hc => absurd hc (by decide))
        refine aw_iload_n (npc := 45) rfl dX8_lay_44 rfl ?_
        refine aw_iconst (npc := 46) (v := 2) (by decide) dX8_lay_45 rfl ?_
        refine aw_icmp_ne (npc := 49) (tgt := 61) dX8_lay_46 rfl (by decide) (fun _ => ?_) (fun hc => absurd hc (by decide))
        refine aw_aload_n (npc := 62) rfl dX8_lay_61 rfl ?_
        refine aw_get (npc := 65) dX8_lay_62 rfl kf_X8_64 F.1 rfl ?_
        refine aw_iload_n (npc := 66) rfl dX8_lay_65 rfl ?_
        refine aw_iald (npc := 67) (x := (a 86) sn) (j := sn) dX8_lay_66 rfl F.2.2.2.2.2.2.2.2.2.2.2.2.2.2.2.2.2.1 (am_ix_nI (by omega)) (tl_at (by omega)) ?_
        refine aw_istore (npc := 69) (L' := [some (.ref 69), some (.int (nI sn)), some (.int 0), some (.int k), some (.int ((a 86) sn)), none]) dX8_lay_67 rfl (by decide) rfl rfl ?_
        refine aw_aload_n (npc := 70) rfl dX8_lay_69 rfl ?_
        refine aw_get (npc := 73) dX8_lay_70 rfl kf_X8_64 F.1 rfl ?_
        refine aw_iload_n (npc := 74) rfl dX8_lay_73 rfl ?_
        refine aw_iload_n (npc := 75) rfl dX8_lay_74 rfl ?_
        refine aw_iast (npc := 76) (j := sn) dX8_lay_75 rfl F.2.2.2.2.2.2.2.2.2.2.2.2.2.2.2.2.2.1 (am_ix_nI (by omega)) (by rw [tl_len]; omega) rfl ?_
        have F3 := mr_86 (j := sn) (v := 0) F
        refine aw_aload_n (npc := 77) rfl dX8_lay_76 rfl ?_
        refine aw_get (npc := 80) dX8_lay_77 rfl kf_X8_67 F3.1 rfl ?_
        refine aw_iload_n (npc := 81) rfl dX8_lay_80 rfl ?_
        refine aw_iload_n (npc := 82) rfl dX8_lay_81 rfl ?_
        refine aw_iconst (npc := 83) (v := 1) (by decide) dX8_lay_82 rfl ?_
        refine aw_icmp_ne (npc := 86) (tgt := 95) dX8_lay_83 rfl (by decide) (fun _ => ?_) (fun hc => absurd hc (by decide))
        refine aw_iload_n (npc := 96) rfl dX8_lay_95 rfl ?_
        refine aw_iconst (npc := 97) (v := 2) (by decide) dX8_lay_96 rfl ?_
        refine aw_icmp_ne (npc := 100) (tgt := 109) dX8_lay_97 rfl (by decide) (fun _ => ?_) (fun hc => absurd hc (by decide))
        refine aw_iload_n (npc := 110) rfl dX8_lay_109 rfl ?_
        refine aw_iast (npc := 111) (j := sn) dX8_lay_110 rfl F3.2.2.2.2.2.2.2.2.2.2.2.2.2.2.2.2.2.2.1 (am_ix_nI (by omega)) (by rw [tl_len]; omega) rfl ?_
        have F4 := mr_87 (j := sn) (v := k) F3
        refine aw_aload_n (npc := 112) rfl dX8_lay_111 rfl ?_
        refine aw_get (npc := 115) dX8_lay_112 rfl kf_X8_70 F4.1 rfl ?_
        refine aw_iload_n (npc := 116) rfl dX8_lay_115 rfl ?_
        refine aw_iload_n (npc := 117) rfl dX8_lay_116 rfl ?_
        refine aw_iconst (npc := 118) (v := 1) (by decide) dX8_lay_117 rfl ?_
        refine aw_icmp_ne (npc := 121) (tgt := 129) dX8_lay_118 rfl (by decide) (fun _ => ?_) (fun hc => absurd hc (by decide))
        refine aw_iconst (npc := 130) (v := 0) (by decide) dX8_lay_129 rfl ?_
        refine aw_iast (npc := 131) (j := sn) dX8_lay_130 rfl F4.2.2.2.2.2.2.2.2.2.2.2.2.2.2.2.2.2.2.2.1 (am_ix_nI (by omega)) (by rw [tl_len]; omega) rfl ?_
        have F5 := mr_88 (j := sn) (v := 0) F4
        refine aw_iconst (npc := 132) (v := 0) (by decide) dX8_lay_131 rfl ?_
        refine aw_istore (npc := 134) (L' := [some (.ref 69), some (.int (nI sn)), some (.int 0), some (.int k), some (.int ((a 86) sn)), some (.int 0)]) dX8_lay_132 rfl (by decide) rfl rfl ?_
        refine aw_iload (npc := 136) rfl dX8_lay_134 rfl ?_
        refine aw_bipush (npc := 138) (v := 24) (by decide) dX8_lay_136 rfl ?_
        refine aw_icmp_ge (npc := 141) (tgt := 176) dX8_lay_138 rfl (by decide) (fun hc => absurd hc (by decide)) (fun _ => ?_)
        refine aw_iload_n (npc := 142) rfl dX8_lay_141 rfl ?_
        refine aw_iconst (npc := 143) (v := 2) (by decide) dX8_lay_142 rfl ?_
        refine aw_icmp_ne (npc := 146) (tgt := 176) dX8_lay_143 rfl (by decide) (fun _ => ?_) (fun hc => absurd hc (by decide))
        refine aw_iload (npc := 178) rfl dX8_lay_176 rfl ?_
        refine aw_iret rfl dX8_lay_178 ?_
        exact hq _ _ _ (by simp [laB, laK, laV, laT, laH, laU, cI, hw1, hw2, fsn]) (by show upd (a 86) sn 0 = _; simp [laB, laK, laV, laT, laH, laU, cI, hw1, hw2, fsn]) (by show laM _ _ _ _ _ (a 84) (a 87) (upd (a 87) sn k); simp [laB, laK, laV, laT, laH, laU, laM, cI, hw1, hw2, fsn]) (by show laM2 _ _ _ _ _ (a 88) (upd (a 88) sn 0); simp [laB, laK, laV, laT, laH, laU, laM2, cI, hw1, hw2, fsn]) (by show a 89 = _; simp [laB, laK, laV, laT, laH, laU, cI, hw1, hw2, fsn]) (fun c h1 h2 h3 h4 => (aup_n h3).trans ((aup_n h2).trans (aup_n h1))) F5 (am_fpU (show ¬ (88 < 69 ∨ 92 ≤ 88) by omega) (am_fpU (show ¬ (87 < 69 ∨ 92 ≤ 87) by omega) (am_fpU (show ¬ (86 < 69 ∨ 92 ≤ 86) by omega) am_fp0)))
      · refine aw_re (S' := [.int 1]) rfl ?_
        refine aw_if_eq (npc := 16) (tgt := 41) dX8_lay_13 rfl (by decide) (fun hc => absurd hc (by decide)) (fun _ => ?_)
        refine aw_iload_n (npc := 17) rfl dX8_lay_16 rfl ?_
        refine aw_iconst (npc := 18) (v := 1) (by decide) dX8_lay_17 rfl ?_
        refine aw_icmp_ne (npc := 21) (tgt := 29) dX8_lay_18 rfl (by decide) (fun hc => absurd (by decide) hc) (fun _ => ?_)
        refine aw_aload_n (npc := 22) rfl dX8_lay_21 rfl ?_
        refine aw_iload_n (npc := 23) rfl dX8_lay_22 rfl ?_
        refine aw_callV (npc := 26) (N := mX8_isFriend) (b := 69) (mc := 0) (ms := 0) (A := [.int k]) (S := []) (L0 := [some (.ref 69), some (.int k)]) dX8_lay_23 rfl km_X8_isFriend kk_X8_114 F.1 ⟨by decide, rfl⟩ rfl ⟨rfl, by decide⟩ rfl (Nat.le_of_ble_eq_true rfl) (Nat.zero_add _) (Nat.zero_add _) rfl ?_
        refine m_isFriend F (fun hw6 => ?_) (fun hw6 => ?_)
        · obtain ⟨kn, hkn, ekn⟩ := wi_idx hR.1 (by have z := hR.2.1; omega) hw6
          subst ekn
          have h8kn : kn < 8 := by have z := hR.2.1; omega
          have fkn : fN (nI kn) = kn := fN_nI (by omega)
          refine aw_re (S' := [.int 1]) rfl ?_
          refine aw_if_eq (npc := 29) (tgt := 41) dX8_lay_26 rfl (by decide) (fun hc => absurd hc (by decide)) (fun _ => ?_)
          refine aw_iload_n (npc := 30) rfl dX8_lay_29 rfl ?_
          refine aw_iconst (npc := 31) (v := 2) (by decide) dX8_lay_30 rfl ?_
          refine aw_icmp_ne (npc := 34) (tgt := 44) dX8_lay_31 rfl (by decide) (fun _ => ?_) (fun hc => absurd hc (by decide))
          refine aw_iload_n (npc := 45) rfl dX8_lay_44 rfl ?_
          refine aw_iconst (npc := 46) (v := 2) (by decide) dX8_lay_45 rfl ?_
          refine aw_icmp_ne (npc := 49) (tgt := 61) dX8_lay_46 rfl (by decide) (fun _ => ?_) (fun hc => absurd hc (by decide))
          refine aw_aload_n (npc := 62) rfl dX8_lay_61 rfl ?_
          refine aw_get (npc := 65) dX8_lay_62 rfl kf_X8_64 F.1 rfl ?_
          refine aw_iload_n (npc := 66) rfl dX8_lay_65 rfl ?_
          refine aw_iald (npc := 67) (x := (a 86) sn) (j := sn) dX8_lay_66 rfl F.2.2.2.2.2.2.2.2.2.2.2.2.2.2.2.2.2.1 (am_ix_nI (by omega)) (tl_at (by omega)) ?_
          refine aw_istore (npc := 69) (L' := [some (.ref 69), some (.int (nI sn)), some (.int 1), some (.int (nI kn)), some (.int ((a 86) sn)), none]) dX8_lay_67 rfl (by decide) rfl rfl ?_
          refine aw_aload_n (npc := 70) rfl dX8_lay_69 rfl ?_
          refine aw_get (npc := 73) dX8_lay_70 rfl kf_X8_64 F.1 rfl ?_
          refine aw_iload_n (npc := 74) rfl dX8_lay_73 rfl ?_
          refine aw_iload_n (npc := 75) rfl dX8_lay_74 rfl ?_
          refine aw_iast (npc := 76) (j := sn) dX8_lay_75 rfl F.2.2.2.2.2.2.2.2.2.2.2.2.2.2.2.2.2.1 (am_ix_nI (by omega)) (by rw [tl_len]; omega) rfl ?_
          have F7 := mr_86 (j := sn) (v := 1) F
          refine aw_aload_n (npc := 77) rfl dX8_lay_76 rfl ?_
          refine aw_get (npc := 80) dX8_lay_77 rfl kf_X8_67 F7.1 rfl ?_
          refine aw_iload_n (npc := 81) rfl dX8_lay_80 rfl ?_
          refine aw_iload_n (npc := 82) rfl dX8_lay_81 rfl ?_
          refine aw_iconst (npc := 83) (v := 1) (by decide) dX8_lay_82 rfl ?_
          refine aw_icmp_ne (npc := 86) (tgt := 95) dX8_lay_83 rfl (by decide) (fun hc => absurd (by decide) hc) (fun _ => ?_)
          refine aw_aload_n (npc := 87) rfl dX8_lay_86 rfl ?_
          refine aw_iload_n (npc := 88) rfl dX8_lay_87 rfl ?_
          refine aw_iconst (npc := 89) (v := 0) (by decide) dX8_lay_88 rfl ?_
          refine aw_callV (npc := 92) (N := mX8_of) (b := 69) (mc := 0) (ms := 0) (A := [.int (nI kn), .int 0]) (S := [.int (nI sn), .ref 87]) (L0 := [some (.ref 69), some (.int (nI kn)), some (.int 0)]) dX8_lay_89 rfl km_X8_of kk_X8_101 F7.1 ⟨by decide, rfl⟩ rfl ⟨rfl, by decide⟩ rfl (Nat.le_of_ble_eq_true rfl) (Nat.zero_add _) (Nat.zero_add _) rfl ?_
          refine m_of0 (f := kn) F7 (by omega) ?_
          refine aw_re (S' := [.int (N (22 + 5 * kn)), .int (nI sn), .ref 87]) rfl ?_
          refine aw_goto (npc := 110) dX8_lay_92 (by decide) ?_
          refine aw_iast (npc := 111) (j := sn) dX8_lay_110 rfl F7.2.2.2.2.2.2.2.2.2.2.2.2.2.2.2.2.2.2.1 (am_ix_nI (by omega)) (by rw [tl_len]; omega) rfl ?_
          have F8 := mr_87 (j := sn) (v := N (22 + 5 * kn)) F7
          refine aw_aload_n (npc := 112) rfl dX8_lay_111 rfl ?_
          refine aw_get (npc := 115) dX8_lay_112 rfl kf_X8_70 F8.1 rfl ?_
          refine aw_iload_n (npc := 116) rfl dX8_lay_115 rfl ?_
          refine aw_iload_n (npc := 117) rfl dX8_lay_116 rfl ?_
          refine aw_iconst (npc := 118) (v := 1) (by decide) dX8_lay_117 rfl ?_
          refine aw_icmp_ne (npc := 121) (tgt := 129) dX8_lay_118 rfl (by decide) (fun hc => absurd (by decide) hc) (fun _ => ?_)
          refine aw_aload_n (npc := 122) rfl dX8_lay_121 rfl ?_
          refine aw_iload_n (npc := 123) rfl dX8_lay_122 rfl ?_
          refine aw_callV (npc := 126) (N := mX8_worthOf) (b := 69) (mc := 0) (ms := 0) (A := [.int (nI kn)]) (S := [.int (nI sn), .ref 88]) (L0 := [some (.ref 69), some (.int (nI kn)), none]) dX8_lay_123 rfl km_X8_worthOf kk_X8_127 F8.1 ⟨by decide, rfl⟩ rfl ⟨rfl, by decide⟩ rfl (Nat.le_of_ble_eq_true rfl) (Nat.zero_add _) (Nat.zero_add _) rfl ?_
          refine m_worthOf (f := kn) F8 (by omega) (hR.2.2.2.2.1 kn (by omega)).1 ?_
          refine aw_re (S' := [.int (wort (N (22 + 5 * kn)) (N (24 + 5 * kn))), .int (nI sn), .ref 88]) rfl ?_
          refine aw_goto (npc := 130) dX8_lay_126 (by decide) ?_
          refine aw_iast (npc := 131) (j := sn) dX8_lay_130 rfl F8.2.2.2.2.2.2.2.2.2.2.2.2.2.2.2.2.2.2.2.1 (am_ix_nI (by omega)) (by rw [tl_len]; omega) rfl ?_
          have F9 := mr_88 (j := sn) (v := wort (N (22 + 5 * kn)) (N (24 + 5 * kn))) F8
          refine aw_iconst (npc := 132) (v := 0) (by decide) dX8_lay_131 rfl ?_
          refine aw_istore (npc := 134) (L' := [some (.ref 69), some (.int (nI sn)), some (.int 1), some (.int (nI kn)), some (.int ((a 86) sn)), some (.int 0)]) dX8_lay_132 rfl (by decide) rfl rfl ?_
          refine aw_iload (npc := 136) rfl dX8_lay_134 rfl ?_
          refine aw_bipush (npc := 138) (v := 24) (by decide) dX8_lay_136 rfl ?_
          refine aw_icmp_ge (npc := 141) (tgt := 176) dX8_lay_138 rfl (by decide) (fun hc => absurd hc (by decide)) (fun _ => ?_)
          refine aw_iload_n (npc := 142) rfl dX8_lay_141 rfl ?_
          refine aw_iconst (npc := 143) (v := 2) (by decide) dX8_lay_142 rfl ?_
          refine aw_icmp_ne (npc := 146) (tgt := 176) dX8_lay_143 rfl (by decide) (fun _ => ?_) (fun hc => absurd hc (by decide))
          refine aw_iload (npc := 178) rfl dX8_lay_176 rfl ?_
          refine aw_iret rfl dX8_lay_178 ?_
          exact hq _ _ _ (by simp [laB, laK, laV, laT, laH, laU, cI, hw1, hw2, hw6, fsn, fkn]) (by show upd (a 86) sn 1 = _; simp [laB, laK, laV, laT, laH, laU, cI, hw1, hw2, hw6, fsn, fkn]) (by show laM _ _ _ _ _ (a 84) (a 87) (upd (a 87) sn (N (22 + 5 * kn))); simp [laB, laK, laV, laT, laH, laU, laM, cI, hw1, hw2, hw6, fsn, fkn]) (by show laM2 _ _ _ _ _ (a 88) (upd (a 88) sn (wort (N (22 + 5 * kn)) (N (24 + 5 * kn)))); simp [laB, laK, laV, laT, laH, laU, laM2, cI, hw1, hw2, hw6, fsn, fkn]) (by show a 89 = _; simp [laB, laK, laV, laT, laH, laU, cI, hw1, hw2, hw6, fsn, fkn]) (fun c h1 h2 h3 h4 => (aup_n h3).trans ((aup_n h2).trans (aup_n h1))) F9 (am_fpU (show ¬ (88 < 69 ∨ 92 ≤ 88) by omega) (am_fpU (show ¬ (87 < 69 ∨ 92 ≤ 87) by omega) (am_fpU (show ¬ (86 < 69 ∨ 92 ≤ 86) by omega) am_fp0)))
        · refine aw_re (S' := [.int 0]) rfl ?_
          refine aw_if_eq (npc := 29) (tgt := 41) dX8_lay_26 rfl (by decide) (fun _ => ?_) (fun hc => absurd (by decide) hc)
          refine aw_ldc (npc := 43) kc_X8_91 dX8_lay_41 rfl ?_
          refine aw_iret rfl dX8_lay_43 ?_
          exact hq _ _ _ (by simp [laB, laK, laV, laT, laH, laU, cI, hw1, hw2, hw6, fsn]) (by simp [laB, laK, laV, laT, laH, laU, cI, hw1, hw2, hw6, fsn]) (by simp [laB, laK, laV, laT, laH, laU, laM, cI, hw1, hw2, hw6, fsn]) (by simp [laB, laK, laV, laT, laH, laU, laM2, cI, hw1, hw2, hw6, fsn]) (by simp [laB, laK, laV, laT, laH, laU, cI, hw1, hw2, hw6, fsn]) (fun _ _ _ _ _ => rfl) F am_fp0
      · refine aw_re (S' := [.int 1]) rfl ?_
        refine aw_if_eq (npc := 16) (tgt := 41) dX8_lay_13 rfl (by decide) (fun hc => absurd hc (by decide)) (fun _ => ?_)
        refine aw_iload_n (npc := 17) rfl dX8_lay_16 rfl ?_
        refine aw_iconst (npc := 18) (v := 1) (by decide) dX8_lay_17 rfl ?_
        refine aw_icmp_ne (npc := 21) (tgt := 29) dX8_lay_18 rfl (by decide) (fun _ => ?_) (fun hc => absurd hc (by decide))
        refine aw_iload_n (npc := 30) rfl dX8_lay_29 rfl ?_
        refine aw_iconst (npc := 31) (v := 2) (by decide) dX8_lay_30 rfl ?_
        refine aw_icmp_ne (npc := 34) (tgt := 44) dX8_lay_31 rfl (by decide) (fun hc => absurd (by decide) hc) (fun _ => ?_)
        refine aw_iload_n (npc := 35) rfl dX8_lay_34 rfl ?_
        refine aw_callS (npc := 38) (N := mX8_isSheet) (mc := 0) (ms := 0) (A := [.int k]) (S := []) (L0 := [some (.int k)]) dX8_lay_35 rfl km_X8_isSheet kk_X8_184 rfl ⟨rfl, by decide⟩ rfl (Nat.le_of_ble_eq_true rfl) (Nat.zero_add _) (Nat.zero_add _) rfl ?_
        refine c_X8_isSheet (fun hw10 => ?_) (fun hw10 => ?_)
        · obtain ⟨kn, hkn, ekn⟩ := wi_nI (H := 3) (by decide) (by decide) hw10
          subst ekn
          have fkn : fN (nI kn) = kn := fN_nI (by omega)
          obtain ⟨hsr, z9, hz9, ez9⟩ := hI kn (by omega)
          refine aw_re (S' := [.int 1]) rfl ?_
          refine aw_if_ne (npc := 41) (tgt := 44) dX8_lay_38 rfl (by decide) (fun _ => ?_) (fun hc => absurd hc (by decide))
          refine aw_iload_n (npc := 45) rfl dX8_lay_44 rfl ?_
          refine aw_iconst (npc := 46) (v := 2) (by decide) dX8_lay_45 rfl ?_
          refine aw_icmp_ne (npc := 49) (tgt := 61) dX8_lay_46 rfl (by decide) (fun hc => absurd (by decide) hc) (fun _ => ?_)
          refine aw_aload_n (npc := 50) rfl dX8_lay_49 rfl ?_
          refine aw_get (npc := 53) dX8_lay_50 rfl kf_X8_55 F.1 rfl ?_
          refine aw_iload_n (npc := 54) rfl dX8_lay_53 rfl ?_
          refine aw_iald (npc := 55) (x := (a 83) kn) (j := kn) dX8_lay_54 rfl F.2.2.2.2.2.2.2.2.2.2.2.2.2.2.1 (am_ix_nI (by omega)) (tl_at (by omega)) ?_
          rcases wi_cm1_1 hsr with esr | esr | esr
          · refine aw_top (y := -1) esr ?_
            refine aw_if_ge (npc := 58) (tgt := 61) dX8_lay_55 rfl (by decide) (fun hc => absurd hc (by decide)) (fun _ => ?_)
            refine aw_ldc (npc := 60) kc_X8_187 dX8_lay_58 rfl ?_
            refine aw_iret rfl dX8_lay_60 ?_
            exact hq _ _ _ (by simp [laB, laK, laV, laT, laH, laU, cI, hw1, hw2, hw10, fsn, fkn, esr]) (by simp [laB, laK, laV, laT, laH, laU, cI, hw1, hw2, hw10, fsn, fkn, esr]) (by simp [laB, laK, laV, laT, laH, laU, laM, cI, hw1, hw2, hw10, fsn, fkn, esr]) (by simp [laB, laK, laV, laT, laH, laU, laM2, cI, hw1, hw2, hw10, fsn, fkn, esr]) (by simp [laB, laK, laV, laT, laH, laU, cI, hw1, hw2, hw10, fsn, fkn, esr]) (fun _ _ _ _ _ => rfl) F am_fp0
          · refine aw_top (y := 0) esr ?_
            refine aw_if_ge (npc := 58) (tgt := 61) dX8_lay_55 rfl (by decide) (fun _ => ?_) (fun hc => absurd (by decide) hc)
            refine aw_aload_n (npc := 62) rfl dX8_lay_61 rfl ?_
            refine aw_get (npc := 65) dX8_lay_62 rfl kf_X8_64 F.1 rfl ?_
            refine aw_iload_n (npc := 66) rfl dX8_lay_65 rfl ?_
            refine aw_iald (npc := 67) (x := (a 86) sn) (j := sn) dX8_lay_66 rfl F.2.2.2.2.2.2.2.2.2.2.2.2.2.2.2.2.2.1 (am_ix_nI (by omega)) (tl_at (by omega)) ?_
            refine aw_istore (npc := 69) (L' := [some (.ref 69), some (.int (nI sn)), some (.int 2), some (.int (nI kn)), some (.int ((a 86) sn)), none]) dX8_lay_67 rfl (by decide) rfl rfl ?_
            refine aw_aload_n (npc := 70) rfl dX8_lay_69 rfl ?_
            refine aw_get (npc := 73) dX8_lay_70 rfl kf_X8_64 F.1 rfl ?_
            refine aw_iload_n (npc := 74) rfl dX8_lay_73 rfl ?_
            refine aw_iload_n (npc := 75) rfl dX8_lay_74 rfl ?_
            refine aw_iast (npc := 76) (j := sn) dX8_lay_75 rfl F.2.2.2.2.2.2.2.2.2.2.2.2.2.2.2.2.2.1 (am_ix_nI (by omega)) (by rw [tl_len]; omega) rfl ?_
            have F11 := mr_86 (j := sn) (v := 2) F
            refine aw_aload_n (npc := 77) rfl dX8_lay_76 rfl ?_
            refine aw_get (npc := 80) dX8_lay_77 rfl kf_X8_67 F11.1 rfl ?_
            refine aw_iload_n (npc := 81) rfl dX8_lay_80 rfl ?_
            refine aw_iload_n (npc := 82) rfl dX8_lay_81 rfl ?_
            refine aw_iconst (npc := 83) (v := 1) (by decide) dX8_lay_82 rfl ?_
            refine aw_icmp_ne (npc := 86) (tgt := 95) dX8_lay_83 rfl (by decide) (fun _ => ?_) (fun hc => absurd hc (by decide))
            refine aw_iload_n (npc := 96) rfl dX8_lay_95 rfl ?_
            refine aw_iconst (npc := 97) (v := 2) (by decide) dX8_lay_96 rfl ?_
            refine aw_icmp_ne (npc := 100) (tgt := 109) dX8_lay_97 rfl (by decide) (fun hc => absurd (by decide) hc) (fun _ => ?_)
            refine aw_aload_n (npc := 101) rfl dX8_lay_100 rfl ?_
            refine aw_get (npc := 104) dX8_lay_101 rfl kf_X8_58 F11.1 rfl ?_
            refine aw_iload_n (npc := 105) rfl dX8_lay_104 rfl ?_
            refine aw_iald (npc := 106) (x := (a 84) kn) (j := kn) dX8_lay_105 rfl F11.2.2.2.2.2.2.2.2.2.2.2.2.2.2.2.1 (am_ix_nI (by omega)) (tl_at (by omega)) ?_
            refine aw_goto (npc := 110) dX8_lay_106 (by decide) ?_
            refine aw_iast (npc := 111) (j := sn) dX8_lay_110 rfl F11.2.2.2.2.2.2.2.2.2.2.2.2.2.2.2.2.2.2.1 (am_ix_nI (by omega)) (by rw [tl_len]; omega) rfl ?_
            have F12 := mr_87 (j := sn) (v := (a 84) kn) F11
            refine aw_aload_n (npc := 112) rfl dX8_lay_111 rfl ?_
            refine aw_get (npc := 115) dX8_lay_112 rfl kf_X8_70 F12.1 rfl ?_
            refine aw_iload_n (npc := 116) rfl dX8_lay_115 rfl ?_
            refine aw_iload_n (npc := 117) rfl dX8_lay_116 rfl ?_
            refine aw_iconst (npc := 118) (v := 1) (by decide) dX8_lay_117 rfl ?_
            refine aw_icmp_ne (npc := 121) (tgt := 129) dX8_lay_118 rfl (by decide) (fun _ => ?_) (fun hc => absurd hc (by decide))
            refine aw_iconst (npc := 130) (v := 0) (by decide) dX8_lay_129 rfl ?_
            refine aw_iast (npc := 131) (j := sn) dX8_lay_130 rfl F12.2.2.2.2.2.2.2.2.2.2.2.2.2.2.2.2.2.2.2.1 (am_ix_nI (by omega)) (by rw [tl_len]; omega) rfl ?_
            have F13 := mr_88 (j := sn) (v := 0) F12
            refine aw_iconst (npc := 132) (v := 0) (by decide) dX8_lay_131 rfl ?_
            refine aw_istore (npc := 134) (L' := [some (.ref 69), some (.int (nI sn)), some (.int 2), some (.int (nI kn)), some (.int ((a 86) sn)), some (.int 0)]) dX8_lay_132 rfl (by decide) rfl rfl ?_
            refine aw_locs (L' := [some (.ref 69), some (.int (nI sn)), some (.int 2), some (.int (nI kn)), some (.int ((a 86) sn)), some (.int (nI 0))]) rfl ?_
            refine m_layL (s := sn) (k := kn) (a0 := aup (aup (aup a 86 sn 2) 87 sn ((a 84) kn)) 88 sn 0) (by omega) (by omega) 24 0 (by omega) _ _ F13 cpT_0.symm (fun _ _ => rfl) (fun a9 h9 M9 e9 c9 f9 => ?_)
            refine aw_iload (npc := 178) rfl dX8_lay_176 rfl ?_
            refine aw_iret rfl dX8_lay_178 ?_
            have q6 := c9 86 (by decide)
            have q7 := c9 87 (by decide)
            have q8 := c9 88 (by decide)
            have qn : ∀ c, c ≠ 86 → c ≠ 87 → c ≠ 88 → c ≠ 89 → a9 c = a c := fun c h1 h2 h3 h4 => (c9 c h4).trans ((aup_n h3).trans ((aup_n h2).trans (aup_n h1)))
            have q9 : a9 89 = cpS (a 89) (a 85) sn kn := e9
            exact hq _ _ _ (by simp [laB, laK, laV, laT, laH, laU, cI, hw1, hw2, hw10, fsn, fkn, esr]) (by rw [q6]; show upd (a 86) sn 2 = _; simp [laB, laK, laV, laT, laH, laU, cI, hw1, hw2, hw10, fsn, fkn, esr]) (by rw [q7]; show laM _ _ _ _ _ (a 84) (a 87) (upd (a 87) sn (a 84 kn)) ; simp [laB, laK, laV, laT, laH, laU, laM, cI, hw1, hw2, hw10, fsn, fkn, esr]) (by rw [q8]; show laM2 _ _ _ _ _ (a 88) (upd (a 88) sn 0); simp [laB, laK, laV, laT, laH, laU, laM2, cI, hw1, hw2, hw10, fsn, fkn, esr]) (by rw [q9]; simp [laB, laK, laV, laT, laH, laU, cI, hw1, hw2, hw10, fsn, fkn, esr]) qn M9 (am_fpT f9 (am_fpU (show ¬ (88 < 69 ∨ 92 ≤ 88) by omega) (am_fpU (show ¬ (87 < 69 ∨ 92 ≤ 87) by omega) (am_fpU (show ¬ (86 < 69 ∨ 92 ≤ 86) by omega) am_fp0))))
          · refine aw_top (y := 1) esr ?_
            refine aw_if_ge (npc := 58) (tgt := 61) dX8_lay_55 rfl (by decide) (fun _ => ?_) (fun hc => absurd (by decide) hc)
            refine aw_aload_n (npc := 62) rfl dX8_lay_61 rfl ?_
            refine aw_get (npc := 65) dX8_lay_62 rfl kf_X8_64 F.1 rfl ?_
            refine aw_iload_n (npc := 66) rfl dX8_lay_65 rfl ?_
            refine aw_iald (npc := 67) (x := (a 86) sn) (j := sn) dX8_lay_66 rfl F.2.2.2.2.2.2.2.2.2.2.2.2.2.2.2.2.2.1 (am_ix_nI (by omega)) (tl_at (by omega)) ?_
            refine aw_istore (npc := 69) (L' := [some (.ref 69), some (.int (nI sn)), some (.int 2), some (.int (nI kn)), some (.int ((a 86) sn)), none]) dX8_lay_67 rfl (by decide) rfl rfl ?_
            refine aw_aload_n (npc := 70) rfl dX8_lay_69 rfl ?_
            refine aw_get (npc := 73) dX8_lay_70 rfl kf_X8_64 F.1 rfl ?_
            refine aw_iload_n (npc := 74) rfl dX8_lay_73 rfl ?_
            refine aw_iload_n (npc := 75) rfl dX8_lay_74 rfl ?_
            refine aw_iast (npc := 76) (j := sn) dX8_lay_75 rfl F.2.2.2.2.2.2.2.2.2.2.2.2.2.2.2.2.2.1 (am_ix_nI (by omega)) (by rw [tl_len]; omega) rfl ?_
            have F14 := mr_86 (j := sn) (v := 2) F
            refine aw_aload_n (npc := 77) rfl dX8_lay_76 rfl ?_
            refine aw_get (npc := 80) dX8_lay_77 rfl kf_X8_67 F14.1 rfl ?_
            refine aw_iload_n (npc := 81) rfl dX8_lay_80 rfl ?_
            refine aw_iload_n (npc := 82) rfl dX8_lay_81 rfl ?_
            refine aw_iconst (npc := 83) (v := 1) (by decide) dX8_lay_82 rfl ?_
            refine aw_icmp_ne (npc := 86) (tgt := 95) dX8_lay_83 rfl (by decide) (fun _ => ?_) (fun hc => absurd hc (by decide))
            refine aw_iload_n (npc := 96) rfl dX8_lay_95 rfl ?_
            refine aw_iconst (npc := 97) (v := 2) (by decide) dX8_lay_96 rfl ?_
            refine aw_icmp_ne (npc := 100) (tgt := 109) dX8_lay_97 rfl (by decide) (fun hc => absurd (by decide) hc) (fun _ => ?_)
            refine aw_aload_n (npc := 101) rfl dX8_lay_100 rfl ?_
            refine aw_get (npc := 104) dX8_lay_101 rfl kf_X8_58 F14.1 rfl ?_
            refine aw_iload_n (npc := 105) rfl dX8_lay_104 rfl ?_
            refine aw_iald (npc := 106) (x := (a 84) kn) (j := kn) dX8_lay_105 rfl F14.2.2.2.2.2.2.2.2.2.2.2.2.2.2.2.1 (am_ix_nI (by omega)) (tl_at (by omega)) ?_
            refine aw_goto (npc := 110) dX8_lay_106 (by decide) ?_
            refine aw_iast (npc := 111) (j := sn) dX8_lay_110 rfl F14.2.2.2.2.2.2.2.2.2.2.2.2.2.2.2.2.2.2.1 (am_ix_nI (by omega)) (by rw [tl_len]; omega) rfl ?_
            have F15 := mr_87 (j := sn) (v := (a 84) kn) F14
            refine aw_aload_n (npc := 112) rfl dX8_lay_111 rfl ?_
            refine aw_get (npc := 115) dX8_lay_112 rfl kf_X8_70 F15.1 rfl ?_
            refine aw_iload_n (npc := 116) rfl dX8_lay_115 rfl ?_
            refine aw_iload_n (npc := 117) rfl dX8_lay_116 rfl ?_
            refine aw_iconst (npc := 118) (v := 1) (by decide) dX8_lay_117 rfl ?_
            refine aw_icmp_ne (npc := 121) (tgt := 129) dX8_lay_118 rfl (by decide) (fun _ => ?_) (fun hc => absurd hc (by decide))
            refine aw_iconst (npc := 130) (v := 0) (by decide) dX8_lay_129 rfl ?_
            refine aw_iast (npc := 131) (j := sn) dX8_lay_130 rfl F15.2.2.2.2.2.2.2.2.2.2.2.2.2.2.2.2.2.2.2.1 (am_ix_nI (by omega)) (by rw [tl_len]; omega) rfl ?_
            have F16 := mr_88 (j := sn) (v := 0) F15
            refine aw_iconst (npc := 132) (v := 0) (by decide) dX8_lay_131 rfl ?_
            refine aw_istore (npc := 134) (L' := [some (.ref 69), some (.int (nI sn)), some (.int 2), some (.int (nI kn)), some (.int ((a 86) sn)), some (.int 0)]) dX8_lay_132 rfl (by decide) rfl rfl ?_
            refine aw_locs (L' := [some (.ref 69), some (.int (nI sn)), some (.int 2), some (.int (nI kn)), some (.int ((a 86) sn)), some (.int (nI 0))]) rfl ?_
            refine m_layL (s := sn) (k := kn) (a0 := aup (aup (aup a 86 sn 2) 87 sn ((a 84) kn)) 88 sn 0) (by omega) (by omega) 24 0 (by omega) _ _ F16 cpT_0.symm (fun _ _ => rfl) (fun a9 h9 M9 e9 c9 f9 => ?_)
            refine aw_iload (npc := 178) rfl dX8_lay_176 rfl ?_
            refine aw_iret rfl dX8_lay_178 ?_
            have q6 := c9 86 (by decide)
            have q7 := c9 87 (by decide)
            have q8 := c9 88 (by decide)
            have qn : ∀ c, c ≠ 86 → c ≠ 87 → c ≠ 88 → c ≠ 89 → a9 c = a c := fun c h1 h2 h3 h4 => (c9 c h4).trans ((aup_n h3).trans ((aup_n h2).trans (aup_n h1)))
            have q9 : a9 89 = cpS (a 89) (a 85) sn kn := e9
            exact hq _ _ _ (by simp [laB, laK, laV, laT, laH, laU, cI, hw1, hw2, hw10, fsn, fkn, esr]) (by rw [q6]; show upd (a 86) sn 2 = _; simp [laB, laK, laV, laT, laH, laU, cI, hw1, hw2, hw10, fsn, fkn, esr]) (by rw [q7]; show laM _ _ _ _ _ (a 84) (a 87) (upd (a 87) sn (a 84 kn)) ; simp [laB, laK, laV, laT, laH, laU, laM, cI, hw1, hw2, hw10, fsn, fkn, esr]) (by rw [q8]; show laM2 _ _ _ _ _ (a 88) (upd (a 88) sn 0); simp [laB, laK, laV, laT, laH, laU, laM2, cI, hw1, hw2, hw10, fsn, fkn, esr]) (by rw [q9]; simp [laB, laK, laV, laT, laH, laU, cI, hw1, hw2, hw10, fsn, fkn, esr]) qn M9 (am_fpT f9 (am_fpU (show ¬ (88 < 69 ∨ 92 ≤ 88) by omega) (am_fpU (show ¬ (87 < 69 ∨ 92 ≤ 87) by omega) (am_fpU (show ¬ (86 < 69 ∨ 92 ≤ 86) by omega) am_fp0))))
        · refine aw_re (S' := [.int 0]) rfl ?_
          refine aw_if_ne (npc := 41) (tgt := 44) dX8_lay_38 rfl (by decide) (fun hc => absurd (by decide) hc) (fun _ => ?_)
          refine aw_ldc (npc := 43) kc_X8_91 dX8_lay_41 rfl ?_
          refine aw_iret rfl dX8_lay_43 ?_
          exact hq _ _ _ (by simp [laB, laK, laV, laT, laH, laU, cI, hw1, hw2, hw10, fsn]) (by simp [laB, laK, laV, laT, laH, laU, cI, hw1, hw2, hw10, fsn]) (by simp [laB, laK, laV, laT, laH, laU, laM, cI, hw1, hw2, hw10, fsn]) (by simp [laB, laK, laV, laT, laH, laU, laM2, cI, hw1, hw2, hw10, fsn]) (by simp [laB, laK, laV, laT, laH, laU, cI, hw1, hw2, hw10, fsn]) (fun _ _ _ _ _ => rfl) F am_fp0
      · refine aw_re (S' := [.int 1]) rfl ?_
        refine aw_if_eq (npc := 16) (tgt := 41) dX8_lay_13 rfl (by decide) (fun hc => absurd hc (by decide)) (fun _ => ?_)
        refine aw_iload_n (npc := 17) rfl dX8_lay_16 rfl ?_
        refine aw_iconst (npc := 18) (v := 1) (by decide) dX8_lay_17 rfl ?_
        refine aw_icmp_ne (npc := 21) (tgt := 29) dX8_lay_18 rfl (by decide) (fun _ => ?_) (fun hc => absurd hc (by decide))
        refine aw_iload_n (npc := 30) rfl dX8_lay_29 rfl ?_
        refine aw_iconst (npc := 31) (v := 2) (by decide) dX8_lay_30 rfl ?_
        refine aw_icmp_ne (npc := 34) (tgt := 44) dX8_lay_31 rfl (by decide) (fun _ => ?_) (fun hc => absurd hc (by decide))
        refine aw_iload_n (npc := 45) rfl dX8_lay_44 rfl ?_
        refine aw_iconst (npc := 46) (v := 2) (by decide) dX8_lay_45 rfl ?_
        refine aw_icmp_ne (npc := 49) (tgt := 61) dX8_lay_46 rfl (by decide) (fun _ => ?_) (fun hc => absurd hc (by decide))
        refine aw_aload_n (npc := 62) rfl dX8_lay_61 rfl ?_
        refine aw_get (npc := 65) dX8_lay_62 rfl kf_X8_64 F.1 rfl ?_
        refine aw_iload_n (npc := 66) rfl dX8_lay_65 rfl ?_
        refine aw_iald (npc := 67) (x := (a 86) sn) (j := sn) dX8_lay_66 rfl F.2.2.2.2.2.2.2.2.2.2.2.2.2.2.2.2.2.1 (am_ix_nI (by omega)) (tl_at (by omega)) ?_
        refine aw_istore (npc := 69) (L' := [some (.ref 69), some (.int (nI sn)), some (.int 3), some (.int k), some (.int ((a 86) sn)), none]) dX8_lay_67 rfl (by decide) rfl rfl ?_
        refine aw_aload_n (npc := 70) rfl dX8_lay_69 rfl ?_
        refine aw_get (npc := 73) dX8_lay_70 rfl kf_X8_64 F.1 rfl ?_
        refine aw_iload_n (npc := 74) rfl dX8_lay_73 rfl ?_
        refine aw_iload_n (npc := 75) rfl dX8_lay_74 rfl ?_
        refine aw_iast (npc := 76) (j := sn) dX8_lay_75 rfl F.2.2.2.2.2.2.2.2.2.2.2.2.2.2.2.2.2.1 (am_ix_nI (by omega)) (by rw [tl_len]; omega) rfl ?_
        have F17 := mr_86 (j := sn) (v := 3) F
        refine aw_aload_n (npc := 77) rfl dX8_lay_76 rfl ?_
        refine aw_get (npc := 80) dX8_lay_77 rfl kf_X8_67 F17.1 rfl ?_
        refine aw_iload_n (npc := 81) rfl dX8_lay_80 rfl ?_
        refine aw_iload_n (npc := 82) rfl dX8_lay_81 rfl ?_
        refine aw_iconst (npc := 83) (v := 1) (by decide) dX8_lay_82 rfl ?_
        refine aw_icmp_ne (npc := 86) (tgt := 95) dX8_lay_83 rfl (by decide) (fun _ => ?_) (fun hc => absurd hc (by decide))
        refine aw_iload_n (npc := 96) rfl dX8_lay_95 rfl ?_
        refine aw_iconst (npc := 97) (v := 2) (by decide) dX8_lay_96 rfl ?_
        refine aw_icmp_ne (npc := 100) (tgt := 109) dX8_lay_97 rfl (by decide) (fun _ => ?_) (fun hc => absurd hc (by decide))
        refine aw_iload_n (npc := 110) rfl dX8_lay_109 rfl ?_
        refine aw_iast (npc := 111) (j := sn) dX8_lay_110 rfl F17.2.2.2.2.2.2.2.2.2.2.2.2.2.2.2.2.2.2.1 (am_ix_nI (by omega)) (by rw [tl_len]; omega) rfl ?_
        have F18 := mr_87 (j := sn) (v := k) F17
        refine aw_aload_n (npc := 112) rfl dX8_lay_111 rfl ?_
        refine aw_get (npc := 115) dX8_lay_112 rfl kf_X8_70 F18.1 rfl ?_
        refine aw_iload_n (npc := 116) rfl dX8_lay_115 rfl ?_
        refine aw_iload_n (npc := 117) rfl dX8_lay_116 rfl ?_
        refine aw_iconst (npc := 118) (v := 1) (by decide) dX8_lay_117 rfl ?_
        refine aw_icmp_ne (npc := 121) (tgt := 129) dX8_lay_118 rfl (by decide) (fun _ => ?_) (fun hc => absurd hc (by decide))
        refine aw_iconst (npc := 130) (v := 0) (by decide) dX8_lay_129 rfl ?_
        refine aw_iast (npc := 131) (j := sn) dX8_lay_130 rfl F18.2.2.2.2.2.2.2.2.2.2.2.2.2.2.2.2.2.2.2.1 (am_ix_nI (by omega)) (by rw [tl_len]; omega) rfl ?_
        have F19 := mr_88 (j := sn) (v := 0) F18
        refine aw_iconst (npc := 132) (v := 0) (by decide) dX8_lay_131 rfl ?_
        refine aw_istore (npc := 134) (L' := [some (.ref 69), some (.int (nI sn)), some (.int 3), some (.int k), some (.int ((a 86) sn)), some (.int 0)]) dX8_lay_132 rfl (by decide) rfl rfl ?_
        refine aw_iload (npc := 136) rfl dX8_lay_134 rfl ?_
        refine aw_bipush (npc := 138) (v := 24) (by decide) dX8_lay_136 rfl ?_
        refine aw_icmp_ge (npc := 141) (tgt := 176) dX8_lay_138 rfl (by decide) (fun hc => absurd hc (by decide)) (fun _ => ?_)
        refine aw_iload_n (npc := 142) rfl dX8_lay_141 rfl ?_
        refine aw_iconst (npc := 143) (v := 2) (by decide) dX8_lay_142 rfl ?_
        refine aw_icmp_ne (npc := 146) (tgt := 176) dX8_lay_143 rfl (by decide) (fun _ => ?_) (fun hc => absurd hc (by decide))
        refine aw_iload (npc := 178) rfl dX8_lay_176 rfl ?_
        refine aw_iret rfl dX8_lay_178 ?_
        exact hq _ _ _ (by simp [laB, laK, laV, laT, laH, laU, cI, hw1, hw2, fsn]) (by show upd (a 86) sn 3 = _; simp [laB, laK, laV, laT, laH, laU, cI, hw1, hw2, fsn]) (by show laM _ _ _ _ _ (a 84) (a 87) (upd (a 87) sn k); simp [laB, laK, laV, laT, laH, laU, laM, cI, hw1, hw2, fsn]) (by show laM2 _ _ _ _ _ (a 88) (upd (a 88) sn 0); simp [laB, laK, laV, laT, laH, laU, laM2, cI, hw1, hw2, fsn]) (by show a 89 = _; simp [laB, laK, laV, laT, laH, laU, cI, hw1, hw2, fsn]) (fun c h1 h2 h3 h4 => (aup_n h3).trans ((aup_n h2).trans (aup_n h1))) F19 (am_fpU (show ¬ (88 < 69 ∨ 92 ≤ 88) by omega) (am_fpU (show ¬ (87 < 69 ∨ 92 ≤ 87) by omega) (am_fpU (show ¬ (86 < 69 ∨ 92 ≤ 86) by omega) am_fp0)))
    · refine aw_re (S' := [.int 0]) rfl ?_
      refine aw_if_eq (npc := 16) (tgt := 41) dX8_lay_13 rfl (by decide) (fun _ => ?_) (fun hc => absurd (by decide) hc)
      refine aw_ldc (npc := 43) kc_X8_91 dX8_lay_41 rfl ?_
      refine aw_iret rfl dX8_lay_43 ?_
      exact hq _ _ _ (by simp [laB, laK, laV, laT, laH, laU, cI, hw1, hw2, fsn, nwi_1 hw2 (k := 0) ⟨by decide, by decide⟩, nwi_1 hw2 (k := 1) ⟨by decide, by decide⟩, nwi_1 hw2 (k := 2) ⟨by decide, by decide⟩, nwi_1 hw2 (k := 3) ⟨by decide, by decide⟩]) (by simp [laB, laK, laV, laT, laH, laU, cI, hw1, hw2, fsn, nwi_1 hw2 (k := 0) ⟨by decide, by decide⟩, nwi_1 hw2 (k := 1) ⟨by decide, by decide⟩, nwi_1 hw2 (k := 2) ⟨by decide, by decide⟩, nwi_1 hw2 (k := 3) ⟨by decide, by decide⟩]) (by simp [laB, laK, laV, laT, laH, laU, laM, cI, hw1, hw2, fsn, nwi_1 hw2 (k := 0) ⟨by decide, by decide⟩, nwi_1 hw2 (k := 1) ⟨by decide, by decide⟩, nwi_1 hw2 (k := 2) ⟨by decide, by decide⟩, nwi_1 hw2 (k := 3) ⟨by decide, by decide⟩]) (by simp [laB, laK, laV, laT, laH, laU, laM2, cI, hw1, hw2, fsn, nwi_1 hw2 (k := 0) ⟨by decide, by decide⟩, nwi_1 hw2 (k := 1) ⟨by decide, by decide⟩, nwi_1 hw2 (k := 2) ⟨by decide, by decide⟩, nwi_1 hw2 (k := 3) ⟨by decide, by decide⟩]) (by simp [laB, laK, laV, laT, laH, laU, cI, hw1, hw2, fsn, nwi_1 hw2 (k := 0) ⟨by decide, by decide⟩, nwi_1 hw2 (k := 1) ⟨by decide, by decide⟩, nwi_1 hw2 (k := 2) ⟨by decide, by decide⟩, nwi_1 hw2 (k := 3) ⟨by decide, by decide⟩]) (fun _ _ _ _ _ => rfl) F am_fp0
  · refine aw_re (S' := [.int 0]) rfl ?_
    refine aw_if_eq (npc := 7) (tgt := 41) dX8_lay_4 rfl (by decide) (fun _ => ?_) (fun hc => absurd (by decide) hc)
    refine aw_ldc (npc := 43) kc_X8_91 dX8_lay_41 rfl ?_
    refine aw_iret rfl dX8_lay_43 ?_
    exact hq _ _ _ (by simp [laB, laK, laV, laT, laH, laU, cI, hw1]) (by simp [laB, laK, laV, laT, laH, laU, cI, hw1]) (by simp [laB, laK, laV, laT, laH, laU, laM, cI, hw1]) (by simp [laB, laK, laV, laT, laH, laU, laM2, cI, hw1]) (by simp [laB, laK, laV, laT, laH, laU, cI, hw1]) (fun _ _ _ _ _ => rfl) F am_fp0
