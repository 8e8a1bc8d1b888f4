theorem bmT {z : Nat} (h : z < 2 ^ 24) : ((z : Int)).bmod (2 ^ 32) = z := by
  apply Int.bmod_eq_of_le
  · show -((4294967296 : Int) / 2) ≤ (z : Int)
    omega
  · show (z : Int) < ((4294967296 : Int) + 1) / 2
    omega
theorem remT (x : Int32) (q : Nat) (k : Int32) (m : Nat) (hx : x.toInt = q) (hq : q < 2 ^ 24) (hk : k.toInt = m) : (x - x / k * k).toInt = ((q % m : Nat) : Int) := by
  have h1 : (x / k).toInt = ((q / m : Nat) : Int) := by
    rw [Int32.toInt_div, hx, hk]
    show (((q / m : Nat) : Int)).bmod (2 ^ 32) = _
    exact bmT (Nat.lt_of_le_of_lt (Nat.div_le_self q m) hq)
  have hd := Nat.div_add_mod q m
  have h2 : (x / k * k).toInt = ((q / m * m : Nat) : Int) := by
    rw [Int32.toInt_mul, h1, hk]
    show (((q / m * m : Nat) : Int)).bmod (2 ^ 32) = _
    exact bmT (Nat.lt_of_le_of_lt (Nat.div_mul_le_self q m) hq)
  rw [Int32.toInt_sub, h2, hx]
  have e : q = q / m * m + q % m := by rw [Nat.mul_comm]; exact hd.symm
  have e2 : (q : Int) - ((q / m * m : Nat) : Int) = ((q % m : Nat) : Int) := by omega
  rw [e2]
  exact bmT (Nat.lt_of_le_of_lt (Nat.mod_le q m) hq)
theorem drT (x : Int32) : ∃ q : Nat, q < 2 ^ 24 ∧ ((x.toUInt32 >>> (Int32.toUInt32 8 &&& Int32.toUInt32 31)).toInt32).toInt = q := by
  have e : Int32.toUInt32 8 &&& Int32.toUInt32 31 = 8 := by decide
  rw [e]
  have h1 : (x.toUInt32 >>> 8).toNat = x.toUInt32.toNat >>> 8 := by
    rw [UInt32.toNat_shiftRight]; rfl
  refine ⟨x.toUInt32.toNat >>> 8, ?_, ?_⟩
  · rw [Nat.shiftRight_eq_div_pow]
    have := x.toUInt32.toNat_lt
    omega
  · have h2 : (x.toUInt32 >>> 8).toNat < 2 ^ 24 := by
      rw [h1, Nat.shiftRight_eq_div_pow]
      have := x.toUInt32.toNat_lt
      omega
    rw [← h1]
    generalize x.toUInt32 >>> 8 = y at h2
    show y.toInt32.toInt = _
    rw [UInt32.toInt32, Int32.toInt]
    show y.toBitVec.toInt = _
    rw [BitVec.toInt_eq_toNat_of_lt]
    · rfl
    · show 2 * y.toNat < 2 ^ 32
      omega
theorem wiT {x : Int32} {z m : Nat} {lo hi : Int32} (hx : x.toInt = z) (hl : lo.toInt = 0) (hh : hi.toInt = m) (h : z ≤ m) : wi x lo hi := by
  refine ⟨?_, ?_⟩
  · rw [Int32.lt_iff_toInt_lt, hx, hl]; omega
  · rw [Int32.lt_iff_toInt_lt, hx, hh]; omega
theorem rmT (N : Nat → Int32) (k hi : Int32) {m : Nat} (hk : k.toInt = m) (hm : 0 < m) (hh : hi.toInt = ((m - 1 : Nat) : Int)) : wi (remK (drawV N) k) 0 hi := by
  obtain ⟨q, hq, e⟩ := drT (drawZ N)
  refine wiT (remT _ q k m e hq hk) (by decide) hh ?_
  have := Nat.mod_lt q hm
  omega
theorem rg_dl : ∀ (m fr : Nat) (N : Nat → Int32) {c : Nat}, fr + m ≤ 8 → RG N fr c → RG (dlN m fr N) (fr + m) c := by
  intro m
  induction m with
  | zero => intro fr N c _ H; exact H
  | succ m ih =>
    intro fr N c h H
    have H1 : RG (dlS N fr) (fr + 1) c := rg_add (rg_0 (rg_0 (rg_0 H))) (by omega) (rmT _ 6 5 (m := 6) (by decide) (by decide) (by decide)) (rmT _ 2 1 (m := 2) (by decide) (by decide) (by decide)) (rmT _ 100 99 (m := 100) (by decide) (by decide) (by decide))
    have H2 := ih (fr + 1) (dlS N fr) (by omega) H1
    have e : fr + 1 + m = fr + (m + 1) := by omega
    rw [e] at H2
    exact H2
def kpt (N M : Nat → Int32) : Prop := M 7 = N 7 ∧ ∀ k, 62 ≤ k → M k = N k
theorem kpt0 {N : Nat → Int32} : kpt N N := ⟨rfl, fun _ _ => rfl⟩
theorem kpt_u {N M : Nat → Int32} {k : Nat} {v : Int32} (h7 : k ≠ 7) (h : k < 62) (H : kpt N M) : kpt N (upd M k v) := ⟨(pk_un (Ne.symm h7)).trans H.1, fun j hj => (pk_un (by omega)).trans (H.2 j hj)⟩
theorem kpt_t {N M K : Nat → Int32} (h1 : kpt N M) (h2 : kpt M K) : kpt N K := ⟨h2.1.trans h1.1, fun k hk => (h2.2 k hk).trans (h1.2 k hk)⟩
theorem kpt_tc {tb : TB} {tx : List Value} {lk N M : Nat → Int32} {c : Nat} (h : kpt N M) (H : TC tb tx lk N c) : TC tb tx lk M c := tc_keep h.1 h.2 H
theorem kpt_add {N M : Nat → Int32} {f : Nat} {k s p : Int32} (hf : f < 8) (H : kpt N M) : kpt N (addN M f k s p) := kpt_u (by omega) (by omega) (kpt_u (by omega) (by omega) (kpt_u (by omega) (by omega) (kpt_u (by omega) (by omega) (kpt_u (by omega) (by omega) (kpt_u (by omega) (by omega) H)))))
theorem kpt_fr {N : Nat → Int32} {fr : Nat} {k s p : Int32} : kpt N (frN N fr k s p) := by
  unfold frN
  by_cases q : wi k 0 5 ∧ wi s 0 1 ∧ wi p 0 99
  · rw [cI_t q]
    by_cases q1 : fr < 8
    · rw [cI_t q1]; exact kpt_add q1 kpt0
    · rw [cI_f q1]; exact kpt0
  · rw [cI_f q]; exact kpt0
theorem kpt_tu {N : Nat → Int32} {fr c : Nat} {f k : Int32} (H : RG N fr c) : kpt N (tuN N f k) := by
  unfold tuN
  by_cases q : wi f 0 (N 1 - 1) ∧ wi k 0 5
  · rw [cI_t q]
    have hf := fN_f H q.1
    exact kpt_u (by omega) (by omega) kpt0
  · rw [cI_f q]; exact kpt0
theorem kpt_se {N : Nat → Int32} {fr c : Nat} {f w v : Int32} (H : RG N fr c) : kpt N (seN N f w v) := by
  unfold seN
  by_cases q : wi f 0 (N 1 - 1)
  · rw [cI_t q]
    have hf := fN_f H q
    by_cases q1 : w = 1
    · rw [cI_t q1]
      by_cases q2 : wi v 0 1
      · rw [cI_t q2]; exact kpt_u (by omega) (by omega) kpt0
      · rw [cI_f q2]; exact kpt0
    · rw [cI_f q1]
      by_cases q3 : w = 2
      · rw [cI_t q3]
        by_cases q2 : wi v 0 99
        · rw [cI_t q2]; exact kpt_u (by omega) (by omega) kpt0
        · rw [cI_f q2]; exact kpt0
      · rw [cI_f q3]; exact kpt0
  · rw [cI_f q]; exact kpt0
theorem kpt_st {N : Nat → Int32} {t v : Int32} : kpt N (stN N t v) := by
  unfold stN
  by_cases q : wi t 0 3 ∧ wi v 0 9
  · rw [cI_t q]
    have hf := fN_b (H := 3) (by decide) (by decide) q.1
    exact kpt_u (by omega) (by omega) kpt0
  · rw [cI_f q]; exact kpt0
theorem kpt_ca {N : Nat → Int32} {s t v : Int32} : kpt N (caN N s t v) := by
  unfold caN
  by_cases q : wi s 0 1 ∧ wi t 0 3 ∧ wi v 0 9
  · rw [cI_t q]
    have hf := fN_b (H := 1) (by decide) (by decide) q.1
    have hg := fN_b (H := 3) (by decide) (by decide) q.2.1
    exact kpt_u (by omega) (by omega) kpt0
  · rw [cI_f q]; exact kpt0
theorem kpt_ho {N : Nat → Int32} {s v : Int32} : kpt N (hoN N s v) := by
  unfold hoN
  by_cases q : wi s 0 1 ∧ wi v 0 400
  · rw [cI_t q]
    have hf := fN_b (H := 1) (by decide) (by decide) q.1
    exact kpt_u (by omega) (by omega) kpt0
  · rw [cI_f q]; exact kpt0
theorem kpt_ru {N : Nat → Int32} {w v : Int32} : kpt N (ruN N w v) := by
  unfold ruN
  by_cases q : w = 0 ∧ wi v 0 99
  · rw [cI_t q]; exact kpt_u (by omega) (by omega) kpt0
  · rw [cI_f q]
    by_cases q1 : w = 1 ∧ wi v 1 99
    · rw [cI_t q1]; exact kpt_u (by omega) (by omega) kpt0
    · rw [cI_f q1]
      by_cases q2 : w = 2 ∧ wi v 0 100
      · rw [cI_t q2]; exact kpt_u (by omega) (by omega) kpt0
      · rw [cI_f q2]; exact kpt0
theorem kpt_dl {N : Nat → Int32} : ∀ (m f : Nat) (M : Nat → Int32), f + m ≤ 8 → kpt N M → kpt N (dlN m f M) := by
  intro m
  induction m with
  | zero => intro f M _ H; exact H
  | succ m ih => intro f M h H; exact ih (f + 1) (dlS M f) (by omega) (kpt_add (by omega) (kpt_u (by omega) (by omega) (kpt_u (by omega) (by omega) (kpt_u (by omega) (by omega) H))))
theorem po_all {z s : Nat} {cl N0 : Nat → Int32} {fr c : Nat} : ∀ (m t : Nat) (p : (Nat → Int32) × Int32), t + m ≤ 4 → RG p.1 fr c → kpt N0 p.1 → RG (poM z cl s m t p).1 fr c ∧ kpt N0 (poM z cl s m t p).1 := by
  intro m
  induction m with
  | zero => intro t p _ H K; exact ⟨H, K⟩
  | succ m ih =>
    intro t p h H K
    have H1 : RG (poS z cl s t p).1 fr c ∧ kpt N0 (poS z cl s t p).1 := by
      unfold poS
      by_cases q1 : t < z
      · rw [if_pos q1]
        by_cases q2 : cl (24 * s + t) = (-1000000005)
        · rw [if_pos q2]; exact ⟨H, K⟩
        · rw [if_neg q2]
          by_cases q3 : hw (cl (24 * s + t)) 9 = p.1 (8 + t)
          · rw [if_pos q3]; exact ⟨H, K⟩
          · rw [if_neg q3]
            exact ⟨rg_u H (by omega) (by omega) (fun _ _ e => by omega) (fun _ _ e => by omega) (fun _ _ e => by omega) (fun _ _ _ => hw9 _) (fun _ _ _ => hw9 _) (fun _ _ e => by omega) (fun e => by omega) (fun e => by omega) (fun e => by omega) (fun e => by omega), kpt_u (by omega) (by omega) K⟩
      · rw [if_neg q1]; exact ⟨H, K⟩
    exact ih (t + 1) (poS z cl s t p) (by omega) H1.1 H1.2
theorem pa_all {sr sz cl N : Nat → Int32} {fr c : Nat} {s : Int32} (H : RG N fr c) : RG (paN sr sz cl N s) fr c ∧ kpt N (paN sr sz cl N s) := by
  unfold paN
  by_cases q : wi s 0 3
  · rw [cI_t q]
    by_cases q1 : sr (fN s) = -1
    · rw [cI_t q1]; exact ⟨H, kpt0⟩
    · rw [cI_f q1]; exact po_all 4 0 (N, 0) (by omega) H kpt0
  · rw [cI_f q]; exact ⟨H, kpt0⟩
theorem go_at2 {c fr m : Nat} {wo : Int32} {N : Nat → Int32} : goF c fr wo m N 2 = N 2 + nI m := by
  have e : upd N 2 (N 2) = N := funext (fun i => by
    by_cases q : i = 2
    · subst q; exact pk_us
    · exact pk_un q)
  have z := goF_2 (c := c) (fr := fr) (wo := wo) m N (N 2)
  rw [e] at z
  rw [z]; exact pk_us
theorem rg_go {c fr m pp : Nat} {wo : Int32} {N : Nat → Int32} (H : RG N fr c) (h2 : N 2 = nI pp) (hp : pp + m ≤ 9999) : RG (goF c fr wo m N) fr c := by
  have K := rk_go (c := c) (fr := fr) (wo := wo) m N (rg_rk H)
  obtain ⟨g1, g2, g3, g4, g5, g6, g8, g9, g10, g11, g12, g13⟩ := H
  obtain ⟨a1, a2, a3, a4, a5, a6, a7, a8⟩ := K
  have U : ∀ k, (k = 4 ∨ k = 5 ∨ k = 20 ∨ k = 21) → goF c fr wo m N k = N k := fun k hk => goF_k g2 (by omega) (by omega) (by omega) (by omega) (by omega) (by omega) m N
  refine ⟨a1, a2, a3, a4, a5, a6, a7, fun s hs => ?_, ?_, a8, ?_, ?_⟩
  · rw [U (20 + s) (by omega)]; exact g9 s hs
  · rw [go_at2, h2]
    have e : nI pp + nI m = nI (pp + m) := by rw [nI_add]
    rw [e]
    exact wiT (m := 9999) (nI_toInt (by omega)) (by decide) (by decide) (by omega)
  · rw [U 4 (by omega)]; exact g12
  · rw [U 5 (by omega)]; exact g13
theorem kpt_go {c fr m : Nat} {wo : Int32} {N : Nat → Int32} (hfr : fr ≤ 8) : kpt N (goF c fr wo m N) := ⟨goF_k hfr (by omega) (by omega) (by omega) (by omega) (by omega) (by omega) m N, fun k hk => goF_62 hfr hk⟩
