def dz_B (c : ByteArray) (p b : Nat) : Prop := ∃ h : p < c.size, (c[p]'h).toNat = b
def dz_l (c : ByteArray) : List Nat := c.data.toList.map UInt8.toNat
theorem dz_of {c : ByteArray} {l : List Nat} {p b : Nat} (e : dz_l c = l) (h : l[p]? = some b) : dz_B c p b := by
  subst e
  unfold dz_l at h
  rw [List.getElem?_map] at h
  obtain ⟨x, hx, rfl⟩ := Option.map_eq_some_iff.mp h
  obtain ⟨hp, ex⟩ := List.getElem?_eq_some_iff.mp hx
  have hs : p < c.size := by
    have z : c.data.toList.length = c.size := Array.length_toList
    omega
  refine ⟨hs, ?_⟩
  rw [← ex]
  rfl
theorem dz_u1 {c : ByteArray} {p b : Nat} (h : dz_B c p b) : Jvm.ClassFile.Reader.runAt (Jvm.ClassFile.Reader.u1 : Jvm.ClassFile.Decoder Nat) c p = .ok (b, p + 1) := by
  obtain ⟨hp, e⟩ := h
  subst e
  show (dite (p < c.size) (fun h => (do set (p + 1); pure (c[p]'h).toNat : Jvm.ClassFile.Decoder Nat)) (fun _ => throw (Jvm.ClassFile.HasTruncated.truncated p))) c p = _
  rw [dif_pos hp]
  rfl
theorem dz_bind {α β : Type} {c : ByteArray} {p q : Nat} {r : Jvm.ClassFile.Decoder α} {K : α → Jvm.ClassFile.Decoder β} {x : α} (h : Jvm.ClassFile.Reader.runAt r c p = .ok (x, q)) : Jvm.ClassFile.Reader.runAt (r >>= K) c p = Jvm.ClassFile.Reader.runAt (K x) c q := by
  unfold Jvm.ClassFile.Reader.runAt at h ⊢
  rw [ReaderT.run_bind, StateT.run_bind, h]
  rfl
theorem dz_map {α β : Type} {c : ByteArray} {p q : Nat} {r : Jvm.ClassFile.Decoder α} {g : α → β} {x : α} (h : Jvm.ClassFile.Reader.runAt r c p = .ok (x, q)) : Jvm.ClassFile.Reader.runAt (g <$> r) c p = .ok (g x, q) := by
  unfold Jvm.ClassFile.Reader.runAt at h ⊢
  rw [ReaderT.run_map, StateT.run_map, h]
  rfl
theorem dz_u2 {c : ByteArray} {p b b2 : Nat} (h : dz_B c p b) (h2 : dz_B c (p + 1) b2) : Jvm.ClassFile.Reader.runAt (Jvm.ClassFile.Reader.u2 : Jvm.ClassFile.Decoder Nat) c p = .ok (b * 256 + b2, p + 2) := by
  unfold Jvm.ClassFile.Reader.u2
  rw [dz_bind (dz_u1 h), dz_bind (dz_u1 h2)]
  rfl
theorem dz_s1 {c : ByteArray} {p b : Nat} (h : dz_B c p b) : Jvm.ClassFile.Reader.runAt (Jvm.ClassFile.Reader.s1 : Jvm.ClassFile.Decoder Int) c p = .ok (Jvm.ClassFile.Reader.signed 8 b, p + 1) := dz_map (dz_u1 h)
theorem dz_s2 {c : ByteArray} {p b b2 : Nat} (h : dz_B c p b) (h2 : dz_B c (p + 1) b2) : Jvm.ClassFile.Reader.runAt (Jvm.ClassFile.Reader.s2 : Jvm.ClassFile.Decoder Int) c p = .ok (Jvm.ClassFile.Reader.signed 16 (b * 256 + b2), p + 2) := dz_map (dz_u2 h h2)
theorem dz_d {c : ByteArray} {pc q b : Nat} {K : Nat → Jvm.ClassFile.Decoder Instr} {I : Instr} (e : Jvm.ClassFile.Decoder.instr pc = Jvm.ClassFile.Reader.u1 >>= K) (h : dz_B c pc b) (hk : Jvm.ClassFile.Reader.runAt (K b) c (pc + 1) = .ok (I, q)) : decode c pc = .ok (I, q - pc) := by
  have z : Jvm.ClassFile.Reader.runAt (Jvm.ClassFile.Decoder.instr pc) c pc = .ok (I, q) := by
    rw [e, dz_bind (dz_u1 h)]; exact hk
  unfold decode
  rw [z]
  rfl
theorem dz_sub {c : ByteArray} {pc k : Nat} {I : Instr} (h : decode c pc = .ok (I, pc + k - pc)) : decode c pc = .ok (I, k) := by
  rw [Nat.add_sub_cancel_left] at h; exact h
def dz_c1 (l : List Nat) (p b : Nat) : Bool := match l.drop p with
  | a :: _ => Nat.beq a b
  | _ => false
def dz_c2 (l : List Nat) (p b v : Nat) : Bool := match l.drop p with
  | a :: x :: _ => Nat.beq a b && Nat.beq x v
  | _ => false
def dz_c2s (l : List Nat) (p b : Nat) (v : Int) : Bool := match l.drop p with
  | a :: x :: _ => Nat.beq a b && decide (Jvm.ClassFile.Reader.signed 8 x = v)
  | _ => false
def dz_c3 (l : List Nat) (p b v : Nat) : Bool := match l.drop p with
  | a :: x :: y :: _ => Nat.beq a b && Nat.beq (x * 256 + y) v
  | _ => false
def dz_c3s (l : List Nat) (p b : Nat) (v : Int) : Bool := match l.drop p with
  | a :: x :: y :: _ => Nat.beq a b && decide (Jvm.ClassFile.Reader.signed 16 (x * 256 + y) = v)
  | _ => false
def dz_c3i (l : List Nat) (p b v : Nat) (w : Int) : Bool := match l.drop p with
  | a :: x :: y :: _ => Nat.beq a b && (Nat.beq x v && decide (Jvm.ClassFile.Reader.signed 8 y = w))
  | _ => false
def dz_T : List Bool → Prop
  | [] => True
  | b :: R => b = true ∧ dz_T R
def dz_all : List Bool → Bool
  | [] => true
  | b :: R => b && dz_all R
theorem dz_cj : ∀ (L : List Bool), dz_all L = true → dz_T L
  | [], _ => trivial
  | b :: R, h => by
    have h2 : (b && dz_all R) = true := h
    rw [Bool.and_eq_true] at h2
    exact ⟨h2.1, dz_cj R h2.2⟩
theorem dz_at {l : List Nat} {p k : Nat} {a : Nat} {R : List Nat} (h : l.drop p = R) (hk : R[k]? = some a) : l[p + k]? = some a := by
  rw [← h, List.getElem?_drop] at hk; exact hk
theorem dz_on {c : ByteArray} {l R : List Nat} {P i p k a : Nat} (eb : (dz_l c).drop P = l) (hp : P + i = p) (hd : l.drop i = R) (hk : R[k]? = some a) : dz_B c (p + k) a := by
  subst hp
  have e : (dz_l c).drop (P + i) = R := by rw [← List.drop_drop, eb]; exact hd
  exact dz_of rfl (dz_at e hk)
theorem dz_dr {l L R : List Nat} {P n P2 : Nat} (e : l.drop P = L) (h : L.drop n = R) (hp : P + n = P2) : l.drop P2 = R := by
  rw [← hp, ← List.drop_drop, e]; exact h
theorem dz_0 {c : ByteArray} {l : List Nat} {P i p b : Nat} {K : Nat → Jvm.ClassFile.Decoder Instr} {I : Instr} (e : Jvm.ClassFile.Decoder.instr p = Jvm.ClassFile.Reader.u1 >>= K) (hk : K b = Pure.pure I) (eb : (dz_l c).drop P = l) (hp : P + i = p) (h : dz_c1 l i b = true) : decode c p = .ok (I, 1) := by
  unfold dz_c1 at h
  split at h
  · rename_i a R hd
    have hb : a = b := Nat.eq_of_beq_eq_true h
    subst hb
    exact dz_sub (dz_d e (dz_on eb hp hd (k := 0) rfl) (by rw [hk]; rfl))
  · exact absurd h (by decide)
theorem dz_1 {c : ByteArray} {l : List Nat} {P i p b v : Nat} {K : Nat → Jvm.ClassFile.Decoder Instr} {f : Nat → Instr} (e : Jvm.ClassFile.Decoder.instr p = Jvm.ClassFile.Reader.u1 >>= K) (hk : K b = (Jvm.ClassFile.Reader.u1 >>= fun x => Pure.pure (f x))) (eb : (dz_l c).drop P = l) (hp : P + i = p) (h : dz_c2 l i b v = true) : decode c p = .ok (f v, 2) := by
  unfold dz_c2 at h
  split at h
  · rename_i a x R hd
    rw [Bool.and_eq_true] at h
    have hb : a = b := Nat.eq_of_beq_eq_true h.1
    have hx : x = v := Nat.eq_of_beq_eq_true h.2
    subst hb hx
    exact dz_sub (dz_d e (dz_on eb hp hd (k := 0) rfl) (by rw [hk, dz_bind (dz_u1 (dz_on eb hp hd (k := 1) rfl))]; rfl))
  · exact absurd h (by decide)
theorem dz_1s {c : ByteArray} {l : List Nat} {P i p b : Nat} {v : Int} {K : Nat → Jvm.ClassFile.Decoder Instr} {f : Int → Instr} (e : Jvm.ClassFile.Decoder.instr p = Jvm.ClassFile.Reader.u1 >>= K) (hk : K b = (Jvm.ClassFile.Reader.s1 >>= fun x => Pure.pure (f x))) (eb : (dz_l c).drop P = l) (hp : P + i = p) (h : dz_c2s l i b v = true) : decode c p = .ok (f v, 2) := by
  unfold dz_c2s at h
  split at h
  · rename_i a x R hd
    rw [Bool.and_eq_true] at h
    have hb : a = b := Nat.eq_of_beq_eq_true h.1
    have hx := of_decide_eq_true h.2
    subst hb hx
    exact dz_sub (dz_d e (dz_on eb hp hd (k := 0) rfl) (by rw [hk, dz_bind (dz_s1 (dz_on eb hp hd (k := 1) rfl))]; rfl))
  · exact absurd h (by decide)
theorem dz_2 {c : ByteArray} {l : List Nat} {P i p b v : Nat} {K : Nat → Jvm.ClassFile.Decoder Instr} {f : Nat → Instr} (e : Jvm.ClassFile.Decoder.instr p = Jvm.ClassFile.Reader.u1 >>= K) (hk : K b = (Jvm.ClassFile.Reader.u2 >>= fun x => Pure.pure (f x))) (eb : (dz_l c).drop P = l) (hp : P + i = p) (h : dz_c3 l i b v = true) : decode c p = .ok (f v, 3) := by
  unfold dz_c3 at h
  split at h
  · rename_i a x y R hd
    rw [Bool.and_eq_true] at h
    have hb : a = b := Nat.eq_of_beq_eq_true h.1
    have hx : x * 256 + y = v := Nat.eq_of_beq_eq_true h.2
    subst hb hx
    exact dz_sub (dz_d e (dz_on eb hp hd (k := 0) rfl) (by rw [hk, dz_bind (dz_u2 (dz_on eb hp hd (k := 1) rfl) (dz_on eb hp hd (k := 2) rfl))]; rfl))
  · exact absurd h (by decide)
theorem dz_2s {c : ByteArray} {l : List Nat} {P i p b : Nat} {v : Int} {K : Nat → Jvm.ClassFile.Decoder Instr} {f : Int → Instr} (e : Jvm.ClassFile.Decoder.instr p = Jvm.ClassFile.Reader.u1 >>= K) (hk : K b = (Jvm.ClassFile.Reader.s2 >>= fun x => Pure.pure (f x))) (eb : (dz_l c).drop P = l) (hp : P + i = p) (h : dz_c3s l i b v = true) : decode c p = .ok (f v, 3) := by
  unfold dz_c3s at h
  split at h
  · rename_i a x y R hd
    rw [Bool.and_eq_true] at h
    have hb : a = b := Nat.eq_of_beq_eq_true h.1
    have hx := of_decide_eq_true h.2
    subst hb hx
    exact dz_sub (dz_d e (dz_on eb hp hd (k := 0) rfl) (by rw [hk, dz_bind (dz_s2 (dz_on eb hp hd (k := 1) rfl) (dz_on eb hp hd (k := 2) rfl))]; rfl))
  · exact absurd h (by decide)
theorem dz_2i {c : ByteArray} {l : List Nat} {P i p b v : Nat} {w : Int} {K : Nat → Jvm.ClassFile.Decoder Instr} {f : Nat → Int → Instr} (e : Jvm.ClassFile.Decoder.instr p = Jvm.ClassFile.Reader.u1 >>= K) (hk : K b = (Jvm.ClassFile.Reader.u1 >>= fun x => Jvm.ClassFile.Reader.s1 >>= fun y => Pure.pure (f x y))) (eb : (dz_l c).drop P = l) (hp : P + i = p) (h : dz_c3i l i b v w = true) : decode c p = .ok (f v w, 3) := by
  unfold dz_c3i at h
  split at h
  · rename_i a x y R hd
    rw [Bool.and_eq_true, Bool.and_eq_true] at h
    have hb : a = b := Nat.eq_of_beq_eq_true h.1
    have hx : x = v := Nat.eq_of_beq_eq_true h.2.1
    have hy := of_decide_eq_true h.2.2
    subst hb hx hy
    exact dz_sub (dz_d e (dz_on eb hp hd (k := 0) rfl) (by rw [hk, dz_bind (dz_u1 (dz_on eb hp hd (k := 1) rfl)), dz_bind (dz_s1 (dz_on eb hp hd (k := 2) rfl))]; rfl))
  · exact absurd h (by decide)
set_option maxRecDepth 100000 in
theorem op_1 {c : ByteArray} {l : List Nat} {P i p : Nat} (e : (dz_l c).drop P = l) (h : dz_c1 l i 1 = true) (hp : P + i = p) : decode c p = .ok (.aconst_null, 1) := dz_0 rfl rfl e hp h
set_option maxRecDepth 100000 in
theorem op_2 {c : ByteArray} {l : List Nat} {P i p : Nat} (e : (dz_l c).drop P = l) (h : dz_c1 l i 2 = true) (hp : P + i = p) : decode c p = .ok (.iconst (-1), 1) := dz_0 rfl rfl e hp h
set_option maxRecDepth 100000 in
theorem op_3 {c : ByteArray} {l : List Nat} {P i p : Nat} (e : (dz_l c).drop P = l) (h : dz_c1 l i 3 = true) (hp : P + i = p) : decode c p = .ok (.iconst 0, 1) := dz_0 rfl rfl e hp h
set_option maxRecDepth 100000 in
theorem op_4 {c : ByteArray} {l : List Nat} {P i p : Nat} (e : (dz_l c).drop P = l) (h : dz_c1 l i 4 = true) (hp : P + i = p) : decode c p = .ok (.iconst 1, 1) := dz_0 rfl rfl e hp h
set_option maxRecDepth 100000 in
theorem op_5 {c : ByteArray} {l : List Nat} {P i p : Nat} (e : (dz_l c).drop P = l) (h : dz_c1 l i 5 = true) (hp : P + i = p) : decode c p = .ok (.iconst 2, 1) := dz_0 rfl rfl e hp h
set_option maxRecDepth 100000 in
theorem op_6 {c : ByteArray} {l : List Nat} {P i p : Nat} (e : (dz_l c).drop P = l) (h : dz_c1 l i 6 = true) (hp : P + i = p) : decode c p = .ok (.iconst 3, 1) := dz_0 rfl rfl e hp h
set_option maxRecDepth 100000 in
theorem op_7 {c : ByteArray} {l : List Nat} {P i p : Nat} (e : (dz_l c).drop P = l) (h : dz_c1 l i 7 = true) (hp : P + i = p) : decode c p = .ok (.iconst 4, 1) := dz_0 rfl rfl e hp h
set_option maxRecDepth 100000 in
theorem op_8 {c : ByteArray} {l : List Nat} {P i p : Nat} (e : (dz_l c).drop P = l) (h : dz_c1 l i 8 = true) (hp : P + i = p) : decode c p = .ok (.iconst 5, 1) := dz_0 rfl rfl e hp h
set_option maxRecDepth 100000 in
theorem op_9 {c : ByteArray} {l : List Nat} {P i p : Nat} (e : (dz_l c).drop P = l) (h : dz_c1 l i 9 = true) (hp : P + i = p) : decode c p = .ok (.lconst 0, 1) := dz_0 rfl rfl e hp h
set_option maxRecDepth 100000 in
theorem op_16 {c : ByteArray} {l : List Nat} {P i p : Nat} {v : Int} (e : (dz_l c).drop P = l) (h : dz_c2s l i 16 v = true) (hp : P + i = p) : decode c p = .ok (.bipush v, 2) := dz_1s (f := fun v => .bipush v) rfl rfl e hp h
set_option maxRecDepth 100000 in
theorem op_17 {c : ByteArray} {l : List Nat} {P i p : Nat} {v : Int} (e : (dz_l c).drop P = l) (h : dz_c3s l i 17 v = true) (hp : P + i = p) : decode c p = .ok (.sipush v, 3) := dz_2s (f := fun v => .sipush v) rfl rfl e hp h
set_option maxRecDepth 100000 in
theorem op_18 {c : ByteArray} {l : List Nat} {P i p : Nat} {v : Nat} (e : (dz_l c).drop P = l) (h : dz_c2 l i 18 v = true) (hp : P + i = p) : decode c p = .ok (.ldc v, 2) := dz_1 (f := fun v => .ldc v) rfl rfl e hp h
set_option maxRecDepth 100000 in
theorem op_19 {c : ByteArray} {l : List Nat} {P i p : Nat} {v : Nat} (e : (dz_l c).drop P = l) (h : dz_c3 l i 19 v = true) (hp : P + i = p) : decode c p = .ok (.ldc_w v, 3) := dz_2 (f := fun v => .ldc_w v) rfl rfl e hp h
set_option maxRecDepth 100000 in
theorem op_21 {c : ByteArray} {l : List Nat} {P i p : Nat} {v : Nat} (e : (dz_l c).drop P = l) (h : dz_c2 l i 21 v = true) (hp : P + i = p) : decode c p = .ok (.iload v, 2) := dz_1 (f := fun v => .iload v) rfl rfl e hp h
set_option maxRecDepth 100000 in
theorem op_22 {c : ByteArray} {l : List Nat} {P i p : Nat} {v : Nat} (e : (dz_l c).drop P = l) (h : dz_c2 l i 22 v = true) (hp : P + i = p) : decode c p = .ok (.lload v, 2) := dz_1 (f := fun v => .lload v) rfl rfl e hp h
set_option maxRecDepth 100000 in
theorem op_25 {c : ByteArray} {l : List Nat} {P i p : Nat} {v : Nat} (e : (dz_l c).drop P = l) (h : dz_c2 l i 25 v = true) (hp : P + i = p) : decode c p = .ok (.aload v, 2) := dz_1 (f := fun v => .aload v) rfl rfl e hp h
set_option maxRecDepth 100000 in
theorem op_26 {c : ByteArray} {l : List Nat} {P i p : Nat} (e : (dz_l c).drop P = l) (h : dz_c1 l i 26 = true) (hp : P + i = p) : decode c p = .ok (.iload_n 0, 1) := dz_0 rfl rfl e hp h
set_option maxRecDepth 100000 in
theorem op_27 {c : ByteArray} {l : List Nat} {P i p : Nat} (e : (dz_l c).drop P = l) (h : dz_c1 l i 27 = true) (hp : P + i = p) : decode c p = .ok (.iload_n 1, 1) := dz_0 rfl rfl e hp h
set_option maxRecDepth 100000 in
theorem op_28 {c : ByteArray} {l : List Nat} {P i p : Nat} (e : (dz_l c).drop P = l) (h : dz_c1 l i 28 = true) (hp : P + i = p) : decode c p = .ok (.iload_n 2, 1) := dz_0 rfl rfl e hp h
set_option maxRecDepth 100000 in
theorem op_29 {c : ByteArray} {l : List Nat} {P i p : Nat} (e : (dz_l c).drop P = l) (h : dz_c1 l i 29 = true) (hp : P + i = p) : decode c p = .ok (.iload_n 3, 1) := dz_0 rfl rfl e hp h
set_option maxRecDepth 100000 in
theorem op_42 {c : ByteArray} {l : List Nat} {P i p : Nat} (e : (dz_l c).drop P = l) (h : dz_c1 l i 42 = true) (hp : P + i = p) : decode c p = .ok (.aload_n 0, 1) := dz_0 rfl rfl e hp h
set_option maxRecDepth 100000 in
theorem op_43 {c : ByteArray} {l : List Nat} {P i p : Nat} (e : (dz_l c).drop P = l) (h : dz_c1 l i 43 = true) (hp : P + i = p) : decode c p = .ok (.aload_n 1, 1) := dz_0 rfl rfl e hp h
set_option maxRecDepth 100000 in
theorem op_44 {c : ByteArray} {l : List Nat} {P i p : Nat} (e : (dz_l c).drop P = l) (h : dz_c1 l i 44 = true) (hp : P + i = p) : decode c p = .ok (.aload_n 2, 1) := dz_0 rfl rfl e hp h
set_option maxRecDepth 100000 in
theorem op_45 {c : ByteArray} {l : List Nat} {P i p : Nat} (e : (dz_l c).drop P = l) (h : dz_c1 l i 45 = true) (hp : P + i = p) : decode c p = .ok (.aload_n 3, 1) := dz_0 rfl rfl e hp h
set_option maxRecDepth 100000 in
theorem op_46 {c : ByteArray} {l : List Nat} {P i p : Nat} (e : (dz_l c).drop P = l) (h : dz_c1 l i 46 = true) (hp : P + i = p) : decode c p = .ok (.iaload, 1) := dz_0 rfl rfl e hp h
set_option maxRecDepth 100000 in
theorem op_50 {c : ByteArray} {l : List Nat} {P i p : Nat} (e : (dz_l c).drop P = l) (h : dz_c1 l i 50 = true) (hp : P + i = p) : decode c p = .ok (.aaload, 1) := dz_0 rfl rfl e hp h
set_option maxRecDepth 100000 in
theorem op_51 {c : ByteArray} {l : List Nat} {P i p : Nat} (e : (dz_l c).drop P = l) (h : dz_c1 l i 51 = true) (hp : P + i = p) : decode c p = .ok (.baload, 1) := dz_0 rfl rfl e hp h
set_option maxRecDepth 100000 in
theorem op_52 {c : ByteArray} {l : List Nat} {P i p : Nat} (e : (dz_l c).drop P = l) (h : dz_c1 l i 52 = true) (hp : P + i = p) : decode c p = .ok (.caload, 1) := dz_0 rfl rfl e hp h
set_option maxRecDepth 100000 in
theorem op_54 {c : ByteArray} {l : List Nat} {P i p : Nat} {v : Nat} (e : (dz_l c).drop P = l) (h : dz_c2 l i 54 v = true) (hp : P + i = p) : decode c p = .ok (.istore v, 2) := dz_1 (f := fun v => .istore v) rfl rfl e hp h
set_option maxRecDepth 100000 in
theorem op_55 {c : ByteArray} {l : List Nat} {P i p : Nat} {v : Nat} (e : (dz_l c).drop P = l) (h : dz_c2 l i 55 v = true) (hp : P + i = p) : decode c p = .ok (.lstore v, 2) := dz_1 (f := fun v => .lstore v) rfl rfl e hp h
set_option maxRecDepth 100000 in
theorem op_58 {c : ByteArray} {l : List Nat} {P i p : Nat} {v : Nat} (e : (dz_l c).drop P = l) (h : dz_c2 l i 58 v = true) (hp : P + i = p) : decode c p = .ok (.astore v, 2) := dz_1 (f := fun v => .astore v) rfl rfl e hp h
set_option maxRecDepth 100000 in
theorem op_60 {c : ByteArray} {l : List Nat} {P i p : Nat} (e : (dz_l c).drop P = l) (h : dz_c1 l i 60 = true) (hp : P + i = p) : decode c p = .ok (.istore_n 1, 1) := dz_0 rfl rfl e hp h
set_option maxRecDepth 100000 in
theorem op_61 {c : ByteArray} {l : List Nat} {P i p : Nat} (e : (dz_l c).drop P = l) (h : dz_c1 l i 61 = true) (hp : P + i = p) : decode c p = .ok (.istore_n 2, 1) := dz_0 rfl rfl e hp h
set_option maxRecDepth 100000 in
theorem op_62 {c : ByteArray} {l : List Nat} {P i p : Nat} (e : (dz_l c).drop P = l) (h : dz_c1 l i 62 = true) (hp : P + i = p) : decode c p = .ok (.istore_n 3, 1) := dz_0 rfl rfl e hp h
set_option maxRecDepth 100000 in
theorem op_76 {c : ByteArray} {l : List Nat} {P i p : Nat} (e : (dz_l c).drop P = l) (h : dz_c1 l i 76 = true) (hp : P + i = p) : decode c p = .ok (.astore_n 1, 1) := dz_0 rfl rfl e hp h
set_option maxRecDepth 100000 in
theorem op_77 {c : ByteArray} {l : List Nat} {P i p : Nat} (e : (dz_l c).drop P = l) (h : dz_c1 l i 77 = true) (hp : P + i = p) : decode c p = .ok (.astore_n 2, 1) := dz_0 rfl rfl e hp h
set_option maxRecDepth 100000 in
theorem op_78 {c : ByteArray} {l : List Nat} {P i p : Nat} (e : (dz_l c).drop P = l) (h : dz_c1 l i 78 = true) (hp : P + i = p) : decode c p = .ok (.astore_n 3, 1) := dz_0 rfl rfl e hp h
set_option maxRecDepth 100000 in
theorem op_79 {c : ByteArray} {l : List Nat} {P i p : Nat} (e : (dz_l c).drop P = l) (h : dz_c1 l i 79 = true) (hp : P + i = p) : decode c p = .ok (.iastore, 1) := dz_0 rfl rfl e hp h
set_option maxRecDepth 100000 in
theorem op_83 {c : ByteArray} {l : List Nat} {P i p : Nat} (e : (dz_l c).drop P = l) (h : dz_c1 l i 83 = true) (hp : P + i = p) : decode c p = .ok (.aastore, 1) := dz_0 rfl rfl e hp h
set_option maxRecDepth 100000 in
theorem op_84 {c : ByteArray} {l : List Nat} {P i p : Nat} (e : (dz_l c).drop P = l) (h : dz_c1 l i 84 = true) (hp : P + i = p) : decode c p = .ok (.bastore, 1) := dz_0 rfl rfl e hp h
set_option maxRecDepth 100000 in
theorem op_85 {c : ByteArray} {l : List Nat} {P i p : Nat} (e : (dz_l c).drop P = l) (h : dz_c1 l i 85 = true) (hp : P + i = p) : decode c p = .ok (.castore, 1) := dz_0 rfl rfl e hp h
set_option maxRecDepth 100000 in
theorem op_87 {c : ByteArray} {l : List Nat} {P i p : Nat} (e : (dz_l c).drop P = l) (h : dz_c1 l i 87 = true) (hp : P + i = p) : decode c p = .ok (.pop, 1) := dz_0 rfl rfl e hp h
set_option maxRecDepth 100000 in
theorem op_89 {c : ByteArray} {l : List Nat} {P i p : Nat} (e : (dz_l c).drop P = l) (h : dz_c1 l i 89 = true) (hp : P + i = p) : decode c p = .ok (.dup, 1) := dz_0 rfl rfl e hp h
set_option maxRecDepth 100000 in
theorem op_92 {c : ByteArray} {l : List Nat} {P i p : Nat} (e : (dz_l c).drop P = l) (h : dz_c1 l i 92 = true) (hp : P + i = p) : decode c p = .ok (.dup2, 1) := dz_0 rfl rfl e hp h
set_option maxRecDepth 100000 in
theorem op_96 {c : ByteArray} {l : List Nat} {P i p : Nat} (e : (dz_l c).drop P = l) (h : dz_c1 l i 96 = true) (hp : P + i = p) : decode c p = .ok (.iadd, 1) := dz_0 rfl rfl e hp h
set_option maxRecDepth 100000 in
theorem op_97 {c : ByteArray} {l : List Nat} {P i p : Nat} (e : (dz_l c).drop P = l) (h : dz_c1 l i 97 = true) (hp : P + i = p) : decode c p = .ok (.ladd, 1) := dz_0 rfl rfl e hp h
set_option maxRecDepth 100000 in
theorem op_100 {c : ByteArray} {l : List Nat} {P i p : Nat} (e : (dz_l c).drop P = l) (h : dz_c1 l i 100 = true) (hp : P + i = p) : decode c p = .ok (.isub, 1) := dz_0 rfl rfl e hp h
set_option maxRecDepth 100000 in
theorem op_101 {c : ByteArray} {l : List Nat} {P i p : Nat} (e : (dz_l c).drop P = l) (h : dz_c1 l i 101 = true) (hp : P + i = p) : decode c p = .ok (.lsub, 1) := dz_0 rfl rfl e hp h
set_option maxRecDepth 100000 in
theorem op_104 {c : ByteArray} {l : List Nat} {P i p : Nat} (e : (dz_l c).drop P = l) (h : dz_c1 l i 104 = true) (hp : P + i = p) : decode c p = .ok (.imul, 1) := dz_0 rfl rfl e hp h
set_option maxRecDepth 100000 in
theorem op_108 {c : ByteArray} {l : List Nat} {P i p : Nat} (e : (dz_l c).drop P = l) (h : dz_c1 l i 108 = true) (hp : P + i = p) : decode c p = .ok (.idiv, 1) := dz_0 rfl rfl e hp h
set_option maxRecDepth 100000 in
theorem op_112 {c : ByteArray} {l : List Nat} {P i p : Nat} (e : (dz_l c).drop P = l) (h : dz_c1 l i 112 = true) (hp : P + i = p) : decode c p = .ok (.irem, 1) := dz_0 rfl rfl e hp h
set_option maxRecDepth 100000 in
theorem op_116 {c : ByteArray} {l : List Nat} {P i p : Nat} (e : (dz_l c).drop P = l) (h : dz_c1 l i 116 = true) (hp : P + i = p) : decode c p = .ok (.ineg, 1) := dz_0 rfl rfl e hp h
set_option maxRecDepth 100000 in
theorem op_117 {c : ByteArray} {l : List Nat} {P i p : Nat} (e : (dz_l c).drop P = l) (h : dz_c1 l i 117 = true) (hp : P + i = p) : decode c p = .ok (.lneg, 1) := dz_0 rfl rfl e hp h
set_option maxRecDepth 100000 in
theorem op_120 {c : ByteArray} {l : List Nat} {P i p : Nat} (e : (dz_l c).drop P = l) (h : dz_c1 l i 120 = true) (hp : P + i = p) : decode c p = .ok (.ishl, 1) := dz_0 rfl rfl e hp h
set_option maxRecDepth 100000 in
theorem op_122 {c : ByteArray} {l : List Nat} {P i p : Nat} (e : (dz_l c).drop P = l) (h : dz_c1 l i 122 = true) (hp : P + i = p) : decode c p = .ok (.ishr, 1) := dz_0 rfl rfl e hp h
set_option maxRecDepth 100000 in
theorem op_124 {c : ByteArray} {l : List Nat} {P i p : Nat} (e : (dz_l c).drop P = l) (h : dz_c1 l i 124 = true) (hp : P + i = p) : decode c p = .ok (.iushr, 1) := dz_0 rfl rfl e hp h
set_option maxRecDepth 100000 in
theorem op_126 {c : ByteArray} {l : List Nat} {P i p : Nat} (e : (dz_l c).drop P = l) (h : dz_c1 l i 126 = true) (hp : P + i = p) : decode c p = .ok (.iand, 1) := dz_0 rfl rfl e hp h
set_option maxRecDepth 100000 in
theorem op_128 {c : ByteArray} {l : List Nat} {P i p : Nat} (e : (dz_l c).drop P = l) (h : dz_c1 l i 128 = true) (hp : P + i = p) : decode c p = .ok (.ior, 1) := dz_0 rfl rfl e hp h
set_option maxRecDepth 100000 in
theorem op_132 {c : ByteArray} {l : List Nat} {P i p : Nat} {v : Nat} {w : Int} (e : (dz_l c).drop P = l) (h : dz_c3i l i 132 v w = true) (hp : P + i = p) : decode c p = .ok (.iinc v w, 3) := dz_2i (f := fun v w => .iinc v w) rfl rfl e hp h
set_option maxRecDepth 100000 in
theorem op_133 {c : ByteArray} {l : List Nat} {P i p : Nat} (e : (dz_l c).drop P = l) (h : dz_c1 l i 133 = true) (hp : P + i = p) : decode c p = .ok (.i2l, 1) := dz_0 rfl rfl e hp h
set_option maxRecDepth 100000 in
theorem op_136 {c : ByteArray} {l : List Nat} {P i p : Nat} (e : (dz_l c).drop P = l) (h : dz_c1 l i 136 = true) (hp : P + i = p) : decode c p = .ok (.l2i, 1) := dz_0 rfl rfl e hp h
set_option maxRecDepth 100000 in
theorem op_145 {c : ByteArray} {l : List Nat} {P i p : Nat} (e : (dz_l c).drop P = l) (h : dz_c1 l i 145 = true) (hp : P + i = p) : decode c p = .ok (.i2b, 1) := dz_0 rfl rfl e hp h
set_option maxRecDepth 100000 in
theorem op_146 {c : ByteArray} {l : List Nat} {P i p : Nat} (e : (dz_l c).drop P = l) (h : dz_c1 l i 146 = true) (hp : P + i = p) : decode c p = .ok (.i2c, 1) := dz_0 rfl rfl e hp h
set_option maxRecDepth 100000 in
theorem op_147 {c : ByteArray} {l : List Nat} {P i p : Nat} (e : (dz_l c).drop P = l) (h : dz_c1 l i 147 = true) (hp : P + i = p) : decode c p = .ok (.i2s, 1) := dz_0 rfl rfl e hp h
set_option maxRecDepth 100000 in
theorem op_148 {c : ByteArray} {l : List Nat} {P i p : Nat} (e : (dz_l c).drop P = l) (h : dz_c1 l i 148 = true) (hp : P + i = p) : decode c p = .ok (.lcmp, 1) := dz_0 rfl rfl e hp h
set_option maxRecDepth 100000 in
theorem op_153 {c : ByteArray} {l : List Nat} {P i p : Nat} {v : Int} (e : (dz_l c).drop P = l) (h : dz_c3s l i 153 v = true) (hp : P + i = p) : decode c p = .ok (.ifCond .eq v, 3) := dz_2s (f := fun v => .ifCond .eq v) rfl rfl e hp h
set_option maxRecDepth 100000 in
theorem op_154 {c : ByteArray} {l : List Nat} {P i p : Nat} {v : Int} (e : (dz_l c).drop P = l) (h : dz_c3s l i 154 v = true) (hp : P + i = p) : decode c p = .ok (.ifCond .ne v, 3) := dz_2s (f := fun v => .ifCond .ne v) rfl rfl e hp h
set_option maxRecDepth 100000 in
theorem op_155 {c : ByteArray} {l : List Nat} {P i p : Nat} {v : Int} (e : (dz_l c).drop P = l) (h : dz_c3s l i 155 v = true) (hp : P + i = p) : decode c p = .ok (.ifCond .lt v, 3) := dz_2s (f := fun v => .ifCond .lt v) rfl rfl e hp h
set_option maxRecDepth 100000 in
theorem op_156 {c : ByteArray} {l : List Nat} {P i p : Nat} {v : Int} (e : (dz_l c).drop P = l) (h : dz_c3s l i 156 v = true) (hp : P + i = p) : decode c p = .ok (.ifCond .ge v, 3) := dz_2s (f := fun v => .ifCond .ge v) rfl rfl e hp h
set_option maxRecDepth 100000 in
theorem op_158 {c : ByteArray} {l : List Nat} {P i p : Nat} {v : Int} (e : (dz_l c).drop P = l) (h : dz_c3s l i 158 v = true) (hp : P + i = p) : decode c p = .ok (.ifCond .le v, 3) := dz_2s (f := fun v => .ifCond .le v) rfl rfl e hp h
set_option maxRecDepth 100000 in
theorem op_159 {c : ByteArray} {l : List Nat} {P i p : Nat} {v : Int} (e : (dz_l c).drop P = l) (h : dz_c3s l i 159 v = true) (hp : P + i = p) : decode c p = .ok (.if_icmp .eq v, 3) := dz_2s (f := fun v => .if_icmp .eq v) rfl rfl e hp h
set_option maxRecDepth 100000 in
theorem op_160 {c : ByteArray} {l : List Nat} {P i p : Nat} {v : Int} (e : (dz_l c).drop P = l) (h : dz_c3s l i 160 v = true) (hp : P + i = p) : decode c p = .ok (.if_icmp .ne v, 3) := dz_2s (f := fun v => .if_icmp .ne v) rfl rfl e hp h
set_option maxRecDepth 100000 in
theorem op_161 {c : ByteArray} {l : List Nat} {P i p : Nat} {v : Int} (e : (dz_l c).drop P = l) (h : dz_c3s l i 161 v = true) (hp : P + i = p) : decode c p = .ok (.if_icmp .lt v, 3) := dz_2s (f := fun v => .if_icmp .lt v) rfl rfl e hp h
set_option maxRecDepth 100000 in
theorem op_162 {c : ByteArray} {l : List Nat} {P i p : Nat} {v : Int} (e : (dz_l c).drop P = l) (h : dz_c3s l i 162 v = true) (hp : P + i = p) : decode c p = .ok (.if_icmp .ge v, 3) := dz_2s (f := fun v => .if_icmp .ge v) rfl rfl e hp h
set_option maxRecDepth 100000 in
theorem op_163 {c : ByteArray} {l : List Nat} {P i p : Nat} {v : Int} (e : (dz_l c).drop P = l) (h : dz_c3s l i 163 v = true) (hp : P + i = p) : decode c p = .ok (.if_icmp .gt v, 3) := dz_2s (f := fun v => .if_icmp .gt v) rfl rfl e hp h
set_option maxRecDepth 100000 in
theorem op_164 {c : ByteArray} {l : List Nat} {P i p : Nat} {v : Int} (e : (dz_l c).drop P = l) (h : dz_c3s l i 164 v = true) (hp : P + i = p) : decode c p = .ok (.if_icmp .le v, 3) := dz_2s (f := fun v => .if_icmp .le v) rfl rfl e hp h
set_option maxRecDepth 100000 in
theorem op_167 {c : ByteArray} {l : List Nat} {P i p : Nat} {v : Int} (e : (dz_l c).drop P = l) (h : dz_c3s l i 167 v = true) (hp : P + i = p) : decode c p = .ok (.goto v, 3) := dz_2s (f := fun v => .goto v) rfl rfl e hp h
set_option maxRecDepth 100000 in
theorem op_172 {c : ByteArray} {l : List Nat} {P i p : Nat} (e : (dz_l c).drop P = l) (h : dz_c1 l i 172 = true) (hp : P + i = p) : decode c p = .ok (.ireturn, 1) := dz_0 rfl rfl e hp h
set_option maxRecDepth 100000 in
theorem op_173 {c : ByteArray} {l : List Nat} {P i p : Nat} (e : (dz_l c).drop P = l) (h : dz_c1 l i 173 = true) (hp : P + i = p) : decode c p = .ok (.lreturn, 1) := dz_0 rfl rfl e hp h
set_option maxRecDepth 100000 in
theorem op_176 {c : ByteArray} {l : List Nat} {P i p : Nat} (e : (dz_l c).drop P = l) (h : dz_c1 l i 176 = true) (hp : P + i = p) : decode c p = .ok (.areturn, 1) := dz_0 rfl rfl e hp h
set_option maxRecDepth 100000 in
theorem op_177 {c : ByteArray} {l : List Nat} {P i p : Nat} (e : (dz_l c).drop P = l) (h : dz_c1 l i 177 = true) (hp : P + i = p) : decode c p = .ok (.return_, 1) := dz_0 rfl rfl e hp h
set_option maxRecDepth 100000 in
theorem op_178 {c : ByteArray} {l : List Nat} {P i p : Nat} {v : Nat} (e : (dz_l c).drop P = l) (h : dz_c3 l i 178 v = true) (hp : P + i = p) : decode c p = .ok (.getstatic v, 3) := dz_2 (f := fun v => .getstatic v) rfl rfl e hp h
set_option maxRecDepth 100000 in
theorem op_180 {c : ByteArray} {l : List Nat} {P i p : Nat} {v : Nat} (e : (dz_l c).drop P = l) (h : dz_c3 l i 180 v = true) (hp : P + i = p) : decode c p = .ok (.getfield v, 3) := dz_2 (f := fun v => .getfield v) rfl rfl e hp h
set_option maxRecDepth 100000 in
theorem op_181 {c : ByteArray} {l : List Nat} {P i p : Nat} {v : Nat} (e : (dz_l c).drop P = l) (h : dz_c3 l i 181 v = true) (hp : P + i = p) : decode c p = .ok (.putfield v, 3) := dz_2 (f := fun v => .putfield v) rfl rfl e hp h
set_option maxRecDepth 100000 in
theorem op_182 {c : ByteArray} {l : List Nat} {P i p : Nat} {v : Nat} (e : (dz_l c).drop P = l) (h : dz_c3 l i 182 v = true) (hp : P + i = p) : decode c p = .ok (.invokevirtual v, 3) := dz_2 (f := fun v => .invokevirtual v) rfl rfl e hp h
set_option maxRecDepth 100000 in
theorem op_183 {c : ByteArray} {l : List Nat} {P i p : Nat} {v : Nat} (e : (dz_l c).drop P = l) (h : dz_c3 l i 183 v = true) (hp : P + i = p) : decode c p = .ok (.invokespecial v, 3) := dz_2 (f := fun v => .invokespecial v) rfl rfl e hp h
set_option maxRecDepth 100000 in
theorem op_184 {c : ByteArray} {l : List Nat} {P i p : Nat} {v : Nat} (e : (dz_l c).drop P = l) (h : dz_c3 l i 184 v = true) (hp : P + i = p) : decode c p = .ok (.invokestatic v, 3) := dz_2 (f := fun v => .invokestatic v) rfl rfl e hp h
set_option maxRecDepth 100000 in
theorem op_187 {c : ByteArray} {l : List Nat} {P i p : Nat} {v : Nat} (e : (dz_l c).drop P = l) (h : dz_c3 l i 187 v = true) (hp : P + i = p) : decode c p = .ok (.new v, 3) := dz_2 (f := fun v => .new v) rfl rfl e hp h
set_option maxRecDepth 100000 in
theorem op_189 {c : ByteArray} {l : List Nat} {P i p : Nat} {v : Nat} (e : (dz_l c).drop P = l) (h : dz_c3 l i 189 v = true) (hp : P + i = p) : decode c p = .ok (.anewarray v, 3) := dz_2 (f := fun v => .anewarray v) rfl rfl e hp h
set_option maxRecDepth 100000 in
theorem op_190 {c : ByteArray} {l : List Nat} {P i p : Nat} (e : (dz_l c).drop P = l) (h : dz_c1 l i 190 = true) (hp : P + i = p) : decode c p = .ok (.arraylength, 1) := dz_0 rfl rfl e hp h
set_option maxRecDepth 100000 in
theorem op_198 {c : ByteArray} {l : List Nat} {P i p : Nat} {v : Int} (e : (dz_l c).drop P = l) (h : dz_c3s l i 198 v = true) (hp : P + i = p) : decode c p = .ok (.ifnull v, 3) := dz_2s (f := fun v => .ifnull v) rfl rfl e hp h
set_option maxRecDepth 100000 in
theorem op_199 {c : ByteArray} {l : List Nat} {P i p : Nat} {v : Int} (e : (dz_l c).drop P = l) (h : dz_c3s l i 199 v = true) (hp : P + i = p) : decode c p = .ok (.ifnonnull v, 3) := dz_2s (f := fun v => .ifnonnull v) rfl rfl e hp h
