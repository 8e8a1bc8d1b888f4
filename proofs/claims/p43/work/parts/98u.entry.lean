def N0 : Nat → Int32 := upd (upd (upd (upd (upd (upd (upd (upd (upd (upd (upd (upd (upd (upd (upd (upd (upd (fun _ => 0) 0 1) 4 60) 5 10) 20 20) 21 20) 8 5) 12 1) 16 1) 9 5) 13 1) 17 1) 10 5) 14 1) 18 1) 11 5) 15 1) 19 1
def o0 : Nat → Int32 := upd (fun _ => 0) 4 (-1)
def a0 : Nat → Nat → Int32 := fun k => if k = 83 then (fun _ => -1) else (fun _ => 0)
theorem a0_n {k : Nat} (h : k ≠ 83) : a0 k = (fun _ => 0) := if_neg h
theorem a0_s : a0 83 = (fun _ => -1) := if_pos rfl
theorem tl_a0 {n k : Nat} (h : k ≠ 83) : List.replicate n 0 = tl n (a0 k) := by rw [a0_n h]; exact tl_rep _
theorem am_il {t : Nat} {l l' : List Int32} {x : Option am_AC} (h : x = some (.inl (t, l))) (e : l = l') : x = some (.inl (t, l')) := by rw [h, e]
theorem tl_N0 : (((((((((((((((((List.replicate 1434 0).set 0 1).set 4 60).set 5 10).set 20 20).set 21 20).set 8 5).set 12 1).set 16 1).set 9 5).set 13 1).set 17 1).set 10 5).set 14 1).set 18 1).set 11 5).set 15 1).set 19 1 = tl 1434 N0 := by
  rw [tl_rep]
  simp only [tl_set]
  rfl
set_option maxRecDepth 100000 in
set_option maxHeartbeats 4000000 in
theorem mr_0 {h : am_H} (F : f0_X8 h) : MR o0 N0 a0 h := by
  obtain ⟨f69, f70, f71, f72, f73, f74, f75, f76, f77, f78, f79, f80, f81, f82, f83, f84, f85, f86, f87, f88, f89, f90, f91⟩ := F
  exact ⟨f69, am_il f70 tl_N0, am_il f71 (tl_a0 (by decide)), am_il f72 (tl_a0 (by decide)), am_il f73 (tl_a0 (by decide)), am_il f74 (tl_a0 (by decide)), am_il f75 (tl_a0 (by decide)), f76, f77, am_il f78 (tl_a0 (by decide)), am_il f79 (tl_a0 (by decide)), am_il f80 (tl_a0 (by decide)), am_il f81 (tl_a0 (by decide)), am_il f82 (tl_a0 (by decide)), am_il f83 (by rw [a0_s]; rfl), am_il f84 (tl_a0 (by decide)), am_il f85 (tl_a0 (by decide)), am_il f86 (tl_a0 (by decide)), am_il f87 (tl_a0 (by decide)), am_il f88 (tl_a0 (by decide)), am_il f89 (tl_a0 (by decide)), am_il f90 (tl_a0 (by decide)), am_il f91 (tl_a0 (by decide))⟩
set_option maxRecDepth 100000 in
set_option maxHeartbeats 4000000 in
theorem li_0 {h : am_H} (F7 : f0_X7 h) (F8 : f0_X8 h) : LI 0 h := by
  have M := mr_0 F8
  obtain ⟨f0, f1, f2, f3, f4, f5, f6, f7, f8, f9, f10, f11, f12, f13, f14, f15, f16, f17, f18, f19, f20, f21, f22, f23, f24, f25, f26, f27, f28, f29, f30, f31, f32, f33, f34, f35, f36, f37, f38, f39, f40, f41, f42, f43, f44, f45, f46, f47, f48, f49, f50, f51, f52, f53, f54, f55, f56, f57, f58, f59, f60, f61, f62, f63, f64, f65, f66, f67, f68⟩ := F7
  have z96 : List.replicate 96 (0 : Int32) = tl 96 (fun _ => 0) := tl_rep _
  have z60 : List.replicate 60 (0 : Int32) = tl 60 (fun _ => 0) := tl_rep _
  have z24 : List.replicate 24 (0 : Int32) = tl 24 (fun _ => 0) := tl_rep _
  have Q1 : QR 1 N0 [.null, .null, .null, .null, .null, .null, .null, .null, .null, .null, .null, .null, .null, .null] (fun _ => -1) (fun _ => 0) h := ⟨f1, f2, f3, f4, f5, f6, f7, f8, f9, f10, f11, f12⟩
  have Q13 : QR 13 N0 [.null, .null, .null, .null, .null, .null, .null, .null, .null, .null, .null, .null, .null, .null] (fun _ => -1) (fun _ => 0) h := ⟨f13, f14, f15, f16, f17, f18, f19, f20, f21, f22, f23, f24⟩
  have Q25 : QR 25 N0 [.null, .null, .null, .null, .null, .null, .null, .null, .null, .null, .null, .null, .null, .null] (fun _ => -1) (fun _ => 0) h := ⟨f25, f26, f27, f28, f29, f30, f31, f32, f33, f34, f35, f36⟩
  have hok : ∀ (t : Nat) (v : Value), ([.null, .null, .null, .null, .null, .null, .null, .null, .null, .null, .null, .null, .null, .null] : List Value)[t]? = some v → v = .null ∨ ∃ a, a < 0 ∧ v = .ref (92 + 3 * a) := fun t v hv => by
    left
    have hm := List.mem_of_getElem? hv
    simpa using hm
  have wm : wi (-1) (-1) 1 := ⟨by decide, by decide⟩
  have d1 : ¬ (0 : Int32) = 1 := by decide
  have d2 : ¬ (0 : Int32) = 2 := by decide
  have d3 : ¬ (0 : Int32) = 3 := by decide
  have v3 : wi 0 0 3 := ⟨by decide, by decide⟩
  have v5 : wi 0 0 5 := ⟨by decide, by decide⟩
  refine ⟨o0, a0, 0, 0, N0, [.null, .null, .null, .null, .null, .null, .null, .null, .null, .null, .null, .null, .null, .null], (fun _ => -1), (fun _ => 0), N0, [.null, .null, .null, .null, .null, .null, .null, .null, .null, .null, .null, .null, .null, .null], (fun _ => -1), (fun _ => 0), upd (upd (fun _ => 0) 4 (-1)) 5 (-1), 0, (fun _ => 0), (fun _ => 0), (fun _ => -1), (fun _ => 0), (fun _ => 0), (fun _ => 0), (fun _ => 0), (fun _ => 0), (fun _ => 0), (fun _ => -1), (fun _ => 0), (fun _ => 0), (fun _ => 0), (0, (fun _ => 0), (fun _ => 0), (fun _ => 0), (fun _ _ => 0), (fun _ => 0)), 0, 0, ⟨M, ⟨f0, f43, f44⟩, Q1, ⟨_, _, _, _, Q13, rfl⟩, Q25, ⟨0, 0, (fun _ => 0), f37, am_il f38 (tl_rep _)⟩, ⟨f39, f40, am_il f41 z96, am_il f42 z96⟩, fun s hs => ?_, fun s hs => ?_, am_il f45 z60, fun s hs => absurd hs (by omega)⟩, ⟨rfl, rfl, rfl, rfl, rfl, rfl, rfl, rfl, rfl, rfl⟩, rfl, ?_, ?_, ⟨rfl, hok, fun q => absurd rfl q⟩, rfl, ⟨0, by omega, rfl⟩, ⟨0, by omega, rfl⟩, fun s hs => ⟨wm, 0, by omega, rfl⟩, fun s hs => ⟨v3, v5, ⟨0, by omega, rfl⟩, fun e => absurd e d1, fun e => absurd e d2, fun e => absurd e d3⟩⟩
  · rcases (show s = 0 ∨ s = 1 ∨ s = 2 ∨ s = 3 by omega) with rfl | rfl | rfl | rfl
    · exact ⟨f46, am_il f47 z24⟩
    · exact ⟨f48, am_il f49 z24⟩
    · exact ⟨f50, am_il f51 z24⟩
    · exact ⟨f52, am_il f53 z24⟩
  · rcases (show s = 0 ∨ s = 1 ∨ s = 2 ∨ s = 3 ∨ s = 4 by omega) with rfl | rfl | rfl | rfl | rfl
    · exact ⟨f54, f55, am_il f56 z24⟩
    · exact ⟨f57, f58, am_il f59 z24⟩
    · exact ⟨f60, f61, am_il f62 z24⟩
    · exact ⟨f63, f64, am_il f65 z24⟩
    · exact ⟨f66, f67, am_il f68 z24⟩
  · refine ⟨rfl, by omega, rfl, by omega, fun f hf => ?_, fun t ht => ?_, fun j hj => ?_, fun s hs => ?_, ⟨by decide, by decide⟩, ⟨by decide, by decide⟩, ⟨by decide, by decide⟩, ⟨by decide, by decide⟩⟩
    · rcases (show f = 0 ∨ f = 1 ∨ f = 2 ∨ f = 3 ∨ f = 4 ∨ f = 5 ∨ f = 6 ∨ f = 7 by omega) with rfl | rfl | rfl | rfl | rfl | rfl | rfl | rfl <;> exact ⟨⟨by decide, by decide⟩, ⟨by decide, by decide⟩, ⟨by decide, by decide⟩⟩
    · rcases (show t = 0 ∨ t = 1 ∨ t = 2 ∨ t = 3 by omega) with rfl | rfl | rfl | rfl <;> exact ⟨by decide, by decide⟩
    · rcases (show j = 0 ∨ j = 1 ∨ j = 2 ∨ j = 3 ∨ j = 4 ∨ j = 5 ∨ j = 6 ∨ j = 7 by omega) with rfl | rfl | rfl | rfl | rfl | rfl | rfl | rfl <;> exact ⟨by decide, by decide⟩
    · rcases (show s = 0 ∨ s = 1 by omega) with rfl | rfl <;> exact ⟨by decide, by decide⟩
  · refine ⟨⟨rfl, by omega, hok, fun t ht => absurd ht (by omega)⟩, rfl, fun k hk => rfl, fun t ht => absurd ht (by omega)⟩
