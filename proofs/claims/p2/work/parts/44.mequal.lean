theorem wi99 {x : Int32} (h : wi x 0 99) : ∃ q : Fin 100, x = nI q.1 := by
  obtain ⟨q, hq, e⟩ := wi_nI (H := 99) (by decide) (by decide) h
  exact ⟨⟨q, by omega⟩, e⟩
theorem wn20 {x : Int32} (h : wi x 0 99) : wn (x + 20) 0 99 = if 99 < x + 20 then 99 else x + 20 := by
  obtain ⟨p, rfl⟩ := wi99 h
  clear h
  revert p
  decide +kernel
theorem wn10 {x : Int32} (h : wi x 0 99) : wn (x / 2 - 10) 0 99 = if x / 2 - 10 < 0 then 0 else x / 2 - 10 := by
  obtain ⟨p, rfl⟩ := wi99 h
  clear h
  revert p
  decide +kernel
theorem tone_eq {k hv pl : Int32} (hk : wi k 0 5) (h : wi pl 0 99) : mtoneK k hv pl = toneK k hv pl := by
  unfold mtoneK toneK
  rw [wn20 h, wn10 h]
  rcases wi_c0_5 hk with rfl | rfl | rfl | rfl | rfl | rfl <;> simp
