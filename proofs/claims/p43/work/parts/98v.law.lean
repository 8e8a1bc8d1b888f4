theorem aw_bud {X : List Int32} {M : am_MD} {d rc rs rc' rs' pc n : Nat} {L : am_L} {S : List Value} {h : am_H} {Q : am_Q} (e1 : rc = rc') (e2 : rs = rs') (k : AW X M d rc' rs' pc L S n h Q) : AW X M d rc rs pc L S n h Q := by
  subst e1 e2; exact k
theorem gtI {p l : Nat} (hp : p < 10000) (hl : l < 10000) : (nI l - 6 < nI p) ↔ l < p + 6 := by
  have e6 : (6 : Int32).toInt = 6 := by decide
  rw [Int32.lt_iff_toInt_lt, Int32.toInt_sub, e6, nI_toInt (by omega), nI_toInt (by omega)]
  rw [Int.bmod_eq_of_le (m := 2 ^ 32) (n := (l : Int) - 6)]
  · omega
  · show -((4294967296 : Int) / 2) ≤ (l : Int) - 6
    omega
  · show (l : Int) - 6 < ((4294967296 : Int) + 1) / 2
    omega
set_option maxRecDepth 100000 in
theorem lw_c0 {X : List Int32} {p rc rs T : Nat} {h : am_H} {x1 x2 x3 x4 x5 : Int32} (H : LI T h) (hT : T < 1000) (hp : p < 10000) (e1 : X[p + 1]? = some x1) (e2 : X[p + 2]? = some x2) (e3 : X[p + 3]? = some x3) (e4 : X[p + 4]? = some x4) (e5 : X[p + 5]? = some x5) (kk : ∀ T9 h9, T9 ≤ T + 1 → LI T9 h9 → AW X mLaw 1000 rc rs 1452 [some (.ref 1000000), some (.ref 0), some (.ref 69), some (.int (nI p))] [] (92 + 3 * T9) h9 (fun r _ _ => r = some (.int 1))) : AW X mLaw 1000 (rc + 3) (rs + 200) 216 [some (.ref 1000000), some (.ref 0), some (.ref 69), some (.int (nI p))] [] (92 + 3 * T) h (fun r _ _ => r = some (.int 1)) := by
  obtain ⟨fs7, hb7⟩ := li_7 H
  refine aw_aload_n (npc := 217) rfl dL_law_216 rfl ?_
  refine aw_aload_n (npc := 218) rfl dL_law_217 rfl ?_
  refine aw_iload_n (npc := 219) rfl dL_law_218 rfl ?_
  refine aw_iconst (npc := 220) (v := nI 1) (by decide) dL_law_219 rfl ?_
  refine aw_iaddV (npc := 221) (v := nI (p + 1)) dL_law_220 rfl (nI_add p 1) ?_
  refine aw_script_ld (npc := 222) (j := p + 1) dL_law_221 rfl (am_ix_nI (by omega)) e1 ?_
  refine aw_aload_n (npc := 223) rfl dL_law_222 rfl ?_
  refine aw_iload_n (npc := 224) rfl dL_law_223 rfl ?_
  refine aw_iconst (npc := 225) (v := nI 2) (by decide) dL_law_224 rfl ?_
  refine aw_iaddV (npc := 226) (v := nI (p + 2)) dL_law_225 rfl (nI_add p 2) ?_
  refine aw_script_ld (npc := 227) (j := p + 2) dL_law_226 rfl (am_ix_nI (by omega)) e2 ?_
  refine aw_aload_n (npc := 228) rfl dL_law_227 rfl ?_
  refine aw_iload_n (npc := 229) rfl dL_law_228 rfl ?_
  refine aw_iconst (npc := 230) (v := nI 3) (by decide) dL_law_229 rfl ?_
  refine aw_iaddV (npc := 231) (v := nI (p + 3)) dL_law_230 rfl (nI_add p 3) ?_
  refine aw_script_ld (npc := 232) (j := p + 3) dL_law_231 rfl (am_ix_nI (by omega)) e3 ?_
  refine aw_callV (npc := 235) (N := mX7_friend) (b := 0) (mc := 3) (ms := 200) (A := [.int x1, .int x2, .int x3]) (S := []) (L0 := [some (.ref 0), some (.int x1), some (.int x2), some (.int x3)]) dL_law_232 rfl km_X7_friend kk_L_13 hb7 ⟨by decide, rfl⟩ rfl ⟨rfl, by decide⟩ rfl (Nat.le_of_ble_eq_true rfl) (Nat.add_comm _ _) (Nat.add_comm _ _) rfl ?_
  refine st_friend (d := 199) H (fun v1 h1 hm => ?_)
  obtain ⟨⟨fs8, hb8⟩, hm⟩ := hm
  refine aw_re (S' := [.int v1]) rfl ?_
  refine aw_pop (npc := 236) rfl dL_law_235 rfl ?_
  refine aw_aload_n (npc := 237) rfl dL_law_236 rfl ?_
  refine aw_aload_n (npc := 238) rfl dL_law_237 rfl ?_
  refine aw_iload_n (npc := 239) rfl dL_law_238 rfl ?_
  refine aw_iconst (npc := 240) (v := nI 1) (by decide) dL_law_239 rfl ?_
  refine aw_iaddV (npc := 241) (v := nI (p + 1)) dL_law_240 rfl (nI_add p 1) ?_
  refine aw_script_ld (npc := 242) (j := p + 1) dL_law_241 rfl (am_ix_nI (by omega)) e1 ?_
  refine aw_aload_n (npc := 243) rfl dL_law_242 rfl ?_
  refine aw_iload_n (npc := 244) rfl dL_law_243 rfl ?_
  refine aw_iconst (npc := 245) (v := nI 2) (by decide) dL_law_244 rfl ?_
  refine aw_iaddV (npc := 246) (v := nI (p + 2)) dL_law_245 rfl (nI_add p 2) ?_
  refine aw_script_ld (npc := 247) (j := p + 2) dL_law_246 rfl (am_ix_nI (by omega)) e2 ?_
  refine aw_aload_n (npc := 248) rfl dL_law_247 rfl ?_
  refine aw_iload_n (npc := 249) rfl dL_law_248 rfl ?_
  refine aw_iconst (npc := 250) (v := nI 3) (by decide) dL_law_249 rfl ?_
  refine aw_iaddV (npc := 251) (v := nI (p + 3)) dL_law_250 rfl (nI_add p 3) ?_
  refine aw_script_ld (npc := 252) (j := p + 3) dL_law_251 rfl (am_ix_nI (by omega)) e3 ?_
  refine aw_callV (npc := 255) (N := mX8_friend) (b := 69) (mc := 0) (ms := 0) (A := [.int x1, .int x2, .int x3]) (S := []) (L0 := [some (.ref 69), some (.int x1), some (.int x2), some (.int x3)]) dL_law_252 rfl km_X8_friend kk_L_17 hb8 ⟨by decide, rfl⟩ rfl ⟨rfl, by decide⟩ rfl (Nat.le_of_ble_eq_true rfl) (Nat.zero_add _) (Nat.zero_add _) rfl ?_
  refine hm 899 _ _ _ (fun h2 H2 => ?_)
  refine aw_re (S' := [.int v1]) rfl ?_
  refine aw_pop (npc := 256) rfl dL_law_255 rfl ?_
  refine aw_goto (npc := 1452) dL_law_256 (by decide) ?_
  exact kk T _ (Nat.le_succ T) H2
set_option maxRecDepth 100000 in
theorem lw_c1 {X : List Int32} {p rc rs T : Nat} {h : am_H} {x1 x2 x3 x4 x5 : Int32} (H : LI T h) (hT : T < 1000) (hp : p < 10000) (e1 : X[p + 1]? = some x1) (e2 : X[p + 2]? = some x2) (e3 : X[p + 3]? = some x3) (e4 : X[p + 4]? = some x4) (e5 : X[p + 5]? = some x5) (kk : ∀ T9 h9, T9 ≤ T + 1 → LI T9 h9 → AW X mLaw 1000 rc rs 1452 [some (.ref 1000000), some (.ref 0), some (.ref 69), some (.int (nI p))] [] (92 + 3 * T9) h9 (fun r _ _ => r = some (.int 1))) : AW X mLaw 1000 (rc + 3) (rs + 200) 259 [some (.ref 1000000), some (.ref 0), some (.ref 69), some (.int (nI p))] [] (92 + 3 * T) h (fun r _ _ => r = some (.int 1)) := by
  obtain ⟨fs7, hb7⟩ := li_7 H
  refine aw_aload_n (npc := 260) rfl dL_law_259 rfl ?_
  refine aw_aload_n (npc := 261) rfl dL_law_260 rfl ?_
  refine aw_iload_n (npc := 262) rfl dL_law_261 rfl ?_
  refine aw_iconst (npc := 263) (v := nI 1) (by decide) dL_law_262 rfl ?_
  refine aw_iaddV (npc := 264) (v := nI (p + 1)) dL_law_263 rfl (nI_add p 1) ?_
  refine aw_script_ld (npc := 265) (j := p + 1) dL_law_264 rfl (am_ix_nI (by omega)) e1 ?_
  refine aw_aload_n (npc := 266) rfl dL_law_265 rfl ?_
  refine aw_iload_n (npc := 267) rfl dL_law_266 rfl ?_
  refine aw_iconst (npc := 268) (v := nI 2) (by decide) dL_law_267 rfl ?_
  refine aw_iaddV (npc := 269) (v := nI (p + 2)) dL_law_268 rfl (nI_add p 2) ?_
  refine aw_script_ld (npc := 270) (j := p + 2) dL_law_269 rfl (am_ix_nI (by omega)) e2 ?_
  refine aw_callV (npc := 273) (N := mX7_told) (b := 0) (mc := 3) (ms := 200) (A := [.int x1, .int x2]) (S := []) (L0 := [some (.ref 0), some (.int x1), some (.int x2)]) dL_law_270 rfl km_X7_told kk_L_18 hb7 ⟨by decide, rfl⟩ rfl ⟨rfl, by decide⟩ rfl (Nat.le_of_ble_eq_true rfl) (Nat.add_comm _ _) (Nat.add_comm _ _) rfl ?_
  refine st_told (d := 199) H (fun v1 h1 hm => ?_)
  obtain ⟨⟨fs8, hb8⟩, hm⟩ := hm
  refine aw_re (S' := [.int v1]) rfl ?_
  refine aw_pop (npc := 274) rfl dL_law_273 rfl ?_
  refine aw_aload_n (npc := 275) rfl dL_law_274 rfl ?_
  refine aw_aload_n (npc := 276) rfl dL_law_275 rfl ?_
  refine aw_iload_n (npc := 277) rfl dL_law_276 rfl ?_
  refine aw_iconst (npc := 278) (v := nI 1) (by decide) dL_law_277 rfl ?_
  refine aw_iaddV (npc := 279) (v := nI (p + 1)) dL_law_278 rfl (nI_add p 1) ?_
  refine aw_script_ld (npc := 280) (j := p + 1) dL_law_279 rfl (am_ix_nI (by omega)) e1 ?_
  refine aw_aload_n (npc := 281) rfl dL_law_280 rfl ?_
  refine aw_iload_n (npc := 282) rfl dL_law_281 rfl ?_
  refine aw_iconst (npc := 283) (v := nI 2) (by decide) dL_law_282 rfl ?_
  refine aw_iaddV (npc := 284) (v := nI (p + 2)) dL_law_283 rfl (nI_add p 2) ?_
  refine aw_script_ld (npc := 285) (j := p + 2) dL_law_284 rfl (am_ix_nI (by omega)) e2 ?_
  refine aw_callV (npc := 288) (N := mX8_told) (b := 69) (mc := 0) (ms := 0) (A := [.int x1, .int x2]) (S := []) (L0 := [some (.ref 69), some (.int x1), some (.int x2)]) dL_law_285 rfl km_X8_told kk_L_22 hb8 ⟨by decide, rfl⟩ rfl ⟨rfl, by decide⟩ rfl (Nat.le_of_ble_eq_true rfl) (Nat.zero_add _) (Nat.zero_add _) rfl ?_
  refine hm 899 _ _ _ (fun h2 H2 => ?_)
  refine aw_re (S' := [.int v1]) rfl ?_
  refine aw_pop (npc := 289) rfl dL_law_288 rfl ?_
  refine aw_goto (npc := 1452) dL_law_289 (by decide) ?_
  exact kk T _ (Nat.le_succ T) H2
set_option maxRecDepth 100000 in
theorem lw_c2 {X : List Int32} {p rc rs T : Nat} {h : am_H} {x1 x2 x3 x4 x5 : Int32} (H : LI T h) (hT : T < 1000) (hp : p < 10000) (e1 : X[p + 1]? = some x1) (e2 : X[p + 2]? = some x2) (e3 : X[p + 3]? = some x3) (e4 : X[p + 4]? = some x4) (e5 : X[p + 5]? = some x5) (kk : ∀ T9 h9, T9 ≤ T + 1 → LI T9 h9 → AW X mLaw 1000 rc rs 1452 [some (.ref 1000000), some (.ref 0), some (.ref 69), some (.int (nI p))] [] (92 + 3 * T9) h9 (fun r _ _ => r = some (.int 1))) : AW X mLaw 1000 (rc + 3) (rs + 200) 292 [some (.ref 1000000), some (.ref 0), some (.ref 69), some (.int (nI p))] [] (92 + 3 * T) h (fun r _ _ => r = some (.int 1)) := by
  obtain ⟨fs7, hb7⟩ := li_7 H
  refine aw_aload_n (npc := 293) rfl dL_law_292 rfl ?_
  refine aw_aload_n (npc := 294) rfl dL_law_293 rfl ?_
  refine aw_iload_n (npc := 295) rfl dL_law_294 rfl ?_
  refine aw_iconst (npc := 296) (v := nI 1) (by decide) dL_law_295 rfl ?_
  refine aw_iaddV (npc := 297) (v := nI (p + 1)) dL_law_296 rfl (nI_add p 1) ?_
  refine aw_script_ld (npc := 298) (j := p + 1) dL_law_297 rfl (am_ix_nI (by omega)) e1 ?_
  refine aw_aload_n (npc := 299) rfl dL_law_298 rfl ?_
  refine aw_iload_n (npc := 300) rfl dL_law_299 rfl ?_
  refine aw_iconst (npc := 301) (v := nI 2) (by decide) dL_law_300 rfl ?_
  refine aw_iaddV (npc := 302) (v := nI (p + 2)) dL_law_301 rfl (nI_add p 2) ?_
  refine aw_script_ld (npc := 303) (j := p + 2) dL_law_302 rfl (am_ix_nI (by omega)) e2 ?_
  refine aw_callV (npc := 306) (N := mX7_as) (b := 0) (mc := 3) (ms := 200) (A := [.int x1, .int x2]) (S := []) (L0 := [some (.ref 0), some (.int x1), some (.int x2)]) dL_law_303 rfl km_X7_as kk_L_23 hb7 ⟨by decide, rfl⟩ rfl ⟨rfl, by decide⟩ rfl (Nat.le_of_ble_eq_true rfl) (Nat.add_comm _ _) (Nat.add_comm _ _) rfl ?_
  refine st_as (d := 199) H (fun v1 h1 hm => ?_)
  obtain ⟨⟨fs8, hb8⟩, hm⟩ := hm
  refine aw_re (S' := [.int v1]) rfl ?_
  refine aw_pop (npc := 307) rfl dL_law_306 rfl ?_
  refine aw_aload_n (npc := 308) rfl dL_law_307 rfl ?_
  refine aw_aload_n (npc := 309) rfl dL_law_308 rfl ?_
  refine aw_iload_n (npc := 310) rfl dL_law_309 rfl ?_
  refine aw_iconst (npc := 311) (v := nI 1) (by decide) dL_law_310 rfl ?_
  refine aw_iaddV (npc := 312) (v := nI (p + 1)) dL_law_311 rfl (nI_add p 1) ?_
  refine aw_script_ld (npc := 313) (j := p + 1) dL_law_312 rfl (am_ix_nI (by omega)) e1 ?_
  refine aw_aload_n (npc := 314) rfl dL_law_313 rfl ?_
  refine aw_iload_n (npc := 315) rfl dL_law_314 rfl ?_
  refine aw_iconst (npc := 316) (v := nI 2) (by decide) dL_law_315 rfl ?_
  refine aw_iaddV (npc := 317) (v := nI (p + 2)) dL_law_316 rfl (nI_add p 2) ?_
  refine aw_script_ld (npc := 318) (j := p + 2) dL_law_317 rfl (am_ix_nI (by omega)) e2 ?_
  refine aw_callV (npc := 321) (N := mX8_as) (b := 69) (mc := 0) (ms := 0) (A := [.int x1, .int x2]) (S := []) (L0 := [some (.ref 69), some (.int x1), some (.int x2)]) dL_law_318 rfl km_X8_as kk_L_26 hb8 ⟨by decide, rfl⟩ rfl ⟨rfl, by decide⟩ rfl (Nat.le_of_ble_eq_true rfl) (Nat.zero_add _) (Nat.zero_add _) rfl ?_
  refine hm 899 _ _ _ (fun h2 H2 => ?_)
  refine aw_re (S' := [.int v1]) rfl ?_
  refine aw_pop (npc := 322) rfl dL_law_321 rfl ?_
  refine aw_goto (npc := 1452) dL_law_322 (by decide) ?_
  exact kk T _ (Nat.le_succ T) H2
set_option maxRecDepth 100000 in
theorem lw_c3 {X : List Int32} {p rc rs T : Nat} {h : am_H} {x1 x2 x3 x4 x5 : Int32} (H : LI T h) (hT : T < 1000) (hp : p < 10000) (e1 : X[p + 1]? = some x1) (e2 : X[p + 2]? = some x2) (e3 : X[p + 3]? = some x3) (e4 : X[p + 4]? = some x4) (e5 : X[p + 5]? = some x5) (kk : ∀ T9 h9, T9 ≤ T + 1 → LI T9 h9 → AW X mLaw 1000 rc rs 1452 [some (.ref 1000000), some (.ref 0), some (.ref 69), some (.int (nI p))] [] (92 + 3 * T9) h9 (fun r _ _ => r = some (.int 1))) : AW X mLaw 1000 (rc + 3) (rs + 200) 325 [some (.ref 1000000), some (.ref 0), some (.ref 69), some (.int (nI p))] [] (92 + 3 * T) h (fun r _ _ => r = some (.int 1)) := by
  obtain ⟨fs7, hb7⟩ := li_7 H
  refine aw_aload_n (npc := 326) rfl dL_law_325 rfl ?_
  refine aw_aload_n (npc := 327) rfl dL_law_326 rfl ?_
  refine aw_iload_n (npc := 328) rfl dL_law_327 rfl ?_
  refine aw_iconst (npc := 329) (v := nI 1) (by decide) dL_law_328 rfl ?_
  refine aw_iaddV (npc := 330) (v := nI (p + 1)) dL_law_329 rfl (nI_add p 1) ?_
  refine aw_script_ld (npc := 331) (j := p + 1) dL_law_330 rfl (am_ix_nI (by omega)) e1 ?_
  refine aw_aload_n (npc := 332) rfl dL_law_331 rfl ?_
  refine aw_iload_n (npc := 333) rfl dL_law_332 rfl ?_
  refine aw_iconst (npc := 334) (v := nI 2) (by decide) dL_law_333 rfl ?_
  refine aw_iaddV (npc := 335) (v := nI (p + 2)) dL_law_334 rfl (nI_add p 2) ?_
  refine aw_script_ld (npc := 336) (j := p + 2) dL_law_335 rfl (am_ix_nI (by omega)) e2 ?_
  refine aw_callV (npc := 339) (N := mX7_turns) (b := 0) (mc := 3) (ms := 200) (A := [.int x1, .int x2]) (S := []) (L0 := [some (.ref 0), some (.int x1), some (.int x2), none]) dL_law_336 rfl km_X7_turns kk_L_27 hb7 ⟨by decide, rfl⟩ rfl ⟨rfl, by decide⟩ rfl (Nat.le_of_ble_eq_true rfl) (Nat.add_comm _ _) (Nat.add_comm _ _) rfl ?_
  refine st_turns (d := 199) H (fun v1 h1 hm => ?_)
  obtain ⟨⟨fs8, hb8⟩, hm⟩ := hm
  refine aw_re (S' := [.int v1]) rfl ?_
  refine aw_pop (npc := 340) rfl dL_law_339 rfl ?_
  refine aw_aload_n (npc := 341) rfl dL_law_340 rfl ?_
  refine aw_aload_n (npc := 342) rfl dL_law_341 rfl ?_
  refine aw_iload_n (npc := 343) rfl dL_law_342 rfl ?_
  refine aw_iconst (npc := 344) (v := nI 1) (by decide) dL_law_343 rfl ?_
  refine aw_iaddV (npc := 345) (v := nI (p + 1)) dL_law_344 rfl (nI_add p 1) ?_
  refine aw_script_ld (npc := 346) (j := p + 1) dL_law_345 rfl (am_ix_nI (by omega)) e1 ?_
  refine aw_aload_n (npc := 347) rfl dL_law_346 rfl ?_
  refine aw_iload_n (npc := 348) rfl dL_law_347 rfl ?_
  refine aw_iconst (npc := 349) (v := nI 2) (by decide) dL_law_348 rfl ?_
  refine aw_iaddV (npc := 350) (v := nI (p + 2)) dL_law_349 rfl (nI_add p 2) ?_
  refine aw_script_ld (npc := 351) (j := p + 2) dL_law_350 rfl (am_ix_nI (by omega)) e2 ?_
  refine aw_callV (npc := 354) (N := mX8_turns) (b := 69) (mc := 0) (ms := 0) (A := [.int x1, .int x2]) (S := []) (L0 := [some (.ref 69), some (.int x1), some (.int x2)]) dL_law_351 rfl km_X8_turns kk_L_30 hb8 ⟨by decide, rfl⟩ rfl ⟨rfl, by decide⟩ rfl (Nat.le_of_ble_eq_true rfl) (Nat.zero_add _) (Nat.zero_add _) rfl ?_
  refine hm 899 _ _ _ (fun h2 H2 => ?_)
  refine aw_re (S' := [.int v1]) rfl ?_
  refine aw_pop (npc := 355) rfl dL_law_354 rfl ?_
  refine aw_goto (npc := 1452) dL_law_355 (by decide) ?_
  exact kk T _ (Nat.le_succ T) H2
set_option maxRecDepth 100000 in
theorem lw_c4 {X : List Int32} {p rc rs T : Nat} {h : am_H} {x1 x2 x3 x4 x5 : Int32} (H : LI T h) (hT : T < 1000) (hp : p < 10000) (e1 : X[p + 1]? = some x1) (e2 : X[p + 2]? = some x2) (e3 : X[p + 3]? = some x3) (e4 : X[p + 4]? = some x4) (e5 : X[p + 5]? = some x5) (kk : ∀ T9 h9, T9 ≤ T + 1 → LI T9 h9 → AW X mLaw 1000 rc rs 1452 [some (.ref 1000000), some (.ref 0), some (.ref 69), some (.int (nI p))] [] (92 + 3 * T9) h9 (fun r _ _ => r = some (.int 1))) : AW X mLaw 1000 (rc + 3) (rs + 200) 358 [some (.ref 1000000), some (.ref 0), some (.ref 69), some (.int (nI p))] [] (92 + 3 * T) h (fun r _ _ => r = some (.int 1)) := by
  obtain ⟨fs7, hb7⟩ := li_7 H
  refine aw_aload_n (npc := 359) rfl dL_law_358 rfl ?_
  refine aw_aload_n (npc := 360) rfl dL_law_359 rfl ?_
  refine aw_iload_n (npc := 361) rfl dL_law_360 rfl ?_
  refine aw_iconst (npc := 362) (v := nI 1) (by decide) dL_law_361 rfl ?_
  refine aw_iaddV (npc := 363) (v := nI (p + 1)) dL_law_362 rfl (nI_add p 1) ?_
  refine aw_script_ld (npc := 364) (j := p + 1) dL_law_363 rfl (am_ix_nI (by omega)) e1 ?_
  refine aw_aload_n (npc := 365) rfl dL_law_364 rfl ?_
  refine aw_iload_n (npc := 366) rfl dL_law_365 rfl ?_
  refine aw_iconst (npc := 367) (v := nI 2) (by decide) dL_law_366 rfl ?_
  refine aw_iaddV (npc := 368) (v := nI (p + 2)) dL_law_367 rfl (nI_add p 2) ?_
  refine aw_script_ld (npc := 369) (j := p + 2) dL_law_368 rfl (am_ix_nI (by omega)) e2 ?_
  refine aw_aload_n (npc := 370) rfl dL_law_369 rfl ?_
  refine aw_iload_n (npc := 371) rfl dL_law_370 rfl ?_
  refine aw_iconst (npc := 372) (v := nI 3) (by decide) dL_law_371 rfl ?_
  refine aw_iaddV (npc := 373) (v := nI (p + 3)) dL_law_372 rfl (nI_add p 3) ?_
  refine aw_script_ld (npc := 374) (j := p + 3) dL_law_373 rfl (am_ix_nI (by omega)) e3 ?_
  refine aw_callV (npc := 377) (N := mX7_set) (b := 0) (mc := 3) (ms := 200) (A := [.int x1, .int x2, .int x3]) (S := []) (L0 := [some (.ref 0), some (.int x1), some (.int x2), some (.int x3), none]) dL_law_374 rfl km_X7_set kk_L_31 hb7 ⟨by decide, rfl⟩ rfl ⟨rfl, by decide⟩ rfl (Nat.le_of_ble_eq_true rfl) (Nat.add_comm _ _) (Nat.add_comm _ _) rfl ?_
  refine st_set (d := 199) H (fun v1 h1 hm => ?_)
  obtain ⟨⟨fs8, hb8⟩, hm⟩ := hm
  refine aw_re (S' := [.int v1]) rfl ?_
  refine aw_pop (npc := 378) rfl dL_law_377 rfl ?_
  refine aw_aload_n (npc := 379) rfl dL_law_378 rfl ?_
  refine aw_aload_n (npc := 380) rfl dL_law_379 rfl ?_
  refine aw_iload_n (npc := 381) rfl dL_law_380 rfl ?_
  refine aw_iconst (npc := 382) (v := nI 1) (by decide) dL_law_381 rfl ?_
  refine aw_iaddV (npc := 383) (v := nI (p + 1)) dL_law_382 rfl (nI_add p 1) ?_
  refine aw_script_ld (npc := 384) (j := p + 1) dL_law_383 rfl (am_ix_nI (by omega)) e1 ?_
  refine aw_aload_n (npc := 385) rfl dL_law_384 rfl ?_
  refine aw_iload_n (npc := 386) rfl dL_law_385 rfl ?_
  refine aw_iconst (npc := 387) (v := nI 2) (by decide) dL_law_386 rfl ?_
  refine aw_iaddV (npc := 388) (v := nI (p + 2)) dL_law_387 rfl (nI_add p 2) ?_
  refine aw_script_ld (npc := 389) (j := p + 2) dL_law_388 rfl (am_ix_nI (by omega)) e2 ?_
  refine aw_aload_n (npc := 390) rfl dL_law_389 rfl ?_
  refine aw_iload_n (npc := 391) rfl dL_law_390 rfl ?_
  refine aw_iconst (npc := 392) (v := nI 3) (by decide) dL_law_391 rfl ?_
  refine aw_iaddV (npc := 393) (v := nI (p + 3)) dL_law_392 rfl (nI_add p 3) ?_
  refine aw_script_ld (npc := 394) (j := p + 3) dL_law_393 rfl (am_ix_nI (by omega)) e3 ?_
  refine aw_callV (npc := 397) (N := mX8_set) (b := 69) (mc := 0) (ms := 0) (A := [.int x1, .int x2, .int x3]) (S := []) (L0 := [some (.ref 69), some (.int x1), some (.int x2), some (.int x3)]) dL_law_394 rfl km_X8_set kk_L_34 hb8 ⟨by decide, rfl⟩ rfl ⟨rfl, by decide⟩ rfl (Nat.le_of_ble_eq_true rfl) (Nat.zero_add _) (Nat.zero_add _) rfl ?_
  refine hm 899 _ _ _ (fun h2 H2 => ?_)
  refine aw_re (S' := [.int v1]) rfl ?_
  refine aw_pop (npc := 398) rfl dL_law_397 rfl ?_
  refine aw_goto (npc := 1452) dL_law_398 (by decide) ?_
  exact kk T _ (Nat.le_succ T) H2
set_option maxRecDepth 100000 in
theorem lw_c5 {X : List Int32} {p rc rs T : Nat} {h : am_H} {x1 x2 x3 x4 x5 : Int32} (H : LI T h) (hT : T < 1000) (hp : p < 10000) (e1 : X[p + 1]? = some x1) (e2 : X[p + 2]? = some x2) (e3 : X[p + 3]? = some x3) (e4 : X[p + 4]? = some x4) (e5 : X[p + 5]? = some x5) (kk : ∀ T9 h9, T9 ≤ T + 1 → LI T9 h9 → AW X mLaw 1000 rc rs 1452 [some (.ref 1000000), some (.ref 0), some (.ref 69), some (.int (nI p))] [] (92 + 3 * T9) h9 (fun r _ _ => r = some (.int 1))) : AW X mLaw 1000 (rc + 3) (rs + 200) 401 [some (.ref 1000000), some (.ref 0), some (.ref 69), some (.int (nI p))] [] (92 + 3 * T) h (fun r _ _ => r = some (.int 1)) := by
  obtain ⟨fs7, hb7⟩ := li_7 H
  refine aw_aload_n (npc := 402) rfl dL_law_401 rfl ?_
  refine aw_aload_n (npc := 403) rfl dL_law_402 rfl ?_
  refine aw_iload_n (npc := 404) rfl dL_law_403 rfl ?_
  refine aw_iconst (npc := 405) (v := nI 1) (by decide) dL_law_404 rfl ?_
  refine aw_iaddV (npc := 406) (v := nI (p + 1)) dL_law_405 rfl (nI_add p 1) ?_
  refine aw_script_ld (npc := 407) (j := p + 1) dL_law_406 rfl (am_ix_nI (by omega)) e1 ?_
  refine aw_aload_n (npc := 408) rfl dL_law_407 rfl ?_
  refine aw_iload_n (npc := 409) rfl dL_law_408 rfl ?_
  refine aw_iconst (npc := 410) (v := nI 2) (by decide) dL_law_409 rfl ?_
  refine aw_iaddV (npc := 411) (v := nI (p + 2)) dL_law_410 rfl (nI_add p 2) ?_
  refine aw_script_ld (npc := 412) (j := p + 2) dL_law_411 rfl (am_ix_nI (by omega)) e2 ?_
  refine aw_callV (npc := 415) (N := mX7_stand) (b := 0) (mc := 3) (ms := 200) (A := [.int x1, .int x2]) (S := []) (L0 := [some (.ref 0), some (.int x1), some (.int x2), none]) dL_law_412 rfl km_X7_stand kk_L_35 hb7 ⟨by decide, rfl⟩ rfl ⟨rfl, by decide⟩ rfl (Nat.le_of_ble_eq_true rfl) (Nat.add_comm _ _) (Nat.add_comm _ _) rfl ?_
  refine st_stand (d := 199) H (fun v1 h1 hm => ?_)
  obtain ⟨⟨fs8, hb8⟩, hm⟩ := hm
  refine aw_re (S' := [.int v1]) rfl ?_
  refine aw_pop (npc := 416) rfl dL_law_415 rfl ?_
  refine aw_aload_n (npc := 417) rfl dL_law_416 rfl ?_
  refine aw_aload_n (npc := 418) rfl dL_law_417 rfl ?_
  refine aw_iload_n (npc := 419) rfl dL_law_418 rfl ?_
  refine aw_iconst (npc := 420) (v := nI 1) (by decide) dL_law_419 rfl ?_
  refine aw_iaddV (npc := 421) (v := nI (p + 1)) dL_law_420 rfl (nI_add p 1) ?_
  refine aw_script_ld (npc := 422) (j := p + 1) dL_law_421 rfl (am_ix_nI (by omega)) e1 ?_
  refine aw_aload_n (npc := 423) rfl dL_law_422 rfl ?_
  refine aw_iload_n (npc := 424) rfl dL_law_423 rfl ?_
  refine aw_iconst (npc := 425) (v := nI 2) (by decide) dL_law_424 rfl ?_
  refine aw_iaddV (npc := 426) (v := nI (p + 2)) dL_law_425 rfl (nI_add p 2) ?_
  refine aw_script_ld (npc := 427) (j := p + 2) dL_law_426 rfl (am_ix_nI (by omega)) e2 ?_
  refine aw_callV (npc := 430) (N := mX8_stand) (b := 69) (mc := 0) (ms := 0) (A := [.int x1, .int x2]) (S := []) (L0 := [some (.ref 69), some (.int x1), some (.int x2)]) dL_law_427 rfl km_X8_stand kk_L_38 hb8 ⟨by decide, rfl⟩ rfl ⟨rfl, by decide⟩ rfl (Nat.le_of_ble_eq_true rfl) (Nat.zero_add _) (Nat.zero_add _) rfl ?_
  refine hm 899 _ _ _ (fun h2 H2 => ?_)
  refine aw_re (S' := [.int v1]) rfl ?_
  refine aw_pop (npc := 431) rfl dL_law_430 rfl ?_
  refine aw_goto (npc := 1452) dL_law_431 (by decide) ?_
  exact kk T _ (Nat.le_succ T) H2
set_option maxRecDepth 100000 in
theorem lw_c6 {X : List Int32} {p rc rs T : Nat} {h : am_H} {x1 x2 x3 x4 x5 : Int32} (H : LI T h) (hT : T < 1000) (hp : p < 10000) (e1 : X[p + 1]? = some x1) (e2 : X[p + 2]? = some x2) (e3 : X[p + 3]? = some x3) (e4 : X[p + 4]? = some x4) (e5 : X[p + 5]? = some x5) (kk : ∀ T9 h9, T9 ≤ T + 1 → LI T9 h9 → AW X mLaw 1000 rc rs 1452 [some (.ref 1000000), some (.ref 0), some (.ref 69), some (.int (nI p))] [] (92 + 3 * T9) h9 (fun r _ _ => r = some (.int 1))) : AW X mLaw 1000 (rc + 3) (rs + 200) 434 [some (.ref 1000000), some (.ref 0), some (.ref 69), some (.int (nI p))] [] (92 + 3 * T) h (fun r _ _ => r = some (.int 1)) := by
  obtain ⟨fs7, hb7⟩ := li_7 H
  refine aw_aload_n (npc := 435) rfl dL_law_434 rfl ?_
  refine aw_aload_n (npc := 436) rfl dL_law_435 rfl ?_
  refine aw_iload_n (npc := 437) rfl dL_law_436 rfl ?_
  refine aw_iconst (npc := 438) (v := nI 1) (by decide) dL_law_437 rfl ?_
  refine aw_iaddV (npc := 439) (v := nI (p + 1)) dL_law_438 rfl (nI_add p 1) ?_
  refine aw_script_ld (npc := 440) (j := p + 1) dL_law_439 rfl (am_ix_nI (by omega)) e1 ?_
  refine aw_aload_n (npc := 441) rfl dL_law_440 rfl ?_
  refine aw_iload_n (npc := 442) rfl dL_law_441 rfl ?_
  refine aw_iconst (npc := 443) (v := nI 2) (by decide) dL_law_442 rfl ?_
  refine aw_iaddV (npc := 444) (v := nI (p + 2)) dL_law_443 rfl (nI_add p 2) ?_
  refine aw_script_ld (npc := 445) (j := p + 2) dL_law_444 rfl (am_ix_nI (by omega)) e2 ?_
  refine aw_aload_n (npc := 446) rfl dL_law_445 rfl ?_
  refine aw_iload_n (npc := 447) rfl dL_law_446 rfl ?_
  refine aw_iconst (npc := 448) (v := nI 3) (by decide) dL_law_447 rfl ?_
  refine aw_iaddV (npc := 449) (v := nI (p + 3)) dL_law_448 rfl (nI_add p 3) ?_
  refine aw_script_ld (npc := 450) (j := p + 3) dL_law_449 rfl (am_ix_nI (by omega)) e3 ?_
  refine aw_callV (npc := 453) (N := mX7_care) (b := 0) (mc := 3) (ms := 200) (A := [.int x1, .int x2, .int x3]) (S := []) (L0 := [some (.ref 0), some (.int x1), some (.int x2), some (.int x3), none]) dL_law_450 rfl km_X7_care kk_L_39 hb7 ⟨by decide, rfl⟩ rfl ⟨rfl, by decide⟩ rfl (Nat.le_of_ble_eq_true rfl) (Nat.add_comm _ _) (Nat.add_comm _ _) rfl ?_
  refine st_care (d := 199) H (fun v1 h1 hm => ?_)
  obtain ⟨⟨fs8, hb8⟩, hm⟩ := hm
  refine aw_re (S' := [.int v1]) rfl ?_
  refine aw_pop (npc := 454) rfl dL_law_453 rfl ?_
  refine aw_aload_n (npc := 455) rfl dL_law_454 rfl ?_
  refine aw_aload_n (npc := 456) rfl dL_law_455 rfl ?_
  refine aw_iload_n (npc := 457) rfl dL_law_456 rfl ?_
  refine aw_iconst (npc := 458) (v := nI 1) (by decide) dL_law_457 rfl ?_
  refine aw_iaddV (npc := 459) (v := nI (p + 1)) dL_law_458 rfl (nI_add p 1) ?_
  refine aw_script_ld (npc := 460) (j := p + 1) dL_law_459 rfl (am_ix_nI (by omega)) e1 ?_
  refine aw_aload_n (npc := 461) rfl dL_law_460 rfl ?_
  refine aw_iload_n (npc := 462) rfl dL_law_461 rfl ?_
  refine aw_iconst (npc := 463) (v := nI 2) (by decide) dL_law_462 rfl ?_
  refine aw_iaddV (npc := 464) (v := nI (p + 2)) dL_law_463 rfl (nI_add p 2) ?_
  refine aw_script_ld (npc := 465) (j := p + 2) dL_law_464 rfl (am_ix_nI (by omega)) e2 ?_
  refine aw_aload_n (npc := 466) rfl dL_law_465 rfl ?_
  refine aw_iload_n (npc := 467) rfl dL_law_466 rfl ?_
  refine aw_iconst (npc := 468) (v := nI 3) (by decide) dL_law_467 rfl ?_
  refine aw_iaddV (npc := 469) (v := nI (p + 3)) dL_law_468 rfl (nI_add p 3) ?_
  refine aw_script_ld (npc := 470) (j := p + 3) dL_law_469 rfl (am_ix_nI (by omega)) e3 ?_
  refine aw_callV (npc := 473) (N := mX8_care) (b := 69) (mc := 0) (ms := 0) (A := [.int x1, .int x2, .int x3]) (S := []) (L0 := [some (.ref 69), some (.int x1), some (.int x2), some (.int x3)]) dL_law_470 rfl km_X8_care kk_L_42 hb8 ⟨by decide, rfl⟩ rfl ⟨rfl, by decide⟩ rfl (Nat.le_of_ble_eq_true rfl) (Nat.zero_add _) (Nat.zero_add _) rfl ?_
  refine hm 899 _ _ _ (fun h2 H2 => ?_)
  refine aw_re (S' := [.int v1]) rfl ?_
  refine aw_pop (npc := 474) rfl dL_law_473 rfl ?_
  refine aw_goto (npc := 1452) dL_law_474 (by decide) ?_
  exact kk T _ (Nat.le_succ T) H2
set_option maxRecDepth 100000 in
theorem lw_c7 {X : List Int32} {p rc rs T : Nat} {h : am_H} {x1 x2 x3 x4 x5 : Int32} (H : LI T h) (hT : T < 1000) (hp : p < 10000) (e1 : X[p + 1]? = some x1) (e2 : X[p + 2]? = some x2) (e3 : X[p + 3]? = some x3) (e4 : X[p + 4]? = some x4) (e5 : X[p + 5]? = some x5) (kk : ∀ T9 h9, T9 ≤ T + 1 → LI T9 h9 → AW X mLaw 1000 rc rs 1452 [some (.ref 1000000), some (.ref 0), some (.ref 69), some (.int (nI p))] [] (92 + 3 * T9) h9 (fun r _ _ => r = some (.int 1))) : AW X mLaw 1000 (rc + 3) (rs + 200) 477 [some (.ref 1000000), some (.ref 0), some (.ref 69), some (.int (nI p))] [] (92 + 3 * T) h (fun r _ _ => r = some (.int 1)) := by
  obtain ⟨fs7, hb7⟩ := li_7 H
  refine aw_aload_n (npc := 478) rfl dL_law_477 rfl ?_
  refine aw_aload_n (npc := 479) rfl dL_law_478 rfl ?_
  refine aw_iload_n (npc := 480) rfl dL_law_479 rfl ?_
  refine aw_iconst (npc := 481) (v := nI 1) (by decide) dL_law_480 rfl ?_
  refine aw_iaddV (npc := 482) (v := nI (p + 1)) dL_law_481 rfl (nI_add p 1) ?_
  refine aw_script_ld (npc := 483) (j := p + 1) dL_law_482 rfl (am_ix_nI (by omega)) e1 ?_
  refine aw_aload_n (npc := 484) rfl dL_law_483 rfl ?_
  refine aw_iload_n (npc := 485) rfl dL_law_484 rfl ?_
  refine aw_iconst (npc := 486) (v := nI 2) (by decide) dL_law_485 rfl ?_
  refine aw_iaddV (npc := 487) (v := nI (p + 2)) dL_law_486 rfl (nI_add p 2) ?_
  refine aw_script_ld (npc := 488) (j := p + 2) dL_law_487 rfl (am_ix_nI (by omega)) e2 ?_
  refine aw_callV (npc := 491) (N := mX7_honour) (b := 0) (mc := 3) (ms := 200) (A := [.int x1, .int x2]) (S := []) (L0 := [some (.ref 0), some (.int x1), some (.int x2), none]) dL_law_488 rfl km_X7_honour kk_L_43 hb7 ⟨by decide, rfl⟩ rfl ⟨rfl, by decide⟩ rfl (Nat.le_of_ble_eq_true rfl) (Nat.add_comm _ _) (Nat.add_comm _ _) rfl ?_
  refine st_honour (d := 199) H (fun v1 h1 hm => ?_)
  obtain ⟨⟨fs8, hb8⟩, hm⟩ := hm
  refine aw_re (S' := [.int v1]) rfl ?_
  refine aw_pop (npc := 492) rfl dL_law_491 rfl ?_
  refine aw_aload_n (npc := 493) rfl dL_law_492 rfl ?_
  refine aw_aload_n (npc := 494) rfl dL_law_493 rfl ?_
  refine aw_iload_n (npc := 495) rfl dL_law_494 rfl ?_
  refine aw_iconst (npc := 496) (v := nI 1) (by decide) dL_law_495 rfl ?_
  refine aw_iaddV (npc := 497) (v := nI (p + 1)) dL_law_496 rfl (nI_add p 1) ?_
  refine aw_script_ld (npc := 498) (j := p + 1) dL_law_497 rfl (am_ix_nI (by omega)) e1 ?_
  refine aw_aload_n (npc := 499) rfl dL_law_498 rfl ?_
  refine aw_iload_n (npc := 500) rfl dL_law_499 rfl ?_
  refine aw_iconst (npc := 501) (v := nI 2) (by decide) dL_law_500 rfl ?_
  refine aw_iaddV (npc := 502) (v := nI (p + 2)) dL_law_501 rfl (nI_add p 2) ?_
  refine aw_script_ld (npc := 503) (j := p + 2) dL_law_502 rfl (am_ix_nI (by omega)) e2 ?_
  refine aw_callV (npc := 506) (N := mX8_honour) (b := 69) (mc := 0) (ms := 0) (A := [.int x1, .int x2]) (S := []) (L0 := [some (.ref 69), some (.int x1), some (.int x2)]) dL_law_503 rfl km_X8_honour kk_L_46 hb8 ⟨by decide, rfl⟩ rfl ⟨rfl, by decide⟩ rfl (Nat.le_of_ble_eq_true rfl) (Nat.zero_add _) (Nat.zero_add _) rfl ?_
  refine hm 899 _ _ _ (fun h2 H2 => ?_)
  refine aw_re (S' := [.int v1]) rfl ?_
  refine aw_pop (npc := 507) rfl dL_law_506 rfl ?_
  refine aw_goto (npc := 1452) dL_law_507 (by decide) ?_
  exact kk T _ (Nat.le_succ T) H2
set_option maxRecDepth 100000 in
theorem lw_c8 {X : List Int32} {p rc rs T : Nat} {h : am_H} {x1 x2 x3 x4 x5 : Int32} (H : LI T h) (hT : T < 1000) (hp : p < 10000) (e1 : X[p + 1]? = some x1) (e2 : X[p + 2]? = some x2) (e3 : X[p + 3]? = some x3) (e4 : X[p + 4]? = some x4) (e5 : X[p + 5]? = some x5) (kk : ∀ T9 h9, T9 ≤ T + 1 → LI T9 h9 → AW X mLaw 1000 rc rs 1452 [some (.ref 1000000), some (.ref 0), some (.ref 69), some (.int (nI p))] [] (92 + 3 * T9) h9 (fun r _ _ => r = some (.int 1))) : AW X mLaw 1000 (rc + 3) (rs + 200) 510 [some (.ref 1000000), some (.ref 0), some (.ref 69), some (.int (nI p))] [] (92 + 3 * T) h (fun r _ _ => r = some (.int 1)) := by
  obtain ⟨fs7, hb7⟩ := li_7 H
  refine aw_aload_n (npc := 511) rfl dL_law_510 rfl ?_
  refine aw_aload_n (npc := 512) rfl dL_law_511 rfl ?_
  refine aw_iload_n (npc := 513) rfl dL_law_512 rfl ?_
  refine aw_iconst (npc := 514) (v := nI 1) (by decide) dL_law_513 rfl ?_
  refine aw_iaddV (npc := 515) (v := nI (p + 1)) dL_law_514 rfl (nI_add p 1) ?_
  refine aw_script_ld (npc := 516) (j := p + 1) dL_law_515 rfl (am_ix_nI (by omega)) e1 ?_
  refine aw_aload_n (npc := 517) rfl dL_law_516 rfl ?_
  refine aw_iload_n (npc := 518) rfl dL_law_517 rfl ?_
  refine aw_iconst (npc := 519) (v := nI 2) (by decide) dL_law_518 rfl ?_
  refine aw_iaddV (npc := 520) (v := nI (p + 2)) dL_law_519 rfl (nI_add p 2) ?_
  refine aw_script_ld (npc := 521) (j := p + 2) dL_law_520 rfl (am_ix_nI (by omega)) e2 ?_
  refine aw_callV (npc := 524) (N := mX7_rule) (b := 0) (mc := 3) (ms := 200) (A := [.int x1, .int x2]) (S := []) (L0 := [some (.ref 0), some (.int x1), some (.int x2), none]) dL_law_521 rfl km_X7_rule kk_L_47 hb7 ⟨by decide, rfl⟩ rfl ⟨rfl, by decide⟩ rfl (Nat.le_of_ble_eq_true rfl) (Nat.add_comm _ _) (Nat.add_comm _ _) rfl ?_
  refine st_rule (d := 199) H (fun v1 h1 hm => ?_)
  obtain ⟨⟨fs8, hb8⟩, hm⟩ := hm
  refine aw_re (S' := [.int v1]) rfl ?_
  refine aw_pop (npc := 525) rfl dL_law_524 rfl ?_
  refine aw_aload_n (npc := 526) rfl dL_law_525 rfl ?_
  refine aw_aload_n (npc := 527) rfl dL_law_526 rfl ?_
  refine aw_iload_n (npc := 528) rfl dL_law_527 rfl ?_
  refine aw_iconst (npc := 529) (v := nI 1) (by decide) dL_law_528 rfl ?_
  refine aw_iaddV (npc := 530) (v := nI (p + 1)) dL_law_529 rfl (nI_add p 1) ?_
  refine aw_script_ld (npc := 531) (j := p + 1) dL_law_530 rfl (am_ix_nI (by omega)) e1 ?_
  refine aw_aload_n (npc := 532) rfl dL_law_531 rfl ?_
  refine aw_iload_n (npc := 533) rfl dL_law_532 rfl ?_
  refine aw_iconst (npc := 534) (v := nI 2) (by decide) dL_law_533 rfl ?_
  refine aw_iaddV (npc := 535) (v := nI (p + 2)) dL_law_534 rfl (nI_add p 2) ?_
  refine aw_script_ld (npc := 536) (j := p + 2) dL_law_535 rfl (am_ix_nI (by omega)) e2 ?_
  refine aw_callV (npc := 539) (N := mX8_rule) (b := 69) (mc := 0) (ms := 0) (A := [.int x1, .int x2]) (S := []) (L0 := [some (.ref 69), some (.int x1), some (.int x2)]) dL_law_536 rfl km_X8_rule kk_L_50 hb8 ⟨by decide, rfl⟩ rfl ⟨rfl, by decide⟩ rfl (Nat.le_of_ble_eq_true rfl) (Nat.zero_add _) (Nat.zero_add _) rfl ?_
  refine hm 899 _ _ _ (fun h2 H2 => ?_)
  refine aw_re (S' := [.int v1]) rfl ?_
  refine aw_pop (npc := 540) rfl dL_law_539 rfl ?_
  refine aw_goto (npc := 1452) dL_law_540 (by decide) ?_
  exact kk T _ (Nat.le_succ T) H2
set_option maxRecDepth 100000 in
theorem lw_c9 {X : List Int32} {p rc rs T : Nat} {h : am_H} {x1 x2 x3 x4 x5 : Int32} (H : LI T h) (hT : T < 1000) (hp : p < 10000) (e1 : X[p + 1]? = some x1) (e2 : X[p + 2]? = some x2) (e3 : X[p + 3]? = some x3) (e4 : X[p + 4]? = some x4) (e5 : X[p + 5]? = some x5) (kk : ∀ T9 h9, T9 ≤ T + 1 → LI T9 h9 → AW X mLaw 1000 rc rs 1452 [some (.ref 1000000), some (.ref 0), some (.ref 69), some (.int (nI p))] [] (92 + 3 * T9) h9 (fun r _ _ => r = some (.int 1))) : AW X mLaw 1000 (rc + 3) (rs + 200) 543 [some (.ref 1000000), some (.ref 0), some (.ref 69), some (.int (nI p))] [] (92 + 3 * T) h (fun r _ _ => r = some (.int 1)) := by
  obtain ⟨fs7, hb7⟩ := li_7 H
  refine aw_aload_n (npc := 544) rfl dL_law_543 rfl ?_
  refine aw_aload_n (npc := 545) rfl dL_law_544 rfl ?_
  refine aw_iload_n (npc := 546) rfl dL_law_545 rfl ?_
  refine aw_iconst (npc := 547) (v := nI 1) (by decide) dL_law_546 rfl ?_
  refine aw_iaddV (npc := 548) (v := nI (p + 1)) dL_law_547 rfl (nI_add p 1) ?_
  refine aw_script_ld (npc := 549) (j := p + 1) dL_law_548 rfl (am_ix_nI (by omega)) e1 ?_
  refine aw_callV (npc := 552) (N := mX7_deal) (b := 0) (mc := 3) (ms := 200) (A := [.int x1]) (S := []) (L0 := [some (.ref 0), some (.int x1), none, none, none, none, none]) dL_law_549 rfl km_X7_deal kk_L_51 hb7 ⟨by decide, rfl⟩ rfl ⟨rfl, by decide⟩ rfl (Nat.le_of_ble_eq_true rfl) (Nat.add_comm _ _) (Nat.add_comm _ _) rfl ?_
  refine st_deal (d := 199) H (fun v1 h1 hm => ?_)
  obtain ⟨⟨fs8, hb8⟩, hm⟩ := hm
  refine aw_re (S' := [.int v1]) rfl ?_
  refine aw_pop (npc := 553) rfl dL_law_552 rfl ?_
  refine aw_aload_n (npc := 554) rfl dL_law_553 rfl ?_
  refine aw_aload_n (npc := 555) rfl dL_law_554 rfl ?_
  refine aw_iload_n (npc := 556) rfl dL_law_555 rfl ?_
  refine aw_iconst (npc := 557) (v := nI 1) (by decide) dL_law_556 rfl ?_
  refine aw_iaddV (npc := 558) (v := nI (p + 1)) dL_law_557 rfl (nI_add p 1) ?_
  refine aw_script_ld (npc := 559) (j := p + 1) dL_law_558 rfl (am_ix_nI (by omega)) e1 ?_
  refine aw_callV (npc := 562) (N := mX8_deal) (b := 69) (mc := 0) (ms := 0) (A := [.int x1]) (S := []) (L0 := [some (.ref 69), some (.int x1), none, none, none, none]) dL_law_559 rfl km_X8_deal kk_L_55 hb8 ⟨by decide, rfl⟩ rfl ⟨rfl, by decide⟩ rfl (Nat.le_of_ble_eq_true rfl) (Nat.zero_add _) (Nat.zero_add _) rfl ?_
  refine hm 899 _ _ _ (fun h2 H2 => ?_)
  refine aw_re (S' := [.int v1]) rfl ?_
  refine aw_pop (npc := 563) rfl dL_law_562 rfl ?_
  refine aw_goto (npc := 1452) dL_law_563 (by decide) ?_
  exact kk T _ (Nat.le_succ T) H2
set_option maxRecDepth 100000 in
theorem lw_c10 {X : List Int32} {p rc rs T : Nat} {h : am_H} {x1 x2 x3 x4 x5 : Int32} (H : LI T h) (hT : T < 1000) (hp : p < 10000) (e1 : X[p + 1]? = some x1) (e2 : X[p + 2]? = some x2) (e3 : X[p + 3]? = some x3) (e4 : X[p + 4]? = some x4) (e5 : X[p + 5]? = some x5) (kk : ∀ T9 h9, T9 ≤ T + 1 → LI T9 h9 → AW X mLaw 1000 rc rs 1452 [some (.ref 1000000), some (.ref 0), some (.ref 69), some (.int (nI p))] [] (92 + 3 * T9) h9 (fun r _ _ => r = some (.int 1))) : AW X mLaw 1000 (rc + 3) (rs + 200) 566 [some (.ref 1000000), some (.ref 0), some (.ref 69), some (.int (nI p))] [] (92 + 3 * T) h (fun r _ _ => r = some (.int 1)) := by
  obtain ⟨fs7, hb7⟩ := li_7 H
  refine aw_aload_n (npc := 567) rfl dL_law_566 rfl ?_
  refine aw_aload_n (npc := 568) rfl dL_law_567 rfl ?_
  refine aw_iload_n (npc := 569) rfl dL_law_568 rfl ?_
  refine aw_iconst (npc := 570) (v := nI 1) (by decide) dL_law_569 rfl ?_
  refine aw_iaddV (npc := 571) (v := nI (p + 1)) dL_law_570 rfl (nI_add p 1) ?_
  refine aw_script_ld (npc := 572) (j := p + 1) dL_law_571 rfl (am_ix_nI (by omega)) e1 ?_
  refine aw_callV (npc := 575) (N := mX7_seed) (b := 0) (mc := 3) (ms := 200) (A := [.int x1]) (S := []) (L0 := [some (.ref 0), some (.int x1), none]) dL_law_572 rfl km_X7_seed kk_L_56 hb7 ⟨by decide, rfl⟩ rfl ⟨rfl, by decide⟩ rfl (Nat.le_of_ble_eq_true rfl) (Nat.add_comm _ _) (Nat.add_comm _ _) rfl ?_
  refine st_seed (d := 199) H (fun v1 h1 hm => ?_)
  obtain ⟨⟨fs8, hb8⟩, hm⟩ := hm
  refine aw_re (S' := [.int v1]) rfl ?_
  refine aw_pop (npc := 576) rfl dL_law_575 rfl ?_
  refine aw_aload_n (npc := 577) rfl dL_law_576 rfl ?_
  refine aw_aload_n (npc := 578) rfl dL_law_577 rfl ?_
  refine aw_iload_n (npc := 579) rfl dL_law_578 rfl ?_
  refine aw_iconst (npc := 580) (v := nI 1) (by decide) dL_law_579 rfl ?_
  refine aw_iaddV (npc := 581) (v := nI (p + 1)) dL_law_580 rfl (nI_add p 1) ?_
  refine aw_script_ld (npc := 582) (j := p + 1) dL_law_581 rfl (am_ix_nI (by omega)) e1 ?_
  refine aw_callV (npc := 585) (N := mX8_seed) (b := 69) (mc := 0) (ms := 0) (A := [.int x1]) (S := []) (L0 := [some (.ref 69), some (.int x1)]) dL_law_582 rfl km_X8_seed kk_L_59 hb8 ⟨by decide, rfl⟩ rfl ⟨rfl, by decide⟩ rfl (Nat.le_of_ble_eq_true rfl) (Nat.zero_add _) (Nat.zero_add _) rfl ?_
  refine hm 899 _ _ _ (fun h2 H2 => ?_)
  refine aw_re (S' := [.int v1]) rfl ?_
  refine aw_pop (npc := 586) rfl dL_law_585 rfl ?_
  refine aw_goto (npc := 1452) dL_law_586 (by decide) ?_
  exact kk T _ (Nat.le_succ T) H2
set_option maxRecDepth 100000 in
theorem lw_c11 {X : List Int32} {p rc rs T : Nat} {h : am_H} {x1 x2 x3 x4 x5 : Int32} (H : LI T h) (hT : T < 1000) (hp : p < 10000) (e1 : X[p + 1]? = some x1) (e2 : X[p + 2]? = some x2) (e3 : X[p + 3]? = some x3) (e4 : X[p + 4]? = some x4) (e5 : X[p + 5]? = some x5) (kk : ∀ T9 h9, T9 ≤ T + 1 → LI T9 h9 → AW X mLaw 1000 rc rs 1452 [some (.ref 1000000), some (.ref 0), some (.ref 69), some (.int (nI p))] [] (92 + 3 * T9) h9 (fun r _ _ => r = some (.int 1))) : AW X mLaw 1000 (rc + 3) (rs + 200) 589 [some (.ref 1000000), some (.ref 0), some (.ref 69), some (.int (nI p))] [] (92 + 3 * T) h (fun r _ _ => r = some (.int 1)) := by
  obtain ⟨fs7, hb7⟩ := li_7 H
  refine aw_aload_n (npc := 590) rfl dL_law_589 rfl ?_
  refine aw_aload_n (npc := 591) rfl dL_law_590 rfl ?_
  refine aw_iload_n (npc := 592) rfl dL_law_591 rfl ?_
  refine aw_iconst (npc := 593) (v := nI 1) (by decide) dL_law_592 rfl ?_
  refine aw_iaddV (npc := 594) (v := nI (p + 1)) dL_law_593 rfl (nI_add p 1) ?_
  refine aw_script_ld (npc := 595) (j := p + 1) dL_law_594 rfl (am_ix_nI (by omega)) e1 ?_
  refine aw_callV (npc := 598) (N := mX7_posts) (b := 0) (mc := 3) (ms := 200) (A := [.int x1]) (S := []) (L0 := [some (.ref 0), some (.int x1)]) dL_law_595 rfl km_X7_posts kk_L_60 hb7 ⟨by decide, rfl⟩ rfl ⟨rfl, by decide⟩ rfl (Nat.le_of_ble_eq_true rfl) (Nat.add_comm _ _) (Nat.add_comm _ _) rfl ?_
  refine st_posts (d := 199) H (fun v1 h1 hm => ?_)
  obtain ⟨⟨fs8, hb8⟩, hm⟩ := hm
  refine aw_re (S' := [.int v1]) rfl ?_
  refine aw_pop (npc := 599) rfl dL_law_598 rfl ?_
  refine aw_aload_n (npc := 600) rfl dL_law_599 rfl ?_
  refine aw_aload_n (npc := 601) rfl dL_law_600 rfl ?_
  refine aw_iload_n (npc := 602) rfl dL_law_601 rfl ?_
  refine aw_iconst (npc := 603) (v := nI 1) (by decide) dL_law_602 rfl ?_
  refine aw_iaddV (npc := 604) (v := nI (p + 1)) dL_law_603 rfl (nI_add p 1) ?_
  refine aw_script_ld (npc := 605) (j := p + 1) dL_law_604 rfl (am_ix_nI (by omega)) e1 ?_
  refine aw_callV (npc := 608) (N := mX8_posts) (b := 69) (mc := 0) (ms := 0) (A := [.int x1]) (S := []) (L0 := [some (.ref 69), some (.int x1), none]) dL_law_605 rfl km_X8_posts kk_L_63 hb8 ⟨by decide, rfl⟩ rfl ⟨rfl, by decide⟩ rfl (Nat.le_of_ble_eq_true rfl) (Nat.zero_add _) (Nat.zero_add _) rfl ?_
  refine hm 899 _ _ _ (fun h2 H2 => ?_)
  refine aw_re (S' := [.int v1]) rfl ?_
  refine aw_pop (npc := 609) rfl dL_law_608 rfl ?_
  refine aw_goto (npc := 1452) dL_law_609 (by decide) ?_
  exact kk T _ (Nat.le_succ T) H2
set_option maxRecDepth 100000 in
theorem lw_c12 {X : List Int32} {p rc rs T : Nat} {h : am_H} {x1 x2 x3 x4 x5 : Int32} (H : LI T h) (hT : T < 1000) (hp : p < 10000) (e1 : X[p + 1]? = some x1) (e2 : X[p + 2]? = some x2) (e3 : X[p + 3]? = some x3) (e4 : X[p + 4]? = some x4) (e5 : X[p + 5]? = some x5) (kk : ∀ T9 h9, T9 ≤ T + 1 → LI T9 h9 → AW X mLaw 1000 rc rs 1452 [some (.ref 1000000), some (.ref 0), some (.ref 69), some (.int (nI p))] [] (92 + 3 * T9) h9 (fun r _ _ => r = some (.int 1))) : AW X mLaw 1000 (rc + 3) (rs + 200) 612 [some (.ref 1000000), some (.ref 0), some (.ref 69), some (.int (nI p))] [] (92 + 3 * T) h (fun r _ _ => r = some (.int 1)) := by
  obtain ⟨fs7, hb7⟩ := li_7 H
  refine aw_aload_n (npc := 613) rfl dL_law_612 rfl ?_
  refine aw_aload_n (npc := 614) rfl dL_law_613 rfl ?_
  refine aw_iload_n (npc := 615) rfl dL_law_614 rfl ?_
  refine aw_iconst (npc := 616) (v := nI 1) (by decide) dL_law_615 rfl ?_
  refine aw_iaddV (npc := 617) (v := nI (p + 1)) dL_law_616 rfl (nI_add p 1) ?_
  refine aw_script_ld (npc := 618) (j := p + 1) dL_law_617 rfl (am_ix_nI (by omega)) e1 ?_
  refine aw_callV (npc := 621) (N := mX7_table) (b := 0) (mc := 3) (ms := 200) (A := [.int x1]) (S := []) (L0 := [some (.ref 0), some (.int x1)]) dL_law_618 rfl km_X7_table kk_L_64 hb7 ⟨by decide, rfl⟩ rfl ⟨rfl, by decide⟩ rfl (Nat.le_of_ble_eq_true rfl) (Nat.add_comm _ _) (Nat.add_comm _ _) rfl ?_
  refine st_table (d := 199) H (fun v1 h1 hm => ?_)
  obtain ⟨⟨fs8, hb8⟩, hm⟩ := hm
  refine aw_re (S' := [.int v1]) rfl ?_
  refine aw_pop (npc := 622) rfl dL_law_621 rfl ?_
  refine aw_aload_n (npc := 623) rfl dL_law_622 rfl ?_
  refine aw_aload_n (npc := 624) rfl dL_law_623 rfl ?_
  refine aw_iload_n (npc := 625) rfl dL_law_624 rfl ?_
  refine aw_iconst (npc := 626) (v := nI 1) (by decide) dL_law_625 rfl ?_
  refine aw_iaddV (npc := 627) (v := nI (p + 1)) dL_law_626 rfl (nI_add p 1) ?_
  refine aw_script_ld (npc := 628) (j := p + 1) dL_law_627 rfl (am_ix_nI (by omega)) e1 ?_
  refine aw_callV (npc := 631) (N := mX8_table) (b := 69) (mc := 0) (ms := 0) (A := [.int x1]) (S := []) (L0 := [some (.ref 69), some (.int x1)]) dL_law_628 rfl km_X8_table kk_L_67 hb8 ⟨by decide, rfl⟩ rfl ⟨rfl, by decide⟩ rfl (Nat.le_of_ble_eq_true rfl) (Nat.zero_add _) (Nat.zero_add _) rfl ?_
  refine hm 899 _ _ _ (fun h2 H2 => ?_)
  refine aw_re (S' := [.int v1]) rfl ?_
  refine aw_pop (npc := 632) rfl dL_law_631 rfl ?_
  refine aw_goto (npc := 1452) dL_law_632 (by decide) ?_
  exact kk T _ (Nat.le_succ T) H2
set_option maxRecDepth 100000 in
theorem lw_c13 {X : List Int32} {p rc rs T : Nat} {h : am_H} {x1 x2 x3 x4 x5 : Int32} (H : LI T h) (hT : T < 1000) (hp : p < 10000) (e1 : X[p + 1]? = some x1) (e2 : X[p + 2]? = some x2) (e3 : X[p + 3]? = some x3) (e4 : X[p + 4]? = some x4) (e5 : X[p + 5]? = some x5) (kk : ∀ T9 h9, T9 ≤ T + 1 → LI T9 h9 → AW X mLaw 1000 rc rs 1452 [some (.ref 1000000), some (.ref 0), some (.ref 69), some (.int (nI p))] [] (92 + 3 * T9) h9 (fun r _ _ => r = some (.int 1))) : AW X mLaw 1000 (rc + 3) (rs + 200) 635 [some (.ref 1000000), some (.ref 0), some (.ref 69), some (.int (nI p))] [] (92 + 3 * T) h (fun r _ _ => r = some (.int 1)) := by
  obtain ⟨fs7, hb7⟩ := li_7 H
  refine aw_aload_n (npc := 636) rfl dL_law_635 rfl ?_
  refine aw_callV (npc := 639) (N := mX7_taken) (b := 0) (mc := 3) (ms := 200) (A := []) (S := []) (L0 := [some (.ref 0)]) dL_law_636 rfl km_X7_taken kk_L_68 hb7 ⟨by decide, rfl⟩ rfl ⟨rfl, by decide⟩ rfl (Nat.le_of_ble_eq_true rfl) (Nat.add_comm _ _) (Nat.add_comm _ _) rfl ?_
  refine st_taken (d := 199) H (fun v1 h1 hm => ?_)
  obtain ⟨⟨fs8, hb8⟩, hm⟩ := hm
  refine aw_re (S' := [.int v1]) rfl ?_
  refine aw_pop (npc := 640) rfl dL_law_639 rfl ?_
  refine aw_aload_n (npc := 641) rfl dL_law_640 rfl ?_
  refine aw_callV (npc := 644) (N := mX8_taken) (b := 69) (mc := 0) (ms := 0) (A := []) (S := []) (L0 := [some (.ref 69), none, none]) dL_law_641 rfl km_X8_taken kk_L_72 hb8 ⟨by decide, rfl⟩ rfl ⟨rfl, by decide⟩ rfl (Nat.le_of_ble_eq_true rfl) (Nat.zero_add _) (Nat.zero_add _) rfl ?_
  refine hm 899 _ _ _ (fun h2 H2 => ?_)
  refine aw_re (S' := [.int v1]) rfl ?_
  refine aw_pop (npc := 645) rfl dL_law_644 rfl ?_
  refine aw_goto (npc := 1452) dL_law_645 (by decide) ?_
  exact kk T _ (Nat.le_succ T) H2
set_option maxRecDepth 100000 in
theorem lw_c14 {X : List Int32} {p rc rs T : Nat} {h : am_H} {x1 x2 x3 x4 x5 : Int32} (H : LI T h) (hT : T < 1000) (hp : p < 10000) (e1 : X[p + 1]? = some x1) (e2 : X[p + 2]? = some x2) (e3 : X[p + 3]? = some x3) (e4 : X[p + 4]? = some x4) (e5 : X[p + 5]? = some x5) (kk : ∀ T9 h9, T9 ≤ T + 1 → LI T9 h9 → AW X mLaw 1000 rc rs 1452 [some (.ref 1000000), some (.ref 0), some (.ref 69), some (.int (nI p))] [] (92 + 3 * T9) h9 (fun r _ _ => r = some (.int 1))) : AW X mLaw 1000 (rc + 3) (rs + 200) 648 [some (.ref 1000000), some (.ref 0), some (.ref 69), some (.int (nI p))] [] (92 + 3 * T) h (fun r _ _ => r = some (.int 1)) := by
  obtain ⟨fs7, hb7⟩ := li_7 H
  refine aw_aload_n (npc := 649) rfl dL_law_648 rfl ?_
  refine aw_aload_n (npc := 650) rfl dL_law_649 rfl ?_
  refine aw_iload_n (npc := 651) rfl dL_law_650 rfl ?_
  refine aw_iconst (npc := 652) (v := nI 1) (by decide) dL_law_651 rfl ?_
  refine aw_iaddV (npc := 653) (v := nI (p + 1)) dL_law_652 rfl (nI_add p 1) ?_
  refine aw_script_ld (npc := 654) (j := p + 1) dL_law_653 rfl (am_ix_nI (by omega)) e1 ?_
  refine aw_callV (npc := 657) (N := mX7_terms) (b := 0) (mc := 3) (ms := 200) (A := [.int x1]) (S := []) (L0 := [some (.ref 0), some (.int x1)]) dL_law_654 rfl km_X7_terms kk_L_73 hb7 ⟨by decide, rfl⟩ rfl ⟨rfl, by decide⟩ rfl (Nat.le_of_ble_eq_true rfl) (Nat.add_comm _ _) (Nat.add_comm _ _) rfl ?_
  refine st_terms (d := 199) H (fun v1 h1 hm => ?_)
  obtain ⟨⟨fs8, hb8⟩, hm⟩ := hm
  refine aw_re (S' := [.int v1]) rfl ?_
  refine aw_pop (npc := 658) rfl dL_law_657 rfl ?_
  refine aw_aload_n (npc := 659) rfl dL_law_658 rfl ?_
  refine aw_aload_n (npc := 660) rfl dL_law_659 rfl ?_
  refine aw_iload_n (npc := 661) rfl dL_law_660 rfl ?_
  refine aw_iconst (npc := 662) (v := nI 1) (by decide) dL_law_661 rfl ?_
  refine aw_iaddV (npc := 663) (v := nI (p + 1)) dL_law_662 rfl (nI_add p 1) ?_
  refine aw_script_ld (npc := 664) (j := p + 1) dL_law_663 rfl (am_ix_nI (by omega)) e1 ?_
  refine aw_callV (npc := 667) (N := mX8_terms) (b := 69) (mc := 0) (ms := 0) (A := [.int x1]) (S := []) (L0 := [some (.ref 69), some (.int x1), none, none, none, none]) dL_law_664 rfl km_X8_terms kk_L_76 hb8 ⟨by decide, rfl⟩ rfl ⟨rfl, by decide⟩ rfl (Nat.le_of_ble_eq_true rfl) (Nat.zero_add _) (Nat.zero_add _) rfl ?_
  refine hm 899 _ _ _ (fun h2 H2 => ?_)
  refine aw_re (S' := [.int v1]) rfl ?_
  refine aw_pop (npc := 668) rfl dL_law_667 rfl ?_
  refine aw_goto (npc := 1452) dL_law_668 (by decide) ?_
  exact kk T _ (Nat.le_succ T) H2
set_option maxRecDepth 100000 in
theorem lw_c15 {X : List Int32} {p rc rs T : Nat} {h : am_H} {x1 x2 x3 x4 x5 : Int32} (H : LI T h) (hT : T < 1000) (hp : p < 10000) (e1 : X[p + 1]? = some x1) (e2 : X[p + 2]? = some x2) (e3 : X[p + 3]? = some x3) (e4 : X[p + 4]? = some x4) (e5 : X[p + 5]? = some x5) (kk : ∀ T9 h9, T9 ≤ T + 1 → LI T9 h9 → AW X mLaw 1000 rc rs 1452 [some (.ref 1000000), some (.ref 0), some (.ref 69), some (.int (nI p))] [] (92 + 3 * T9) h9 (fun r _ _ => r = some (.int 1))) : AW X mLaw 1000 (rc + 3) (rs + 200) 671 [some (.ref 1000000), some (.ref 0), some (.ref 69), some (.int (nI p))] [] (92 + 3 * T) h (fun r _ _ => r = some (.int 1)) := by
  obtain ⟨fs7, hb7⟩ := li_7 H
  refine aw_aload_n (npc := 672) rfl dL_law_671 rfl ?_
  refine aw_aload_n (npc := 673) rfl dL_law_672 rfl ?_
  refine aw_iload_n (npc := 674) rfl dL_law_673 rfl ?_
  refine aw_iconst (npc := 675) (v := nI 1) (by decide) dL_law_674 rfl ?_
  refine aw_iaddV (npc := 676) (v := nI (p + 1)) dL_law_675 rfl (nI_add p 1) ?_
  refine aw_script_ld (npc := 677) (j := p + 1) dL_law_676 rfl (am_ix_nI (by omega)) e1 ?_
  refine aw_aload_n (npc := 678) rfl dL_law_677 rfl ?_
  refine aw_iload_n (npc := 679) rfl dL_law_678 rfl ?_
  refine aw_iconst (npc := 680) (v := nI 2) (by decide) dL_law_679 rfl ?_
  refine aw_iaddV (npc := 681) (v := nI (p + 2)) dL_law_680 rfl (nI_add p 2) ?_
  refine aw_script_ld (npc := 682) (j := p + 2) dL_law_681 rfl (am_ix_nI (by omega)) e2 ?_
  refine aw_callV (npc := 685) (N := mX7_behind) (b := 0) (mc := 3) (ms := 200) (A := [.int x1, .int x2]) (S := []) (L0 := [some (.ref 0), some (.int x1), some (.int x2)]) dL_law_682 rfl km_X7_behind kk_L_77 hb7 ⟨by decide, rfl⟩ rfl ⟨rfl, by decide⟩ rfl (Nat.le_of_ble_eq_true rfl) (Nat.add_comm _ _) (Nat.add_comm _ _) rfl ?_
  refine st_behind (d := 199) H (fun v1 h1 hm => ?_)
  obtain ⟨⟨fs8, hb8⟩, hm⟩ := hm
  refine aw_re (S' := [.int v1]) rfl ?_
  refine aw_pop (npc := 686) rfl dL_law_685 rfl ?_
  refine aw_aload_n (npc := 687) rfl dL_law_686 rfl ?_
  refine aw_aload_n (npc := 688) rfl dL_law_687 rfl ?_
  refine aw_iload_n (npc := 689) rfl dL_law_688 rfl ?_
  refine aw_iconst (npc := 690) (v := nI 1) (by decide) dL_law_689 rfl ?_
  refine aw_iaddV (npc := 691) (v := nI (p + 1)) dL_law_690 rfl (nI_add p 1) ?_
  refine aw_script_ld (npc := 692) (j := p + 1) dL_law_691 rfl (am_ix_nI (by omega)) e1 ?_
  refine aw_aload_n (npc := 693) rfl dL_law_692 rfl ?_
  refine aw_iload_n (npc := 694) rfl dL_law_693 rfl ?_
  refine aw_iconst (npc := 695) (v := nI 2) (by decide) dL_law_694 rfl ?_
  refine aw_iaddV (npc := 696) (v := nI (p + 2)) dL_law_695 rfl (nI_add p 2) ?_
  refine aw_script_ld (npc := 697) (j := p + 2) dL_law_696 rfl (am_ix_nI (by omega)) e2 ?_
  refine aw_callV (npc := 700) (N := mX8_behind) (b := 69) (mc := 0) (ms := 0) (A := [.int x1, .int x2]) (S := []) (L0 := [some (.ref 69), some (.int x1), some (.int x2), none]) dL_law_697 rfl km_X8_behind kk_L_80 hb8 ⟨by decide, rfl⟩ rfl ⟨rfl, by decide⟩ rfl (Nat.le_of_ble_eq_true rfl) (Nat.zero_add _) (Nat.zero_add _) rfl ?_
  refine hm 899 _ _ _ (fun h2 H2 => ?_)
  refine aw_re (S' := [.int v1]) rfl ?_
  refine aw_pop (npc := 701) rfl dL_law_700 rfl ?_
  refine aw_goto (npc := 1452) dL_law_701 (by decide) ?_
  exact kk T _ (Nat.le_succ T) H2
set_option maxRecDepth 100000 in
theorem lw_c16 {X : List Int32} {p rc rs T : Nat} {h : am_H} {x1 x2 x3 x4 x5 : Int32} (H : LI T h) (hT : T < 1000) (hp : p < 10000) (e1 : X[p + 1]? = some x1) (e2 : X[p + 2]? = some x2) (e3 : X[p + 3]? = some x3) (e4 : X[p + 4]? = some x4) (e5 : X[p + 5]? = some x5) (kk : ∀ T9 h9, T9 ≤ T + 1 → LI T9 h9 → AW X mLaw 1000 rc rs 1452 [some (.ref 1000000), some (.ref 0), some (.ref 69), some (.int (nI p))] [] (92 + 3 * T9) h9 (fun r _ _ => r = some (.int 1))) : AW X mLaw 1000 (rc + 3) (rs + 200) 704 [some (.ref 1000000), some (.ref 0), some (.ref 69), some (.int (nI p))] [] (92 + 3 * T) h (fun r _ _ => r = some (.int 1)) := by
  obtain ⟨fs7, hb7⟩ := li_7 H
  refine aw_aload_n (npc := 705) rfl dL_law_704 rfl ?_
  refine aw_aload_n (npc := 706) rfl dL_law_705 rfl ?_
  refine aw_iload_n (npc := 707) rfl dL_law_706 rfl ?_
  refine aw_iconst (npc := 708) (v := nI 1) (by decide) dL_law_707 rfl ?_
  refine aw_iaddV (npc := 709) (v := nI (p + 1)) dL_law_708 rfl (nI_add p 1) ?_
  refine aw_script_ld (npc := 710) (j := p + 1) dL_law_709 rfl (am_ix_nI (by omega)) e1 ?_
  refine aw_callV (npc := 713) (N := mX7_ends) (b := 0) (mc := 3) (ms := 200) (A := [.int x1]) (S := []) (L0 := [some (.ref 0), some (.int x1), none]) dL_law_710 rfl km_X7_ends kk_L_81 hb7 ⟨by decide, rfl⟩ rfl ⟨rfl, by decide⟩ rfl (Nat.le_of_ble_eq_true rfl) (Nat.add_comm _ _) (Nat.add_comm _ _) rfl ?_
  refine st_ends (d := 199) H (fun v1 h1 hm => ?_)
  obtain ⟨⟨fs8, hb8⟩, hm⟩ := hm
  refine aw_re (S' := [.int v1]) rfl ?_
  refine aw_pop (npc := 714) rfl dL_law_713 rfl ?_
  refine aw_aload_n (npc := 715) rfl dL_law_714 rfl ?_
  refine aw_aload_n (npc := 716) rfl dL_law_715 rfl ?_
  refine aw_iload_n (npc := 717) rfl dL_law_716 rfl ?_
  refine aw_iconst (npc := 718) (v := nI 1) (by decide) dL_law_717 rfl ?_
  refine aw_iaddV (npc := 719) (v := nI (p + 1)) dL_law_718 rfl (nI_add p 1) ?_
  refine aw_script_ld (npc := 720) (j := p + 1) dL_law_719 rfl (am_ix_nI (by omega)) e1 ?_
  refine aw_callV (npc := 723) (N := mX8_ends) (b := 69) (mc := 0) (ms := 0) (A := [.int x1]) (S := []) (L0 := [some (.ref 69), some (.int x1), none, none]) dL_law_720 rfl km_X8_ends kk_L_84 hb8 ⟨by decide, rfl⟩ rfl ⟨rfl, by decide⟩ rfl (Nat.le_of_ble_eq_true rfl) (Nat.zero_add _) (Nat.zero_add _) rfl ?_
  refine hm 899 _ _ _ (fun h2 H2 => ?_)
  refine aw_re (S' := [.int v1]) rfl ?_
  refine aw_pop (npc := 724) rfl dL_law_723 rfl ?_
  refine aw_goto (npc := 1452) dL_law_724 (by decide) ?_
  exact kk T _ (Nat.le_succ T) H2
set_option maxRecDepth 100000 in
theorem lw_c17 {X : List Int32} {p rc rs T : Nat} {h : am_H} {x1 x2 x3 x4 x5 : Int32} (H : LI T h) (hT : T < 1000) (hp : p < 10000) (e1 : X[p + 1]? = some x1) (e2 : X[p + 2]? = some x2) (e3 : X[p + 3]? = some x3) (e4 : X[p + 4]? = some x4) (e5 : X[p + 5]? = some x5) (kk : ∀ T9 h9, T9 ≤ T + 1 → LI T9 h9 → AW X mLaw 1000 rc rs 1452 [some (.ref 1000000), some (.ref 0), some (.ref 69), some (.int (nI p))] [] (92 + 3 * T9) h9 (fun r _ _ => r = some (.int 1))) : AW X mLaw 1000 (rc + 3) (rs + 200) 727 [some (.ref 1000000), some (.ref 0), some (.ref 69), some (.int (nI p))] [] (92 + 3 * T) h (fun r _ _ => r = some (.int 1)) := by
  obtain ⟨fs7, hb7⟩ := li_7 H
  refine aw_aload_n (npc := 728) rfl dL_law_727 rfl ?_
  refine aw_aload_n (npc := 729) rfl dL_law_728 rfl ?_
  refine aw_iload_n (npc := 730) rfl dL_law_729 rfl ?_
  refine aw_iconst (npc := 731) (v := nI 1) (by decide) dL_law_730 rfl ?_
  refine aw_iaddV (npc := 732) (v := nI (p + 1)) dL_law_731 rfl (nI_add p 1) ?_
  refine aw_script_ld (npc := 733) (j := p + 1) dL_law_732 rfl (am_ix_nI (by omega)) e1 ?_
  refine aw_callV (npc := 736) (N := mX7_held) (b := 0) (mc := 3) (ms := 200) (A := [.int x1]) (S := []) (L0 := [some (.ref 0), some (.int x1), none, none]) dL_law_733 rfl km_X7_held kk_L_85 hb7 ⟨by decide, rfl⟩ rfl ⟨rfl, by decide⟩ rfl (Nat.le_of_ble_eq_true rfl) (Nat.add_comm _ _) (Nat.add_comm _ _) rfl ?_
  refine st_held (d := 199) H (fun v1 h1 hm => ?_)
  obtain ⟨⟨fs8, hb8⟩, hm⟩ := hm
  refine aw_re (S' := [.int v1]) rfl ?_
  refine aw_pop (npc := 737) rfl dL_law_736 rfl ?_
  refine aw_aload_n (npc := 738) rfl dL_law_737 rfl ?_
  refine aw_aload_n (npc := 739) rfl dL_law_738 rfl ?_
  refine aw_iload_n (npc := 740) rfl dL_law_739 rfl ?_
  refine aw_iconst (npc := 741) (v := nI 1) (by decide) dL_law_740 rfl ?_
  refine aw_iaddV (npc := 742) (v := nI (p + 1)) dL_law_741 rfl (nI_add p 1) ?_
  refine aw_script_ld (npc := 743) (j := p + 1) dL_law_742 rfl (am_ix_nI (by omega)) e1 ?_
  refine aw_callV (npc := 746) (N := mX8_held) (b := 69) (mc := 0) (ms := 0) (A := [.int x1]) (S := []) (L0 := [some (.ref 69), some (.int x1), none, none, none]) dL_law_743 rfl km_X8_held kk_L_88 hb8 ⟨by decide, rfl⟩ rfl ⟨rfl, by decide⟩ rfl (Nat.le_of_ble_eq_true rfl) (Nat.zero_add _) (Nat.zero_add _) rfl ?_
  refine hm 899 _ _ _ (fun h2 H2 => ?_)
  refine aw_re (S' := [.int v1]) rfl ?_
  refine aw_pop (npc := 747) rfl dL_law_746 rfl ?_
  refine aw_goto (npc := 1452) dL_law_747 (by decide) ?_
  exact kk T _ (Nat.le_succ T) H2
set_option maxRecDepth 100000 in
theorem lw_c18 {X : List Int32} {p rc rs T : Nat} {h : am_H} {x1 x2 x3 x4 x5 : Int32} (H : LI T h) (hT : T < 1000) (hp : p < 10000) (e1 : X[p + 1]? = some x1) (e2 : X[p + 2]? = some x2) (e3 : X[p + 3]? = some x3) (e4 : X[p + 4]? = some x4) (e5 : X[p + 5]? = some x5) (kk : ∀ T9 h9, T9 ≤ T + 1 → LI T9 h9 → AW X mLaw 1000 rc rs 1452 [some (.ref 1000000), some (.ref 0), some (.ref 69), some (.int (nI p))] [] (92 + 3 * T9) h9 (fun r _ _ => r = some (.int 1))) : AW X mLaw 1000 (rc + 3) (rs + 200) 750 [some (.ref 1000000), some (.ref 0), some (.ref 69), some (.int (nI p))] [] (92 + 3 * T) h (fun r _ _ => r = some (.int 1)) := by
  obtain ⟨fs7, hb7⟩ := li_7 H
  refine aw_aload_n (npc := 751) rfl dL_law_750 rfl ?_
  refine aw_aload_n (npc := 752) rfl dL_law_751 rfl ?_
  refine aw_iload_n (npc := 753) rfl dL_law_752 rfl ?_
  refine aw_iconst (npc := 754) (v := nI 1) (by decide) dL_law_753 rfl ?_
  refine aw_iaddV (npc := 755) (v := nI (p + 1)) dL_law_754 rfl (nI_add p 1) ?_
  refine aw_script_ld (npc := 756) (j := p + 1) dL_law_755 rfl (am_ix_nI (by omega)) e1 ?_
  refine aw_callV (npc := 759) (N := mX7_cool) (b := 0) (mc := 3) (ms := 200) (A := [.int x1]) (S := []) (L0 := [some (.ref 0), some (.int x1), none]) dL_law_756 rfl km_X7_cool kk_L_89 hb7 ⟨by decide, rfl⟩ rfl ⟨rfl, by decide⟩ rfl (Nat.le_of_ble_eq_true rfl) (Nat.add_comm _ _) (Nat.add_comm _ _) rfl ?_
  refine st_cool (d := 199) H (fun v1 h1 hm => ?_)
  obtain ⟨⟨fs8, hb8⟩, hm⟩ := hm
  refine aw_re (S' := [.int v1]) rfl ?_
  refine aw_pop (npc := 760) rfl dL_law_759 rfl ?_
  refine aw_aload_n (npc := 761) rfl dL_law_760 rfl ?_
  refine aw_aload_n (npc := 762) rfl dL_law_761 rfl ?_
  refine aw_iload_n (npc := 763) rfl dL_law_762 rfl ?_
  refine aw_iconst (npc := 764) (v := nI 1) (by decide) dL_law_763 rfl ?_
  refine aw_iaddV (npc := 765) (v := nI (p + 1)) dL_law_764 rfl (nI_add p 1) ?_
  refine aw_script_ld (npc := 766) (j := p + 1) dL_law_765 rfl (am_ix_nI (by omega)) e1 ?_
  refine aw_callV (npc := 769) (N := mX8_cool) (b := 69) (mc := 0) (ms := 0) (A := [.int x1]) (S := []) (L0 := [some (.ref 69), some (.int x1), none, none]) dL_law_766 rfl km_X8_cool kk_L_92 hb8 ⟨by decide, rfl⟩ rfl ⟨rfl, by decide⟩ rfl (Nat.le_of_ble_eq_true rfl) (Nat.zero_add _) (Nat.zero_add _) rfl ?_
  refine hm 899 _ _ _ (fun h2 H2 => ?_)
  refine aw_re (S' := [.int v1]) rfl ?_
  refine aw_pop (npc := 770) rfl dL_law_769 rfl ?_
  refine aw_goto (npc := 1452) dL_law_770 (by decide) ?_
  exact kk T _ (Nat.le_succ T) H2
set_option maxRecDepth 100000 in
theorem lw_c19 {X : List Int32} {p rc rs T : Nat} {h : am_H} {x1 x2 x3 x4 x5 : Int32} (H : LI T h) (hT : T < 1000) (hp : p < 10000) (e1 : X[p + 1]? = some x1) (e2 : X[p + 2]? = some x2) (e3 : X[p + 3]? = some x3) (e4 : X[p + 4]? = some x4) (e5 : X[p + 5]? = some x5) (kk : ∀ T9 h9, T9 ≤ T + 1 → LI T9 h9 → AW X mLaw 1000 rc rs 1452 [some (.ref 1000000), some (.ref 0), some (.ref 69), some (.int (nI p))] [] (92 + 3 * T9) h9 (fun r _ _ => r = some (.int 1))) : AW X mLaw 1000 (rc + 3) (rs + 200) 773 [some (.ref 1000000), some (.ref 0), some (.ref 69), some (.int (nI p))] [] (92 + 3 * T) h (fun r _ _ => r = some (.int 1)) := by
  obtain ⟨fs7, hb7⟩ := li_7 H
  refine aw_aload_n (npc := 774) rfl dL_law_773 rfl ?_
  refine aw_aload_n (npc := 775) rfl dL_law_774 rfl ?_
  refine aw_iload_n (npc := 776) rfl dL_law_775 rfl ?_
  refine aw_iconst (npc := 777) (v := nI 1) (by decide) dL_law_776 rfl ?_
  refine aw_iaddV (npc := 778) (v := nI (p + 1)) dL_law_777 rfl (nI_add p 1) ?_
  refine aw_script_ld (npc := 779) (j := p + 1) dL_law_778 rfl (am_ix_nI (by omega)) e1 ?_
  refine aw_aload_n (npc := 780) rfl dL_law_779 rfl ?_
  refine aw_iload_n (npc := 781) rfl dL_law_780 rfl ?_
  refine aw_iconst (npc := 782) (v := nI 2) (by decide) dL_law_781 rfl ?_
  refine aw_iaddV (npc := 783) (v := nI (p + 2)) dL_law_782 rfl (nI_add p 2) ?_
  refine aw_script_ld (npc := 784) (j := p + 2) dL_law_783 rfl (am_ix_nI (by omega)) e2 ?_
  refine aw_callV (npc := 787) (N := mX7_bought) (b := 0) (mc := 3) (ms := 200) (A := [.int x1, .int x2]) (S := []) (L0 := [some (.ref 0), some (.int x1), some (.int x2), none, none, none, none]) dL_law_784 rfl km_X7_bought kk_L_93 hb7 ⟨by decide, rfl⟩ rfl ⟨rfl, by decide⟩ rfl (Nat.le_of_ble_eq_true rfl) (Nat.add_comm _ _) (Nat.add_comm _ _) rfl ?_
  refine st_bought (d := 199) H (fun v1 h1 hm => ?_)
  obtain ⟨⟨fs8, hb8⟩, hm⟩ := hm
  refine aw_re (S' := [.int v1]) rfl ?_
  refine aw_pop (npc := 788) rfl dL_law_787 rfl ?_
  refine aw_aload_n (npc := 789) rfl dL_law_788 rfl ?_
  refine aw_aload_n (npc := 790) rfl dL_law_789 rfl ?_
  refine aw_iload_n (npc := 791) rfl dL_law_790 rfl ?_
  refine aw_iconst (npc := 792) (v := nI 1) (by decide) dL_law_791 rfl ?_
  refine aw_iaddV (npc := 793) (v := nI (p + 1)) dL_law_792 rfl (nI_add p 1) ?_
  refine aw_script_ld (npc := 794) (j := p + 1) dL_law_793 rfl (am_ix_nI (by omega)) e1 ?_
  refine aw_aload_n (npc := 795) rfl dL_law_794 rfl ?_
  refine aw_iload_n (npc := 796) rfl dL_law_795 rfl ?_
  refine aw_iconst (npc := 797) (v := nI 2) (by decide) dL_law_796 rfl ?_
  refine aw_iaddV (npc := 798) (v := nI (p + 2)) dL_law_797 rfl (nI_add p 2) ?_
  refine aw_script_ld (npc := 799) (j := p + 2) dL_law_798 rfl (am_ix_nI (by omega)) e2 ?_
  refine aw_callV (npc := 802) (N := mX8_bought) (b := 69) (mc := 0) (ms := 0) (A := [.int x1, .int x2]) (S := []) (L0 := [some (.ref 69), some (.int x1), some (.int x2), none, none, none, none]) dL_law_799 rfl km_X8_bought kk_L_96 hb8 ⟨by decide, rfl⟩ rfl ⟨rfl, by decide⟩ rfl (Nat.le_of_ble_eq_true rfl) (Nat.zero_add _) (Nat.zero_add _) rfl ?_
  refine hm 899 _ _ _ (fun h2 H2 => ?_)
  refine aw_re (S' := [.int v1]) rfl ?_
  refine aw_pop (npc := 803) rfl dL_law_802 rfl ?_
  refine aw_goto (npc := 1452) dL_law_803 (by decide) ?_
  exact kk T _ (Nat.le_succ T) H2
set_option maxRecDepth 100000 in
theorem lw_c20 {X : List Int32} {p rc rs T : Nat} {h : am_H} {x1 x2 x3 x4 x5 : Int32} (H : LI T h) (hT : T < 1000) (hp : p < 10000) (e1 : X[p + 1]? = some x1) (e2 : X[p + 2]? = some x2) (e3 : X[p + 3]? = some x3) (e4 : X[p + 4]? = some x4) (e5 : X[p + 5]? = some x5) (kk : ∀ T9 h9, T9 ≤ T + 1 → LI T9 h9 → AW X mLaw 1000 rc rs 1452 [some (.ref 1000000), some (.ref 0), some (.ref 69), some (.int (nI p))] [] (92 + 3 * T9) h9 (fun r _ _ => r = some (.int 1))) : AW X mLaw 1000 (rc + 3) (rs + 200) 806 [some (.ref 1000000), some (.ref 0), some (.ref 69), some (.int (nI p))] [] (92 + 3 * T) h (fun r _ _ => r = some (.int 1)) := by
  obtain ⟨fs7, hb7⟩ := li_7 H
  refine aw_aload_n (npc := 807) rfl dL_law_806 rfl ?_
  refine aw_aload_n (npc := 808) rfl dL_law_807 rfl ?_
  refine aw_iload_n (npc := 809) rfl dL_law_808 rfl ?_
  refine aw_iconst (npc := 810) (v := nI 1) (by decide) dL_law_809 rfl ?_
  refine aw_iaddV (npc := 811) (v := nI (p + 1)) dL_law_810 rfl (nI_add p 1) ?_
  refine aw_script_ld (npc := 812) (j := p + 1) dL_law_811 rfl (am_ix_nI (by omega)) e1 ?_
  refine aw_aload_n (npc := 813) rfl dL_law_812 rfl ?_
  refine aw_iload_n (npc := 814) rfl dL_law_813 rfl ?_
  refine aw_iconst (npc := 815) (v := nI 2) (by decide) dL_law_814 rfl ?_
  refine aw_iaddV (npc := 816) (v := nI (p + 2)) dL_law_815 rfl (nI_add p 2) ?_
  refine aw_script_ld (npc := 817) (j := p + 2) dL_law_816 rfl (am_ix_nI (by omega)) e2 ?_
  refine aw_aload_n (npc := 818) rfl dL_law_817 rfl ?_
  refine aw_iload_n (npc := 819) rfl dL_law_818 rfl ?_
  refine aw_iconst (npc := 820) (v := nI 3) (by decide) dL_law_819 rfl ?_
  refine aw_iaddV (npc := 821) (v := nI (p + 3)) dL_law_820 rfl (nI_add p 3) ?_
  refine aw_script_ld (npc := 822) (j := p + 3) dL_law_821 rfl (am_ix_nI (by omega)) e3 ?_
  refine aw_callV (npc := 825) (N := mX7_cared) (b := 0) (mc := 3) (ms := 200) (A := [.int x1, .int x2, .int x3]) (S := []) (L0 := [some (.ref 0), some (.int x1), some (.int x2), some (.int x3), none, none, none, none, none]) dL_law_822 rfl km_X7_cared kk_L_97 hb7 ⟨by decide, rfl⟩ rfl ⟨rfl, by decide⟩ rfl (Nat.le_of_ble_eq_true rfl) (Nat.add_comm _ _) (Nat.add_comm _ _) rfl ?_
  refine st_cared (d := 199) H (fun v1 h1 hm => ?_)
  obtain ⟨⟨fs8, hb8⟩, hm⟩ := hm
  refine aw_re (S' := [.int v1]) rfl ?_
  refine aw_pop (npc := 826) rfl dL_law_825 rfl ?_
  refine aw_aload_n (npc := 827) rfl dL_law_826 rfl ?_
  refine aw_aload_n (npc := 828) rfl dL_law_827 rfl ?_
  refine aw_iload_n (npc := 829) rfl dL_law_828 rfl ?_
  refine aw_iconst (npc := 830) (v := nI 1) (by decide) dL_law_829 rfl ?_
  refine aw_iaddV (npc := 831) (v := nI (p + 1)) dL_law_830 rfl (nI_add p 1) ?_
  refine aw_script_ld (npc := 832) (j := p + 1) dL_law_831 rfl (am_ix_nI (by omega)) e1 ?_
  refine aw_aload_n (npc := 833) rfl dL_law_832 rfl ?_
  refine aw_iload_n (npc := 834) rfl dL_law_833 rfl ?_
  refine aw_iconst (npc := 835) (v := nI 2) (by decide) dL_law_834 rfl ?_
  refine aw_iaddV (npc := 836) (v := nI (p + 2)) dL_law_835 rfl (nI_add p 2) ?_
  refine aw_script_ld (npc := 837) (j := p + 2) dL_law_836 rfl (am_ix_nI (by omega)) e2 ?_
  refine aw_aload_n (npc := 838) rfl dL_law_837 rfl ?_
  refine aw_iload_n (npc := 839) rfl dL_law_838 rfl ?_
  refine aw_iconst (npc := 840) (v := nI 3) (by decide) dL_law_839 rfl ?_
  refine aw_iaddV (npc := 841) (v := nI (p + 3)) dL_law_840 rfl (nI_add p 3) ?_
  refine aw_script_ld (npc := 842) (j := p + 3) dL_law_841 rfl (am_ix_nI (by omega)) e3 ?_
  refine aw_callV (npc := 845) (N := mX8_cared) (b := 69) (mc := 0) (ms := 0) (A := [.int x1, .int x2, .int x3]) (S := []) (L0 := [some (.ref 69), some (.int x1), some (.int x2), some (.int x3), none, none, none, none, none, none]) dL_law_842 rfl km_X8_cared kk_L_100 hb8 ⟨by decide, rfl⟩ rfl ⟨rfl, by decide⟩ rfl (Nat.le_of_ble_eq_true rfl) (Nat.zero_add _) (Nat.zero_add _) rfl ?_
  refine hm 899 _ _ _ (fun v2 h2 H2 => ?_)
  refine aw_re (S' := [.int v2]) rfl ?_
  refine aw_pop (npc := 846) rfl dL_law_845 rfl ?_
  refine aw_goto (npc := 1452) dL_law_846 (by decide) ?_
  exact kk T _ (Nat.le_succ T) H2
set_option maxRecDepth 100000 in
theorem lw_c21 {X : List Int32} {p rc rs T : Nat} {h : am_H} {x1 x2 x3 x4 x5 : Int32} (H : LI T h) (hT : T < 1000) (hp : p < 10000) (e1 : X[p + 1]? = some x1) (e2 : X[p + 2]? = some x2) (e3 : X[p + 3]? = some x3) (e4 : X[p + 4]? = some x4) (e5 : X[p + 5]? = some x5) (kk : ∀ T9 h9, T9 ≤ T + 1 → LI T9 h9 → AW X mLaw 1000 rc rs 1452 [some (.ref 1000000), some (.ref 0), some (.ref 69), some (.int (nI p))] [] (92 + 3 * T9) h9 (fun r _ _ => r = some (.int 1))) : AW X mLaw 1000 (rc + 3) (rs + 200) 849 [some (.ref 1000000), some (.ref 0), some (.ref 69), some (.int (nI p))] [] (92 + 3 * T) h (fun r _ _ => r = some (.int 1)) := by
  obtain ⟨fs7, hb7⟩ := li_7 H
  refine aw_aload_n (npc := 850) rfl dL_law_849 rfl ?_
  refine aw_callV (npc := 853) (N := mX7_fee) (b := 0) (mc := 3) (ms := 200) (A := []) (S := []) (L0 := [some (.ref 0), none]) dL_law_850 rfl km_X7_fee kk_L_101 hb7 ⟨by decide, rfl⟩ rfl ⟨rfl, by decide⟩ rfl (Nat.le_of_ble_eq_true rfl) (Nat.add_comm _ _) (Nat.add_comm _ _) rfl ?_
  refine st_fee (d := 199) H (fun v1 h1 hm => ?_)
  obtain ⟨⟨fs8, hb8⟩, hm⟩ := hm
  refine aw_re (S' := [.int v1]) rfl ?_
  refine aw_pop (npc := 854) rfl dL_law_853 rfl ?_
  refine aw_aload_n (npc := 855) rfl dL_law_854 rfl ?_
  refine aw_callV (npc := 858) (N := mX8_fee) (b := 69) (mc := 0) (ms := 0) (A := []) (S := []) (L0 := [some (.ref 69), none]) dL_law_855 rfl km_X8_fee kk_L_104 hb8 ⟨by decide, rfl⟩ rfl ⟨rfl, by decide⟩ rfl (Nat.le_of_ble_eq_true rfl) (Nat.zero_add _) (Nat.zero_add _) rfl ?_
  refine hm 899 _ _ _ (fun h2 H2 => ?_)
  refine aw_re (S' := [.int v1]) rfl ?_
  refine aw_pop (npc := 859) rfl dL_law_858 rfl ?_
  refine aw_goto (npc := 1452) dL_law_859 (by decide) ?_
  exact kk T _ (Nat.le_succ T) H2
set_option maxRecDepth 100000 in
theorem lw_c22 {X : List Int32} {p rc rs T : Nat} {h : am_H} {x1 x2 x3 x4 x5 : Int32} (H : LI T h) (hT : T < 1000) (hp : p < 10000) (e1 : X[p + 1]? = some x1) (e2 : X[p + 2]? = some x2) (e3 : X[p + 3]? = some x3) (e4 : X[p + 4]? = some x4) (e5 : X[p + 5]? = some x5) (kk : ∀ T9 h9, T9 ≤ T + 1 → LI T9 h9 → AW X mLaw 1000 rc rs 1452 [some (.ref 1000000), some (.ref 0), some (.ref 69), some (.int (nI p))] [] (92 + 3 * T9) h9 (fun r _ _ => r = some (.int 1))) : AW X mLaw 1000 (rc + 3) (rs + 200) 862 [some (.ref 1000000), some (.ref 0), some (.ref 69), some (.int (nI p))] [] (92 + 3 * T) h (fun r _ _ => r = some (.int 1)) := by
  obtain ⟨fs7, hb7⟩ := li_7 H
  refine aw_aload_n (npc := 863) rfl dL_law_862 rfl ?_
  refine aw_aload_n (npc := 864) rfl dL_law_863 rfl ?_
  refine aw_iload_n (npc := 865) rfl dL_law_864 rfl ?_
  refine aw_iconst (npc := 866) (v := nI 1) (by decide) dL_law_865 rfl ?_
  refine aw_iaddV (npc := 867) (v := nI (p + 1)) dL_law_866 rfl (nI_add p 1) ?_
  refine aw_script_ld (npc := 868) (j := p + 1) dL_law_867 rfl (am_ix_nI (by omega)) e1 ?_
  refine aw_callV (npc := 871) (N := mX7_fine) (b := 0) (mc := 3) (ms := 200) (A := [.int x1]) (S := []) (L0 := [some (.ref 0), some (.int x1), none, none]) dL_law_868 rfl km_X7_fine kk_L_105 hb7 ⟨by decide, rfl⟩ rfl ⟨rfl, by decide⟩ rfl (Nat.le_of_ble_eq_true rfl) (Nat.add_comm _ _) (Nat.add_comm _ _) rfl ?_
  refine st_fine (d := 199) H (fun v1 h1 hm => ?_)
  obtain ⟨⟨fs8, hb8⟩, hm⟩ := hm
  refine aw_re (S' := [.int v1]) rfl ?_
  refine aw_pop (npc := 872) rfl dL_law_871 rfl ?_
  refine aw_aload_n (npc := 873) rfl dL_law_872 rfl ?_
  refine aw_aload_n (npc := 874) rfl dL_law_873 rfl ?_
  refine aw_iload_n (npc := 875) rfl dL_law_874 rfl ?_
  refine aw_iconst (npc := 876) (v := nI 1) (by decide) dL_law_875 rfl ?_
  refine aw_iaddV (npc := 877) (v := nI (p + 1)) dL_law_876 rfl (nI_add p 1) ?_
  refine aw_script_ld (npc := 878) (j := p + 1) dL_law_877 rfl (am_ix_nI (by omega)) e1 ?_
  refine aw_callV (npc := 881) (N := mX8_fine) (b := 69) (mc := 0) (ms := 0) (A := [.int x1]) (S := []) (L0 := [some (.ref 69), some (.int x1), none]) dL_law_878 rfl km_X8_fine kk_L_108 hb8 ⟨by decide, rfl⟩ rfl ⟨rfl, by decide⟩ rfl (Nat.le_of_ble_eq_true rfl) (Nat.zero_add _) (Nat.zero_add _) rfl ?_
  refine hm 899 _ _ _ (fun h2 H2 => ?_)
  refine aw_re (S' := [.int v1]) rfl ?_
  refine aw_pop (npc := 882) rfl dL_law_881 rfl ?_
  refine aw_goto (npc := 1452) dL_law_882 (by decide) ?_
  exact kk T _ (Nat.le_succ T) H2
set_option maxRecDepth 100000 in
theorem lw_c23 {X : List Int32} {p rc rs T : Nat} {h : am_H} {x1 x2 x3 x4 x5 : Int32} (H : LI T h) (hT : T < 1000) (hp : p < 10000) (e1 : X[p + 1]? = some x1) (e2 : X[p + 2]? = some x2) (e3 : X[p + 3]? = some x3) (e4 : X[p + 4]? = some x4) (e5 : X[p + 5]? = some x5) (kk : ∀ T9 h9, T9 ≤ T + 1 → LI T9 h9 → AW X mLaw 1000 rc rs 1452 [some (.ref 1000000), some (.ref 0), some (.ref 69), some (.int (nI p))] [] (92 + 3 * T9) h9 (fun r _ _ => r = some (.int 1))) : AW X mLaw 1000 (rc + 3) (rs + 200) 885 [some (.ref 1000000), some (.ref 0), some (.ref 69), some (.int (nI p))] [] (92 + 3 * T) h (fun r _ _ => r = some (.int 1)) := by
  obtain ⟨fs7, hb7⟩ := li_7 H
  refine aw_aload_n (npc := 886) rfl dL_law_885 rfl ?_
  refine aw_aload_n (npc := 887) rfl dL_law_886 rfl ?_
  refine aw_iload_n (npc := 888) rfl dL_law_887 rfl ?_
  refine aw_iconst (npc := 889) (v := nI 1) (by decide) dL_law_888 rfl ?_
  refine aw_iaddV (npc := 890) (v := nI (p + 1)) dL_law_889 rfl (nI_add p 1) ?_
  refine aw_script_ld (npc := 891) (j := p + 1) dL_law_890 rfl (am_ix_nI (by omega)) e1 ?_
  refine aw_aload_n (npc := 892) rfl dL_law_891 rfl ?_
  refine aw_iload_n (npc := 893) rfl dL_law_892 rfl ?_
  refine aw_iconst (npc := 894) (v := nI 2) (by decide) dL_law_893 rfl ?_
  refine aw_iaddV (npc := 895) (v := nI (p + 2)) dL_law_894 rfl (nI_add p 2) ?_
  refine aw_script_ld (npc := 896) (j := p + 2) dL_law_895 rfl (am_ix_nI (by omega)) e2 ?_
  refine aw_aload_n (npc := 897) rfl dL_law_896 rfl ?_
  refine aw_iload_n (npc := 898) rfl dL_law_897 rfl ?_
  refine aw_iconst (npc := 899) (v := nI 3) (by decide) dL_law_898 rfl ?_
  refine aw_iaddV (npc := 900) (v := nI (p + 3)) dL_law_899 rfl (nI_add p 3) ?_
  refine aw_script_ld (npc := 901) (j := p + 3) dL_law_900 rfl (am_ix_nI (by omega)) e3 ?_
  refine aw_callV (npc := 904) (N := mX7_feed) (b := 0) (mc := 3) (ms := 200) (A := [.int x1, .int x2, .int x3]) (S := []) (L0 := [some (.ref 0), some (.int x1), some (.int x2), some (.int x3)]) dL_law_901 rfl km_X7_feed kk_L_109 hb7 ⟨by decide, rfl⟩ rfl ⟨rfl, by decide⟩ rfl (Nat.le_of_ble_eq_true rfl) (Nat.add_comm _ _) (Nat.add_comm _ _) rfl ?_
  refine st_feed (d := 199) H (fun v1 h1 hm => ?_)
  obtain ⟨⟨fs8, hb8⟩, hm⟩ := hm
  refine aw_re (S' := [.int v1]) rfl ?_
  refine aw_pop (npc := 905) rfl dL_law_904 rfl ?_
  refine aw_aload_n (npc := 906) rfl dL_law_905 rfl ?_
  refine aw_aload_n (npc := 907) rfl dL_law_906 rfl ?_
  refine aw_iload_n (npc := 908) rfl dL_law_907 rfl ?_
  refine aw_iconst (npc := 909) (v := nI 1) (by decide) dL_law_908 rfl ?_
  refine aw_iaddV (npc := 910) (v := nI (p + 1)) dL_law_909 rfl (nI_add p 1) ?_
  refine aw_script_ld (npc := 911) (j := p + 1) dL_law_910 rfl (am_ix_nI (by omega)) e1 ?_
  refine aw_aload_n (npc := 912) rfl dL_law_911 rfl ?_
  refine aw_iload_n (npc := 913) rfl dL_law_912 rfl ?_
  refine aw_iconst (npc := 914) (v := nI 2) (by decide) dL_law_913 rfl ?_
  refine aw_iaddV (npc := 915) (v := nI (p + 2)) dL_law_914 rfl (nI_add p 2) ?_
  refine aw_script_ld (npc := 916) (j := p + 2) dL_law_915 rfl (am_ix_nI (by omega)) e2 ?_
  refine aw_aload_n (npc := 917) rfl dL_law_916 rfl ?_
  refine aw_iload_n (npc := 918) rfl dL_law_917 rfl ?_
  refine aw_iconst (npc := 919) (v := nI 3) (by decide) dL_law_918 rfl ?_
  refine aw_iaddV (npc := 920) (v := nI (p + 3)) dL_law_919 rfl (nI_add p 3) ?_
  refine aw_script_ld (npc := 921) (j := p + 3) dL_law_920 rfl (am_ix_nI (by omega)) e3 ?_
  refine aw_callV (npc := 924) (N := mX8_feed) (b := 69) (mc := 0) (ms := 0) (A := [.int x1, .int x2, .int x3]) (S := []) (L0 := [some (.ref 69), some (.int x1), some (.int x2), some (.int x3), none, none]) dL_law_921 rfl km_X8_feed kk_L_112 hb8 ⟨by decide, rfl⟩ rfl ⟨rfl, by decide⟩ rfl (Nat.le_of_ble_eq_true rfl) (Nat.zero_add _) (Nat.zero_add _) rfl ?_
  refine hm 899 _ _ _ (fun h2 H2 => ?_)
  refine aw_re (S' := [.int v1]) rfl ?_
  refine aw_pop (npc := 925) rfl dL_law_924 rfl ?_
  refine aw_goto (npc := 1452) dL_law_925 (by decide) ?_
  exact kk T _ (Nat.le_succ T) H2
set_option maxRecDepth 100000 in
theorem lw_c24 {X : List Int32} {p rc rs T : Nat} {h : am_H} {x1 x2 x3 x4 x5 : Int32} (H : LI T h) (hT : T < 1000) (hp : p < 10000) (e1 : X[p + 1]? = some x1) (e2 : X[p + 2]? = some x2) (e3 : X[p + 3]? = some x3) (e4 : X[p + 4]? = some x4) (e5 : X[p + 5]? = some x5) (kk : ∀ T9 h9, T9 ≤ T + 1 → LI T9 h9 → AW X mLaw 1000 rc rs 1452 [some (.ref 1000000), some (.ref 0), some (.ref 69), some (.int (nI p))] [] (92 + 3 * T9) h9 (fun r _ _ => r = some (.int 1))) : AW X mLaw 1000 (rc + 3) (rs + 200) 928 [some (.ref 1000000), some (.ref 0), some (.ref 69), some (.int (nI p))] [] (92 + 3 * T) h (fun r _ _ => r = some (.int 1)) := by
  obtain ⟨fs7, hb7⟩ := li_7 H
  refine aw_aload_n (npc := 929) rfl dL_law_928 rfl ?_
  refine aw_aload_n (npc := 930) rfl dL_law_929 rfl ?_
  refine aw_iload_n (npc := 931) rfl dL_law_930 rfl ?_
  refine aw_iconst (npc := 932) (v := nI 1) (by decide) dL_law_931 rfl ?_
  refine aw_iaddV (npc := 933) (v := nI (p + 1)) dL_law_932 rfl (nI_add p 1) ?_
  refine aw_script_ld (npc := 934) (j := p + 1) dL_law_933 rfl (am_ix_nI (by omega)) e1 ?_
  refine aw_callV (npc := 937) (N := mX7_trim) (b := 0) (mc := 3) (ms := 200) (A := [.int x1]) (S := []) (L0 := [some (.ref 0), some (.int x1)]) dL_law_934 rfl km_X7_trim kk_L_113 hb7 ⟨by decide, rfl⟩ rfl ⟨rfl, by decide⟩ rfl (Nat.le_of_ble_eq_true rfl) (Nat.add_comm _ _) (Nat.add_comm _ _) rfl ?_
  refine st_trim (d := 199) H (fun v1 h1 hm => ?_)
  obtain ⟨⟨fs8, hb8⟩, hm⟩ := hm
  refine aw_re (S' := [.int v1]) rfl ?_
  refine aw_pop (npc := 938) rfl dL_law_937 rfl ?_
  refine aw_aload_n (npc := 939) rfl dL_law_938 rfl ?_
  refine aw_aload_n (npc := 940) rfl dL_law_939 rfl ?_
  refine aw_iload_n (npc := 941) rfl dL_law_940 rfl ?_
  refine aw_iconst (npc := 942) (v := nI 1) (by decide) dL_law_941 rfl ?_
  refine aw_iaddV (npc := 943) (v := nI (p + 1)) dL_law_942 rfl (nI_add p 1) ?_
  refine aw_script_ld (npc := 944) (j := p + 1) dL_law_943 rfl (am_ix_nI (by omega)) e1 ?_
  refine aw_callV (npc := 947) (N := mX8_trim) (b := 69) (mc := 0) (ms := 0) (A := [.int x1]) (S := []) (L0 := [some (.ref 69), some (.int x1)]) dL_law_944 rfl km_X8_trim kk_L_116 hb8 ⟨by decide, rfl⟩ rfl ⟨rfl, by decide⟩ rfl (Nat.le_of_ble_eq_true rfl) (Nat.zero_add _) (Nat.zero_add _) rfl ?_
  refine hm 899 _ _ _ (fun h2 H2 => ?_)
  refine aw_re (S' := [.int v1]) rfl ?_
  refine aw_pop (npc := 948) rfl dL_law_947 rfl ?_
  refine aw_goto (npc := 1452) dL_law_948 (by decide) ?_
  exact kk T _ (Nat.le_succ T) H2
set_option maxRecDepth 100000 in
theorem lw_c25 {X : List Int32} {p rc rs T : Nat} {h : am_H} {x1 x2 x3 x4 x5 : Int32} (H : LI T h) (hT : T < 1000) (hp : p < 10000) (e1 : X[p + 1]? = some x1) (e2 : X[p + 2]? = some x2) (e3 : X[p + 3]? = some x3) (e4 : X[p + 4]? = some x4) (e5 : X[p + 5]? = some x5) (kk : ∀ T9 h9, T9 ≤ T + 1 → LI T9 h9 → AW X mLaw 1000 rc rs 1452 [some (.ref 1000000), some (.ref 0), some (.ref 69), some (.int (nI p))] [] (92 + 3 * T9) h9 (fun r _ _ => r = some (.int 1))) : AW X mLaw 1000 (rc + 3) (rs + 200) 951 [some (.ref 1000000), some (.ref 0), some (.ref 69), some (.int (nI p))] [] (92 + 3 * T) h (fun r _ _ => r = some (.int 1)) := by
  obtain ⟨fs7, hb7⟩ := li_7 H
  refine aw_aload_n (npc := 952) rfl dL_law_951 rfl ?_
  refine aw_callV (npc := 955) (N := mX7_text) (b := 0) (mc := 3) (ms := 200) (A := []) (S := []) (L0 := [some (.ref 0), none]) dL_law_952 rfl km_X7_text kk_L_117 hb7 ⟨by decide, rfl⟩ rfl ⟨rfl, by decide⟩ rfl (Nat.le_of_ble_eq_true rfl) (Nat.add_comm _ _) (Nat.add_comm _ _) rfl ?_
  refine st_text (d := 199) (rc := 0) (rs := 0) H (by omega) (fun v1 T1 h1 hT1 hm => ?_)
  obtain ⟨⟨fs8, hb8⟩, hm⟩ := hm
  refine aw_re (S' := [.int v1]) rfl ?_
  refine aw_pop (npc := 956) rfl dL_law_955 rfl ?_
  refine aw_aload_n (npc := 957) rfl dL_law_956 rfl ?_
  refine aw_callV (npc := 960) (N := mX8_text) (b := 69) (mc := 0) (ms := 0) (A := []) (S := []) (L0 := [some (.ref 69), none, none, none]) dL_law_957 rfl km_X8_text kk_L_120 hb8 ⟨by decide, rfl⟩ rfl ⟨rfl, by decide⟩ rfl (Nat.le_of_ble_eq_true rfl) (Nat.zero_add _) (Nat.zero_add _) rfl ?_
  refine hm 899 _ _ _ (fun h2 H2 => ?_)
  refine aw_re (S' := [.int v1]) rfl ?_
  refine aw_pop (npc := 961) rfl dL_law_960 rfl ?_
  refine aw_goto (npc := 1452) dL_law_961 (by decide) ?_
  exact kk T1 _ hT1 H2
set_option maxRecDepth 100000 in
theorem lw_c26 {X : List Int32} {p rc rs T : Nat} {h : am_H} {x1 x2 x3 x4 x5 : Int32} (H : LI T h) (hT : T < 1000) (hp : p < 10000) (e1 : X[p + 1]? = some x1) (e2 : X[p + 2]? = some x2) (e3 : X[p + 3]? = some x3) (e4 : X[p + 4]? = some x4) (e5 : X[p + 5]? = some x5) (kk : ∀ T9 h9, T9 ≤ T + 1 → LI T9 h9 → AW X mLaw 1000 rc rs 1452 [some (.ref 1000000), some (.ref 0), some (.ref 69), some (.int (nI p))] [] (92 + 3 * T9) h9 (fun r _ _ => r = some (.int 1))) : AW X mLaw 1000 (rc + 3) (rs + 200) 964 [some (.ref 1000000), some (.ref 0), some (.ref 69), some (.int (nI p))] [] (92 + 3 * T) h (fun r _ _ => r = some (.int 1)) := by
  obtain ⟨fs7, hb7⟩ := li_7 H
  refine aw_aload_n (npc := 965) rfl dL_law_964 rfl ?_
  refine aw_aload_n (npc := 966) rfl dL_law_965 rfl ?_
  refine aw_iload_n (npc := 967) rfl dL_law_966 rfl ?_
  refine aw_iconst (npc := 968) (v := nI 1) (by decide) dL_law_967 rfl ?_
  refine aw_iaddV (npc := 969) (v := nI (p + 1)) dL_law_968 rfl (nI_add p 1) ?_
  refine aw_script_ld (npc := 970) (j := p + 1) dL_law_969 rfl (am_ix_nI (by omega)) e1 ?_
  refine aw_aload_n (npc := 971) rfl dL_law_970 rfl ?_
  refine aw_iload_n (npc := 972) rfl dL_law_971 rfl ?_
  refine aw_iconst (npc := 973) (v := nI 2) (by decide) dL_law_972 rfl ?_
  refine aw_iaddV (npc := 974) (v := nI (p + 2)) dL_law_973 rfl (nI_add p 2) ?_
  refine aw_script_ld (npc := 975) (j := p + 2) dL_law_974 rfl (am_ix_nI (by omega)) e2 ?_
  refine aw_callV (npc := 978) (N := mX7_textTold) (b := 0) (mc := 3) (ms := 200) (A := [.int x1, .int x2]) (S := []) (L0 := [some (.ref 0), some (.int x1), some (.int x2), none]) dL_law_975 rfl km_X7_textTold kk_L_121 hb7 ⟨by decide, rfl⟩ rfl ⟨rfl, by decide⟩ rfl (Nat.le_of_ble_eq_true rfl) (Nat.add_comm _ _) (Nat.add_comm _ _) rfl ?_
  refine st_textTold (d := 199) H (fun v1 h1 hm => ?_)
  obtain ⟨⟨fs8, hb8⟩, hm⟩ := hm
  refine aw_re (S' := [.int v1]) rfl ?_
  refine aw_pop (npc := 979) rfl dL_law_978 rfl ?_
  refine aw_aload_n (npc := 980) rfl dL_law_979 rfl ?_
  refine aw_aload_n (npc := 981) rfl dL_law_980 rfl ?_
  refine aw_iload_n (npc := 982) rfl dL_law_981 rfl ?_
  refine aw_iconst (npc := 983) (v := nI 1) (by decide) dL_law_982 rfl ?_
  refine aw_iaddV (npc := 984) (v := nI (p + 1)) dL_law_983 rfl (nI_add p 1) ?_
  refine aw_script_ld (npc := 985) (j := p + 1) dL_law_984 rfl (am_ix_nI (by omega)) e1 ?_
  refine aw_aload_n (npc := 986) rfl dL_law_985 rfl ?_
  refine aw_iload_n (npc := 987) rfl dL_law_986 rfl ?_
  refine aw_iconst (npc := 988) (v := nI 2) (by decide) dL_law_987 rfl ?_
  refine aw_iaddV (npc := 989) (v := nI (p + 2)) dL_law_988 rfl (nI_add p 2) ?_
  refine aw_script_ld (npc := 990) (j := p + 2) dL_law_989 rfl (am_ix_nI (by omega)) e2 ?_
  refine aw_callV (npc := 993) (N := mX8_textTold) (b := 69) (mc := 0) (ms := 0) (A := [.int x1, .int x2]) (S := []) (L0 := [some (.ref 69), some (.int x1), some (.int x2)]) dL_law_990 rfl km_X8_textTold kk_L_124 hb8 ⟨by decide, rfl⟩ rfl ⟨rfl, by decide⟩ rfl (Nat.le_of_ble_eq_true rfl) (Nat.zero_add _) (Nat.zero_add _) rfl ?_
  refine hm 899 _ _ _ (fun h2 H2 => ?_)
  refine aw_re (S' := [.int v1]) rfl ?_
  refine aw_pop (npc := 994) rfl dL_law_993 rfl ?_
  refine aw_goto (npc := 1452) dL_law_994 (by decide) ?_
  exact kk T _ (Nat.le_succ T) H2
set_option maxRecDepth 100000 in
theorem lw_c27 {X : List Int32} {p rc rs T : Nat} {h : am_H} {x1 x2 x3 x4 x5 : Int32} (H : LI T h) (hT : T < 1000) (hp : p < 10000) (e1 : X[p + 1]? = some x1) (e2 : X[p + 2]? = some x2) (e3 : X[p + 3]? = some x3) (e4 : X[p + 4]? = some x4) (e5 : X[p + 5]? = some x5) (kk : ∀ T9 h9, T9 ≤ T + 1 → LI T9 h9 → AW X mLaw 1000 rc rs 1452 [some (.ref 1000000), some (.ref 0), some (.ref 69), some (.int (nI p))] [] (92 + 3 * T9) h9 (fun r _ _ => r = some (.int 1))) : AW X mLaw 1000 (rc + 3) (rs + 200) 997 [some (.ref 1000000), some (.ref 0), some (.ref 69), some (.int (nI p))] [] (92 + 3 * T) h (fun r _ _ => r = some (.int 1)) := by
  obtain ⟨fs7, hb7⟩ := li_7 H
  refine aw_aload_n (npc := 998) rfl dL_law_997 rfl ?_
  refine aw_aload_n (npc := 999) rfl dL_law_998 rfl ?_
  refine aw_iload_n (npc := 1000) rfl dL_law_999 rfl ?_
  refine aw_iconst (npc := 1001) (v := nI 1) (by decide) dL_law_1000 rfl ?_
  refine aw_iaddV (npc := 1002) (v := nI (p + 1)) dL_law_1001 rfl (nI_add p 1) ?_
  refine aw_script_ld (npc := 1003) (j := p + 1) dL_law_1002 rfl (am_ix_nI (by omega)) e1 ?_
  refine aw_callV (npc := 1006) (N := mX7_why) (b := 0) (mc := 3) (ms := 200) (A := [.int x1]) (S := []) (L0 := [some (.ref 0), some (.int x1)]) dL_law_1003 rfl km_X7_why kk_L_125 hb7 ⟨by decide, rfl⟩ rfl ⟨rfl, by decide⟩ rfl (Nat.le_of_ble_eq_true rfl) (Nat.add_comm _ _) (Nat.add_comm _ _) rfl ?_
  refine st_why (d := 199) H (fun v1 h1 hm => ?_)
  obtain ⟨⟨fs8, hb8⟩, hm⟩ := hm
  refine aw_re (S' := [.int v1]) rfl ?_
  refine aw_pop (npc := 1007) rfl dL_law_1006 rfl ?_
  refine aw_aload_n (npc := 1008) rfl dL_law_1007 rfl ?_
  refine aw_aload_n (npc := 1009) rfl dL_law_1008 rfl ?_
  refine aw_iload_n (npc := 1010) rfl dL_law_1009 rfl ?_
  refine aw_iconst (npc := 1011) (v := nI 1) (by decide) dL_law_1010 rfl ?_
  refine aw_iaddV (npc := 1012) (v := nI (p + 1)) dL_law_1011 rfl (nI_add p 1) ?_
  refine aw_script_ld (npc := 1013) (j := p + 1) dL_law_1012 rfl (am_ix_nI (by omega)) e1 ?_
  refine aw_callV (npc := 1016) (N := mX8_why) (b := 69) (mc := 0) (ms := 0) (A := [.int x1]) (S := []) (L0 := [some (.ref 69), some (.int x1), none]) dL_law_1013 rfl km_X8_why kk_L_128 hb8 ⟨by decide, rfl⟩ rfl ⟨rfl, by decide⟩ rfl (Nat.le_of_ble_eq_true rfl) (Nat.zero_add _) (Nat.zero_add _) rfl ?_
  refine hm 899 _ _ _ (fun h2 H2 => ?_)
  refine aw_re (S' := [.int v1]) rfl ?_
  refine aw_pop (npc := 1017) rfl dL_law_1016 rfl ?_
  refine aw_goto (npc := 1452) dL_law_1017 (by decide) ?_
  exact kk T _ (Nat.le_succ T) H2
set_option maxRecDepth 100000 in
theorem lw_c28 {X : List Int32} {p rc rs T : Nat} {h : am_H} {x1 x2 x3 x4 x5 : Int32} (H : LI T h) (hT : T < 1000) (hp : p < 10000) (e1 : X[p + 1]? = some x1) (e2 : X[p + 2]? = some x2) (e3 : X[p + 3]? = some x3) (e4 : X[p + 4]? = some x4) (e5 : X[p + 5]? = some x5) (kk : ∀ T9 h9, T9 ≤ T + 1 → LI T9 h9 → AW X mLaw 1000 rc rs 1452 [some (.ref 1000000), some (.ref 0), some (.ref 69), some (.int (nI p))] [] (92 + 3 * T9) h9 (fun r _ _ => r = some (.int 1))) : AW X mLaw 1000 (rc + 3) (rs + 200) 1020 [some (.ref 1000000), some (.ref 0), some (.ref 69), some (.int (nI p))] [] (92 + 3 * T) h (fun r _ _ => r = some (.int 1)) := by
  obtain ⟨fs7, hb7⟩ := li_7 H
  refine aw_aload_n (npc := 1021) rfl dL_law_1020 rfl ?_
  refine aw_aload_n (npc := 1022) rfl dL_law_1021 rfl ?_
  refine aw_iload_n (npc := 1023) rfl dL_law_1022 rfl ?_
  refine aw_iconst (npc := 1024) (v := nI 1) (by decide) dL_law_1023 rfl ?_
  refine aw_iaddV (npc := 1025) (v := nI (p + 1)) dL_law_1024 rfl (nI_add p 1) ?_
  refine aw_script_ld (npc := 1026) (j := p + 1) dL_law_1025 rfl (am_ix_nI (by omega)) e1 ?_
  refine aw_aload_n (npc := 1027) rfl dL_law_1026 rfl ?_
  refine aw_iload_n (npc := 1028) rfl dL_law_1027 rfl ?_
  refine aw_iconst (npc := 1029) (v := nI 2) (by decide) dL_law_1028 rfl ?_
  refine aw_iaddV (npc := 1030) (v := nI (p + 2)) dL_law_1029 rfl (nI_add p 2) ?_
  refine aw_script_ld (npc := 1031) (j := p + 2) dL_law_1030 rfl (am_ix_nI (by omega)) e2 ?_
  refine aw_aload_n (npc := 1032) rfl dL_law_1031 rfl ?_
  refine aw_iload_n (npc := 1033) rfl dL_law_1032 rfl ?_
  refine aw_iconst (npc := 1034) (v := nI 3) (by decide) dL_law_1033 rfl ?_
  refine aw_iaddV (npc := 1035) (v := nI (p + 3)) dL_law_1034 rfl (nI_add p 3) ?_
  refine aw_script_ld (npc := 1036) (j := p + 3) dL_law_1035 rfl (am_ix_nI (by omega)) e3 ?_
  refine aw_callV (npc := 1039) (N := mX7_sheet) (b := 0) (mc := 3) (ms := 200) (A := [.int x1, .int x2, .int x3]) (S := []) (L0 := [some (.ref 0), some (.int x1), some (.int x2), some (.int x3)]) dL_law_1036 rfl km_X7_sheet kk_L_129 hb7 ⟨by decide, rfl⟩ rfl ⟨rfl, by decide⟩ rfl (Nat.le_of_ble_eq_true rfl) (Nat.add_comm _ _) (Nat.add_comm _ _) rfl ?_
  refine st_sheet (d := 199) H (fun v1 h1 hm => ?_)
  obtain ⟨⟨fs8, hb8⟩, hm⟩ := hm
  refine aw_re (S' := [.int v1]) rfl ?_
  refine aw_pop (npc := 1040) rfl dL_law_1039 rfl ?_
  refine aw_aload_n (npc := 1041) rfl dL_law_1040 rfl ?_
  refine aw_aload_n (npc := 1042) rfl dL_law_1041 rfl ?_
  refine aw_iload_n (npc := 1043) rfl dL_law_1042 rfl ?_
  refine aw_iconst (npc := 1044) (v := nI 1) (by decide) dL_law_1043 rfl ?_
  refine aw_iaddV (npc := 1045) (v := nI (p + 1)) dL_law_1044 rfl (nI_add p 1) ?_
  refine aw_script_ld (npc := 1046) (j := p + 1) dL_law_1045 rfl (am_ix_nI (by omega)) e1 ?_
  refine aw_aload_n (npc := 1047) rfl dL_law_1046 rfl ?_
  refine aw_iload_n (npc := 1048) rfl dL_law_1047 rfl ?_
  refine aw_iconst (npc := 1049) (v := nI 2) (by decide) dL_law_1048 rfl ?_
  refine aw_iaddV (npc := 1050) (v := nI (p + 2)) dL_law_1049 rfl (nI_add p 2) ?_
  refine aw_script_ld (npc := 1051) (j := p + 2) dL_law_1050 rfl (am_ix_nI (by omega)) e2 ?_
  refine aw_aload_n (npc := 1052) rfl dL_law_1051 rfl ?_
  refine aw_iload_n (npc := 1053) rfl dL_law_1052 rfl ?_
  refine aw_iconst (npc := 1054) (v := nI 3) (by decide) dL_law_1053 rfl ?_
  refine aw_iaddV (npc := 1055) (v := nI (p + 3)) dL_law_1054 rfl (nI_add p 3) ?_
  refine aw_script_ld (npc := 1056) (j := p + 3) dL_law_1055 rfl (am_ix_nI (by omega)) e3 ?_
  refine aw_callV (npc := 1059) (N := mX8_sheet) (b := 69) (mc := 0) (ms := 0) (A := [.int x1, .int x2, .int x3]) (S := []) (L0 := [some (.ref 69), some (.int x1), some (.int x2), some (.int x3), none]) dL_law_1056 rfl km_X8_sheet kk_L_132 hb8 ⟨by decide, rfl⟩ rfl ⟨rfl, by decide⟩ rfl (Nat.le_of_ble_eq_true rfl) (Nat.zero_add _) (Nat.zero_add _) rfl ?_
  refine hm 899 _ _ _ (fun h2 H2 => ?_)
  refine aw_re (S' := [.int v1]) rfl ?_
  refine aw_pop (npc := 1060) rfl dL_law_1059 rfl ?_
  refine aw_goto (npc := 1452) dL_law_1060 (by decide) ?_
  exact kk T _ (Nat.le_succ T) H2
set_option maxRecDepth 100000 in
theorem lw_c29 {X : List Int32} {p rc rs T : Nat} {h : am_H} {x1 x2 x3 x4 x5 : Int32} (H : LI T h) (hT : T < 1000) (hp : p < 10000) (e1 : X[p + 1]? = some x1) (e2 : X[p + 2]? = some x2) (e3 : X[p + 3]? = some x3) (e4 : X[p + 4]? = some x4) (e5 : X[p + 5]? = some x5) (kk : ∀ T9 h9, T9 ≤ T + 1 → LI T9 h9 → AW X mLaw 1000 rc rs 1452 [some (.ref 1000000), some (.ref 0), some (.ref 69), some (.int (nI p))] [] (92 + 3 * T9) h9 (fun r _ _ => r = some (.int 1))) : AW X mLaw 1000 (rc + 3) (rs + 200) 1063 [some (.ref 1000000), some (.ref 0), some (.ref 69), some (.int (nI p))] [] (92 + 3 * T) h (fun r _ _ => r = some (.int 1)) := by
  obtain ⟨fs7, hb7⟩ := li_7 H
  refine aw_aload_n (npc := 1064) rfl dL_law_1063 rfl ?_
  refine aw_aload_n (npc := 1065) rfl dL_law_1064 rfl ?_
  refine aw_iload_n (npc := 1066) rfl dL_law_1065 rfl ?_
  refine aw_iconst (npc := 1067) (v := nI 1) (by decide) dL_law_1066 rfl ?_
  refine aw_iaddV (npc := 1068) (v := nI (p + 1)) dL_law_1067 rfl (nI_add p 1) ?_
  refine aw_script_ld (npc := 1069) (j := p + 1) dL_law_1068 rfl (am_ix_nI (by omega)) e1 ?_
  refine aw_aload_n (npc := 1070) rfl dL_law_1069 rfl ?_
  refine aw_iload_n (npc := 1071) rfl dL_law_1070 rfl ?_
  refine aw_iconst (npc := 1072) (v := nI 2) (by decide) dL_law_1071 rfl ?_
  refine aw_iaddV (npc := 1073) (v := nI (p + 2)) dL_law_1072 rfl (nI_add p 2) ?_
  refine aw_script_ld (npc := 1074) (j := p + 2) dL_law_1073 rfl (am_ix_nI (by omega)) e2 ?_
  refine aw_aload_n (npc := 1075) rfl dL_law_1074 rfl ?_
  refine aw_iload_n (npc := 1076) rfl dL_law_1075 rfl ?_
  refine aw_iconst (npc := 1077) (v := nI 3) (by decide) dL_law_1076 rfl ?_
  refine aw_iaddV (npc := 1078) (v := nI (p + 3)) dL_law_1077 rfl (nI_add p 3) ?_
  refine aw_script_ld (npc := 1079) (j := p + 3) dL_law_1078 rfl (am_ix_nI (by omega)) e3 ?_
  refine aw_callV (npc := 1082) (N := mX7_mark) (b := 0) (mc := 3) (ms := 200) (A := [.int x1, .int x2, .int x3]) (S := []) (L0 := [some (.ref 0), some (.int x1), some (.int x2), some (.int x3), none]) dL_law_1079 rfl km_X7_mark kk_L_133 hb7 ⟨by decide, rfl⟩ rfl ⟨rfl, by decide⟩ rfl (Nat.le_of_ble_eq_true rfl) (Nat.add_comm _ _) (Nat.add_comm _ _) rfl ?_
  refine st_mark (d := 199) H (fun v1 h1 hm => ?_)
  obtain ⟨⟨fs8, hb8⟩, hm⟩ := hm
  refine aw_re (S' := [.int v1]) rfl ?_
  refine aw_pop (npc := 1083) rfl dL_law_1082 rfl ?_
  refine aw_aload_n (npc := 1084) rfl dL_law_1083 rfl ?_
  refine aw_aload_n (npc := 1085) rfl dL_law_1084 rfl ?_
  refine aw_iload_n (npc := 1086) rfl dL_law_1085 rfl ?_
  refine aw_iconst (npc := 1087) (v := nI 1) (by decide) dL_law_1086 rfl ?_
  refine aw_iaddV (npc := 1088) (v := nI (p + 1)) dL_law_1087 rfl (nI_add p 1) ?_
  refine aw_script_ld (npc := 1089) (j := p + 1) dL_law_1088 rfl (am_ix_nI (by omega)) e1 ?_
  refine aw_aload_n (npc := 1090) rfl dL_law_1089 rfl ?_
  refine aw_iload_n (npc := 1091) rfl dL_law_1090 rfl ?_
  refine aw_iconst (npc := 1092) (v := nI 2) (by decide) dL_law_1091 rfl ?_
  refine aw_iaddV (npc := 1093) (v := nI (p + 2)) dL_law_1092 rfl (nI_add p 2) ?_
  refine aw_script_ld (npc := 1094) (j := p + 2) dL_law_1093 rfl (am_ix_nI (by omega)) e2 ?_
  refine aw_aload_n (npc := 1095) rfl dL_law_1094 rfl ?_
  refine aw_iload_n (npc := 1096) rfl dL_law_1095 rfl ?_
  refine aw_iconst (npc := 1097) (v := nI 3) (by decide) dL_law_1096 rfl ?_
  refine aw_iaddV (npc := 1098) (v := nI (p + 3)) dL_law_1097 rfl (nI_add p 3) ?_
  refine aw_script_ld (npc := 1099) (j := p + 3) dL_law_1098 rfl (am_ix_nI (by omega)) e3 ?_
  refine aw_callV (npc := 1102) (N := mX8_mark) (b := 69) (mc := 0) (ms := 0) (A := [.int x1, .int x2, .int x3]) (S := []) (L0 := [some (.ref 69), some (.int x1), some (.int x2), some (.int x3)]) dL_law_1099 rfl km_X8_mark kk_L_136 hb8 ⟨by decide, rfl⟩ rfl ⟨rfl, by decide⟩ rfl (Nat.le_of_ble_eq_true rfl) (Nat.zero_add _) (Nat.zero_add _) rfl ?_
  refine hm 899 _ _ _ (fun h2 H2 => ?_)
  refine aw_re (S' := [.int v1]) rfl ?_
  refine aw_pop (npc := 1103) rfl dL_law_1102 rfl ?_
  refine aw_goto (npc := 1452) dL_law_1103 (by decide) ?_
  exact kk T _ (Nat.le_succ T) H2
set_option maxRecDepth 100000 in
theorem lw_c30 {X : List Int32} {p rc rs T : Nat} {h : am_H} {x1 x2 x3 x4 x5 : Int32} (H : LI T h) (hT : T < 1000) (hp : p < 10000) (e1 : X[p + 1]? = some x1) (e2 : X[p + 2]? = some x2) (e3 : X[p + 3]? = some x3) (e4 : X[p + 4]? = some x4) (e5 : X[p + 5]? = some x5) (kk : ∀ T9 h9, T9 ≤ T + 1 → LI T9 h9 → AW X mLaw 1000 rc rs 1452 [some (.ref 1000000), some (.ref 0), some (.ref 69), some (.int (nI p))] [] (92 + 3 * T9) h9 (fun r _ _ => r = some (.int 1))) : AW X mLaw 1000 (rc + 3) (rs + 200) 1106 [some (.ref 1000000), some (.ref 0), some (.ref 69), some (.int (nI p))] [] (92 + 3 * T) h (fun r _ _ => r = some (.int 1)) := by
  obtain ⟨fs7, hb7⟩ := li_7 H
  refine aw_aload_n (npc := 1107) rfl dL_law_1106 rfl ?_
  refine aw_aload_n (npc := 1108) rfl dL_law_1107 rfl ?_
  refine aw_iload_n (npc := 1109) rfl dL_law_1108 rfl ?_
  refine aw_iconst (npc := 1110) (v := nI 1) (by decide) dL_law_1109 rfl ?_
  refine aw_iaddV (npc := 1111) (v := nI (p + 1)) dL_law_1110 rfl (nI_add p 1) ?_
  refine aw_script_ld (npc := 1112) (j := p + 1) dL_law_1111 rfl (am_ix_nI (by omega)) e1 ?_
  refine aw_callV (npc := 1115) (N := mX7_pour) (b := 0) (mc := 3) (ms := 200) (A := [.int x1]) (S := []) (L0 := [some (.ref 0), some (.int x1), none, none, none, none]) dL_law_1112 rfl km_X7_pour kk_L_137 hb7 ⟨by decide, rfl⟩ rfl ⟨rfl, by decide⟩ rfl (Nat.le_of_ble_eq_true rfl) (Nat.add_comm _ _) (Nat.add_comm _ _) rfl ?_
  refine st_pour (d := 199) H (fun v1 h1 hm => ?_)
  obtain ⟨⟨fs8, hb8⟩, hm⟩ := hm
  refine aw_re (S' := [.int v1]) rfl ?_
  refine aw_pop (npc := 1116) rfl dL_law_1115 rfl ?_
  refine aw_aload_n (npc := 1117) rfl dL_law_1116 rfl ?_
  refine aw_aload_n (npc := 1118) rfl dL_law_1117 rfl ?_
  refine aw_iload_n (npc := 1119) rfl dL_law_1118 rfl ?_
  refine aw_iconst (npc := 1120) (v := nI 1) (by decide) dL_law_1119 rfl ?_
  refine aw_iaddV (npc := 1121) (v := nI (p + 1)) dL_law_1120 rfl (nI_add p 1) ?_
  refine aw_script_ld (npc := 1122) (j := p + 1) dL_law_1121 rfl (am_ix_nI (by omega)) e1 ?_
  refine aw_callV (npc := 1125) (N := mX8_pour) (b := 69) (mc := 0) (ms := 0) (A := [.int x1]) (S := []) (L0 := [some (.ref 69), some (.int x1), none, none, none, none]) dL_law_1122 rfl km_X8_pour kk_L_140 hb8 ⟨by decide, rfl⟩ rfl ⟨rfl, by decide⟩ rfl (Nat.le_of_ble_eq_true rfl) (Nat.zero_add _) (Nat.zero_add _) rfl ?_
  refine hm 899 _ _ _ (fun h2 H2 => ?_)
  refine aw_re (S' := [.int v1]) rfl ?_
  refine aw_pop (npc := 1126) rfl dL_law_1125 rfl ?_
  refine aw_goto (npc := 1452) dL_law_1126 (by decide) ?_
  exact kk T _ (Nat.le_succ T) H2
set_option maxRecDepth 100000 in
theorem lw_c31 {X : List Int32} {p rc rs T : Nat} {h : am_H} {x1 x2 x3 x4 x5 : Int32} (H : LI T h) (hT : T < 1000) (hp : p < 10000) (e1 : X[p + 1]? = some x1) (e2 : X[p + 2]? = some x2) (e3 : X[p + 3]? = some x3) (e4 : X[p + 4]? = some x4) (e5 : X[p + 5]? = some x5) (kk : ∀ T9 h9, T9 ≤ T + 1 → LI T9 h9 → AW X mLaw 1000 rc rs 1452 [some (.ref 1000000), some (.ref 0), some (.ref 69), some (.int (nI p))] [] (92 + 3 * T9) h9 (fun r _ _ => r = some (.int 1))) : AW X mLaw 1000 (rc + 3) (rs + 200) 1129 [some (.ref 1000000), some (.ref 0), some (.ref 69), some (.int (nI p))] [] (92 + 3 * T) h (fun r _ _ => r = some (.int 1)) := by
  obtain ⟨fs7, hb7⟩ := li_7 H
  refine aw_aload_n (npc := 1130) rfl dL_law_1129 rfl ?_
  refine aw_aload_n (npc := 1131) rfl dL_law_1130 rfl ?_
  refine aw_iload_n (npc := 1132) rfl dL_law_1131 rfl ?_
  refine aw_iconst (npc := 1133) (v := nI 1) (by decide) dL_law_1132 rfl ?_
  refine aw_iaddV (npc := 1134) (v := nI (p + 1)) dL_law_1133 rfl (nI_add p 1) ?_
  refine aw_script_ld (npc := 1135) (j := p + 1) dL_law_1134 rfl (am_ix_nI (by omega)) e1 ?_
  refine aw_callV (npc := 1138) (N := mX7_reads) (b := 0) (mc := 3) (ms := 200) (A := [.int x1]) (S := []) (L0 := [some (.ref 0), some (.int x1), none, none]) dL_law_1135 rfl km_X7_reads kk_L_141 hb7 ⟨by decide, rfl⟩ rfl ⟨rfl, by decide⟩ rfl (Nat.le_of_ble_eq_true rfl) (Nat.add_comm _ _) (Nat.add_comm _ _) rfl ?_
  refine st_reads (d := 199) H (fun v1 h1 hm => ?_)
  obtain ⟨⟨fs8, hb8⟩, hm⟩ := hm
  refine aw_re (S' := [.int v1]) rfl ?_
  refine aw_pop (npc := 1139) rfl dL_law_1138 rfl ?_
  refine aw_aload_n (npc := 1140) rfl dL_law_1139 rfl ?_
  refine aw_aload_n (npc := 1141) rfl dL_law_1140 rfl ?_
  refine aw_iload_n (npc := 1142) rfl dL_law_1141 rfl ?_
  refine aw_iconst (npc := 1143) (v := nI 1) (by decide) dL_law_1142 rfl ?_
  refine aw_iaddV (npc := 1144) (v := nI (p + 1)) dL_law_1143 rfl (nI_add p 1) ?_
  refine aw_script_ld (npc := 1145) (j := p + 1) dL_law_1144 rfl (am_ix_nI (by omega)) e1 ?_
  refine aw_callV (npc := 1148) (N := mX8_reads) (b := 69) (mc := 0) (ms := 0) (A := [.int x1]) (S := []) (L0 := [some (.ref 69), some (.int x1), none]) dL_law_1145 rfl km_X8_reads kk_L_144 hb8 ⟨by decide, rfl⟩ rfl ⟨rfl, by decide⟩ rfl (Nat.le_of_ble_eq_true rfl) (Nat.zero_add _) (Nat.zero_add _) rfl ?_
  refine hm 899 _ _ _ (fun h2 H2 => ?_)
  refine aw_re (S' := [.int v1]) rfl ?_
  refine aw_pop (npc := 1149) rfl dL_law_1148 rfl ?_
  refine aw_goto (npc := 1452) dL_law_1149 (by decide) ?_
  exact kk T _ (Nat.le_succ T) H2
set_option maxRecDepth 100000 in
theorem lw_c32 {X : List Int32} {p rc rs T : Nat} {h : am_H} {x1 x2 x3 x4 x5 : Int32} (H : LI T h) (hT : T < 1000) (hp : p < 10000) (e1 : X[p + 1]? = some x1) (e2 : X[p + 2]? = some x2) (e3 : X[p + 3]? = some x3) (e4 : X[p + 4]? = some x4) (e5 : X[p + 5]? = some x5) (kk : ∀ T9 h9, T9 ≤ T + 1 → LI T9 h9 → AW X mLaw 1000 rc rs 1452 [some (.ref 1000000), some (.ref 0), some (.ref 69), some (.int (nI p))] [] (92 + 3 * T9) h9 (fun r _ _ => r = some (.int 1))) : AW X mLaw 1000 (rc + 3) (rs + 200) 1152 [some (.ref 1000000), some (.ref 0), some (.ref 69), some (.int (nI p))] [] (92 + 3 * T) h (fun r _ _ => r = some (.int 1)) := by
  obtain ⟨fs7, hb7⟩ := li_7 H
  refine aw_aload_n (npc := 1153) rfl dL_law_1152 rfl ?_
  refine aw_aload_n (npc := 1154) rfl dL_law_1153 rfl ?_
  refine aw_iload_n (npc := 1155) rfl dL_law_1154 rfl ?_
  refine aw_iconst (npc := 1156) (v := nI 1) (by decide) dL_law_1155 rfl ?_
  refine aw_iaddV (npc := 1157) (v := nI (p + 1)) dL_law_1156 rfl (nI_add p 1) ?_
  refine aw_script_ld (npc := 1158) (j := p + 1) dL_law_1157 rfl (am_ix_nI (by omega)) e1 ?_
  refine aw_aload_n (npc := 1159) rfl dL_law_1158 rfl ?_
  refine aw_iload_n (npc := 1160) rfl dL_law_1159 rfl ?_
  refine aw_iconst (npc := 1161) (v := nI 2) (by decide) dL_law_1160 rfl ?_
  refine aw_iaddV (npc := 1162) (v := nI (p + 2)) dL_law_1161 rfl (nI_add p 2) ?_
  refine aw_script_ld (npc := 1163) (j := p + 2) dL_law_1162 rfl (am_ix_nI (by omega)) e2 ?_
  refine aw_aload_n (npc := 1164) rfl dL_law_1163 rfl ?_
  refine aw_iload_n (npc := 1165) rfl dL_law_1164 rfl ?_
  refine aw_iconst (npc := 1166) (v := nI 3) (by decide) dL_law_1165 rfl ?_
  refine aw_iaddV (npc := 1167) (v := nI (p + 3)) dL_law_1166 rfl (nI_add p 3) ?_
  refine aw_script_ld (npc := 1168) (j := p + 3) dL_law_1167 rfl (am_ix_nI (by omega)) e3 ?_
  refine aw_aload_n (npc := 1169) rfl dL_law_1168 rfl ?_
  refine aw_iload_n (npc := 1170) rfl dL_law_1169 rfl ?_
  refine aw_iconst (npc := 1171) (v := nI 4) (by decide) dL_law_1170 rfl ?_
  refine aw_iaddV (npc := 1172) (v := nI (p + 4)) dL_law_1171 rfl (nI_add p 4) ?_
  refine aw_script_ld (npc := 1173) (j := p + 4) dL_law_1172 rfl (am_ix_nI (by omega)) e4 ?_
  refine aw_aload_n (npc := 1174) rfl dL_law_1173 rfl ?_
  refine aw_iload_n (npc := 1175) rfl dL_law_1174 rfl ?_
  refine aw_iconst (npc := 1176) (v := nI 5) (by decide) dL_law_1175 rfl ?_
  refine aw_iaddV (npc := 1177) (v := nI (p + 5)) dL_law_1176 rfl (nI_add p 5) ?_
  refine aw_script_ld (npc := 1178) (j := p + 5) dL_law_1177 rfl (am_ix_nI (by omega)) e5 ?_
  refine aw_callV (npc := 1181) (N := mX7_copy) (b := 0) (mc := 3) (ms := 200) (A := [.int x1, .int x2, .int x3, .int x4, .int x5]) (S := []) (L0 := [some (.ref 0), some (.int x1), some (.int x2), some (.int x3), some (.int x4), some (.int x5), none, none]) dL_law_1178 rfl km_X7_copy kk_L_145 hb7 ⟨by decide, rfl⟩ rfl ⟨rfl, by decide⟩ rfl (Nat.le_of_ble_eq_true rfl) (Nat.add_comm _ _) (Nat.add_comm _ _) rfl ?_
  refine st_copy (d := 199) H (fun v1 h1 hm => ?_)
  obtain ⟨⟨fs8, hb8⟩, hm⟩ := hm
  refine aw_re (S' := [.int v1]) rfl ?_
  refine aw_pop (npc := 1182) rfl dL_law_1181 rfl ?_
  refine aw_aload_n (npc := 1183) rfl dL_law_1182 rfl ?_
  refine aw_aload_n (npc := 1184) rfl dL_law_1183 rfl ?_
  refine aw_iload_n (npc := 1185) rfl dL_law_1184 rfl ?_
  refine aw_iconst (npc := 1186) (v := nI 1) (by decide) dL_law_1185 rfl ?_
  refine aw_iaddV (npc := 1187) (v := nI (p + 1)) dL_law_1186 rfl (nI_add p 1) ?_
  refine aw_script_ld (npc := 1188) (j := p + 1) dL_law_1187 rfl (am_ix_nI (by omega)) e1 ?_
  refine aw_aload_n (npc := 1189) rfl dL_law_1188 rfl ?_
  refine aw_iload_n (npc := 1190) rfl dL_law_1189 rfl ?_
  refine aw_iconst (npc := 1191) (v := nI 2) (by decide) dL_law_1190 rfl ?_
  refine aw_iaddV (npc := 1192) (v := nI (p + 2)) dL_law_1191 rfl (nI_add p 2) ?_
  refine aw_script_ld (npc := 1193) (j := p + 2) dL_law_1192 rfl (am_ix_nI (by omega)) e2 ?_
  refine aw_aload_n (npc := 1194) rfl dL_law_1193 rfl ?_
  refine aw_iload_n (npc := 1195) rfl dL_law_1194 rfl ?_
  refine aw_iconst (npc := 1196) (v := nI 3) (by decide) dL_law_1195 rfl ?_
  refine aw_iaddV (npc := 1197) (v := nI (p + 3)) dL_law_1196 rfl (nI_add p 3) ?_
  refine aw_script_ld (npc := 1198) (j := p + 3) dL_law_1197 rfl (am_ix_nI (by omega)) e3 ?_
  refine aw_aload_n (npc := 1199) rfl dL_law_1198 rfl ?_
  refine aw_iload_n (npc := 1200) rfl dL_law_1199 rfl ?_
  refine aw_iconst (npc := 1201) (v := nI 4) (by decide) dL_law_1200 rfl ?_
  refine aw_iaddV (npc := 1202) (v := nI (p + 4)) dL_law_1201 rfl (nI_add p 4) ?_
  refine aw_script_ld (npc := 1203) (j := p + 4) dL_law_1202 rfl (am_ix_nI (by omega)) e4 ?_
  refine aw_aload_n (npc := 1204) rfl dL_law_1203 rfl ?_
  refine aw_iload_n (npc := 1205) rfl dL_law_1204 rfl ?_
  refine aw_iconst (npc := 1206) (v := nI 5) (by decide) dL_law_1205 rfl ?_
  refine aw_iaddV (npc := 1207) (v := nI (p + 5)) dL_law_1206 rfl (nI_add p 5) ?_
  refine aw_script_ld (npc := 1208) (j := p + 5) dL_law_1207 rfl (am_ix_nI (by omega)) e5 ?_
  refine aw_callV (npc := 1211) (N := mX8_copy) (b := 69) (mc := 0) (ms := 0) (A := [.int x1, .int x2, .int x3, .int x4, .int x5]) (S := []) (L0 := [some (.ref 69), some (.int x1), some (.int x2), some (.int x3), some (.int x4), some (.int x5), none]) dL_law_1208 rfl km_X8_copy kk_L_149 hb8 ⟨by decide, rfl⟩ rfl ⟨rfl, by decide⟩ rfl (Nat.le_of_ble_eq_true rfl) (Nat.zero_add _) (Nat.zero_add _) rfl ?_
  refine hm 899 _ _ _ (fun h2 H2 => ?_)
  refine aw_re (S' := [.int v1]) rfl ?_
  refine aw_pop (npc := 1212) rfl dL_law_1211 rfl ?_
  refine aw_goto (npc := 1452) dL_law_1212 (by decide) ?_
  exact kk T _ (Nat.le_succ T) H2
set_option maxRecDepth 100000 in
theorem lw_c33 {X : List Int32} {p rc rs T : Nat} {h : am_H} {x1 x2 x3 x4 x5 : Int32} (H : LI T h) (hT : T < 1000) (hp : p < 10000) (e1 : X[p + 1]? = some x1) (e2 : X[p + 2]? = some x2) (e3 : X[p + 3]? = some x3) (e4 : X[p + 4]? = some x4) (e5 : X[p + 5]? = some x5) (kk : ∀ T9 h9, T9 ≤ T + 1 → LI T9 h9 → AW X mLaw 1000 rc rs 1452 [some (.ref 1000000), some (.ref 0), some (.ref 69), some (.int (nI p))] [] (92 + 3 * T9) h9 (fun r _ _ => r = some (.int 1))) : AW X mLaw 1000 (rc + 3) (rs + 200) 1215 [some (.ref 1000000), some (.ref 0), some (.ref 69), some (.int (nI p))] [] (92 + 3 * T) h (fun r _ _ => r = some (.int 1)) := by
  obtain ⟨fs7, hb7⟩ := li_7 H
  refine aw_aload_n (npc := 1216) rfl dL_law_1215 rfl ?_
  refine aw_aload_n (npc := 1217) rfl dL_law_1216 rfl ?_
  refine aw_iload_n (npc := 1218) rfl dL_law_1217 rfl ?_
  refine aw_iconst (npc := 1219) (v := nI 1) (by decide) dL_law_1218 rfl ?_
  refine aw_iaddV (npc := 1220) (v := nI (p + 1)) dL_law_1219 rfl (nI_add p 1) ?_
  refine aw_script_ld (npc := 1221) (j := p + 1) dL_law_1220 rfl (am_ix_nI (by omega)) e1 ?_
  refine aw_aload_n (npc := 1222) rfl dL_law_1221 rfl ?_
  refine aw_iload_n (npc := 1223) rfl dL_law_1222 rfl ?_
  refine aw_iconst (npc := 1224) (v := nI 2) (by decide) dL_law_1223 rfl ?_
  refine aw_iaddV (npc := 1225) (v := nI (p + 2)) dL_law_1224 rfl (nI_add p 2) ?_
  refine aw_script_ld (npc := 1226) (j := p + 2) dL_law_1225 rfl (am_ix_nI (by omega)) e2 ?_
  refine aw_aload_n (npc := 1227) rfl dL_law_1226 rfl ?_
  refine aw_iload_n (npc := 1228) rfl dL_law_1227 rfl ?_
  refine aw_iconst (npc := 1229) (v := nI 3) (by decide) dL_law_1228 rfl ?_
  refine aw_iaddV (npc := 1230) (v := nI (p + 3)) dL_law_1229 rfl (nI_add p 3) ?_
  refine aw_script_ld (npc := 1231) (j := p + 3) dL_law_1230 rfl (am_ix_nI (by omega)) e3 ?_
  refine aw_callV (npc := 1234) (N := mX7_lay) (b := 0) (mc := 3) (ms := 200) (A := [.int x1, .int x2, .int x3]) (S := []) (L0 := [some (.ref 0), some (.int x1), some (.int x2), some (.int x3), none, none]) dL_law_1231 rfl km_X7_lay kk_L_150 hb7 ⟨by decide, rfl⟩ rfl ⟨rfl, by decide⟩ rfl (Nat.le_of_ble_eq_true rfl) (Nat.add_comm _ _) (Nat.add_comm _ _) rfl ?_
  refine st_lay (d := 199) H (fun v1 h1 hm => ?_)
  obtain ⟨⟨fs8, hb8⟩, hm⟩ := hm
  refine aw_re (S' := [.int v1]) rfl ?_
  refine aw_pop (npc := 1235) rfl dL_law_1234 rfl ?_
  refine aw_aload_n (npc := 1236) rfl dL_law_1235 rfl ?_
  refine aw_aload_n (npc := 1237) rfl dL_law_1236 rfl ?_
  refine aw_iload_n (npc := 1238) rfl dL_law_1237 rfl ?_
  refine aw_iconst (npc := 1239) (v := nI 1) (by decide) dL_law_1238 rfl ?_
  refine aw_iaddV (npc := 1240) (v := nI (p + 1)) dL_law_1239 rfl (nI_add p 1) ?_
  refine aw_script_ld (npc := 1241) (j := p + 1) dL_law_1240 rfl (am_ix_nI (by omega)) e1 ?_
  refine aw_aload_n (npc := 1242) rfl dL_law_1241 rfl ?_
  refine aw_iload_n (npc := 1243) rfl dL_law_1242 rfl ?_
  refine aw_iconst (npc := 1244) (v := nI 2) (by decide) dL_law_1243 rfl ?_
  refine aw_iaddV (npc := 1245) (v := nI (p + 2)) dL_law_1244 rfl (nI_add p 2) ?_
  refine aw_script_ld (npc := 1246) (j := p + 2) dL_law_1245 rfl (am_ix_nI (by omega)) e2 ?_
  refine aw_aload_n (npc := 1247) rfl dL_law_1246 rfl ?_
  refine aw_iload_n (npc := 1248) rfl dL_law_1247 rfl ?_
  refine aw_iconst (npc := 1249) (v := nI 3) (by decide) dL_law_1248 rfl ?_
  refine aw_iaddV (npc := 1250) (v := nI (p + 3)) dL_law_1249 rfl (nI_add p 3) ?_
  refine aw_script_ld (npc := 1251) (j := p + 3) dL_law_1250 rfl (am_ix_nI (by omega)) e3 ?_
  refine aw_callV (npc := 1254) (N := mX8_lay) (b := 69) (mc := 0) (ms := 0) (A := [.int x1, .int x2, .int x3]) (S := []) (L0 := [some (.ref 69), some (.int x1), some (.int x2), some (.int x3), none, none]) dL_law_1251 rfl km_X8_lay kk_L_153 hb8 ⟨by decide, rfl⟩ rfl ⟨rfl, by decide⟩ rfl (Nat.le_of_ble_eq_true rfl) (Nat.zero_add _) (Nat.zero_add _) rfl ?_
  refine hm 899 _ _ _ (fun h2 H2 => ?_)
  refine aw_re (S' := [.int v1]) rfl ?_
  refine aw_pop (npc := 1255) rfl dL_law_1254 rfl ?_
  refine aw_goto (npc := 1452) dL_law_1255 (by decide) ?_
  exact kk T _ (Nat.le_succ T) H2
set_option maxRecDepth 100000 in
theorem lw_c34 {X : List Int32} {p rc rs T : Nat} {h : am_H} {x1 x2 x3 x4 x5 : Int32} (H : LI T h) (hT : T < 1000) (hp : p < 10000) (e1 : X[p + 1]? = some x1) (e2 : X[p + 2]? = some x2) (e3 : X[p + 3]? = some x3) (e4 : X[p + 4]? = some x4) (e5 : X[p + 5]? = some x5) (kk : ∀ T9 h9, T9 ≤ T + 1 → LI T9 h9 → AW X mLaw 1000 rc rs 1452 [some (.ref 1000000), some (.ref 0), some (.ref 69), some (.int (nI p))] [] (92 + 3 * T9) h9 (fun r _ _ => r = some (.int 1))) : AW X mLaw 1000 (rc + 3) (rs + 200) 1258 [some (.ref 1000000), some (.ref 0), some (.ref 69), some (.int (nI p))] [] (92 + 3 * T) h (fun r _ _ => r = some (.int 1)) := by
  obtain ⟨fs7, hb7⟩ := li_7 H
  refine aw_aload_n (npc := 1259) rfl dL_law_1258 rfl ?_
  refine aw_aload_n (npc := 1260) rfl dL_law_1259 rfl ?_
  refine aw_iload_n (npc := 1261) rfl dL_law_1260 rfl ?_
  refine aw_iconst (npc := 1262) (v := nI 1) (by decide) dL_law_1261 rfl ?_
  refine aw_iaddV (npc := 1263) (v := nI (p + 1)) dL_law_1262 rfl (nI_add p 1) ?_
  refine aw_script_ld (npc := 1264) (j := p + 1) dL_law_1263 rfl (am_ix_nI (by omega)) e1 ?_
  refine aw_aload_n (npc := 1265) rfl dL_law_1264 rfl ?_
  refine aw_iload_n (npc := 1266) rfl dL_law_1265 rfl ?_
  refine aw_iconst (npc := 1267) (v := nI 2) (by decide) dL_law_1266 rfl ?_
  refine aw_iaddV (npc := 1268) (v := nI (p + 2)) dL_law_1267 rfl (nI_add p 2) ?_
  refine aw_script_ld (npc := 1269) (j := p + 2) dL_law_1268 rfl (am_ix_nI (by omega)) e2 ?_
  refine aw_callV (npc := 1272) (N := mX7_ask) (b := 0) (mc := 3) (ms := 200) (A := [.int x1, .int x2]) (S := []) (L0 := [some (.ref 0), some (.int x1), some (.int x2), none]) dL_law_1269 rfl km_X7_ask kk_L_154 hb7 ⟨by decide, rfl⟩ rfl ⟨rfl, by decide⟩ rfl (Nat.le_of_ble_eq_true rfl) (Nat.add_comm _ _) (Nat.add_comm _ _) rfl ?_
  refine st_ask (d := 199) H (fun v1 h1 hm => ?_)
  obtain ⟨⟨fs8, hb8⟩, hm⟩ := hm
  refine aw_re (S' := [.int v1]) rfl ?_
  refine aw_pop (npc := 1273) rfl dL_law_1272 rfl ?_
  refine aw_aload_n (npc := 1274) rfl dL_law_1273 rfl ?_
  refine aw_aload_n (npc := 1275) rfl dL_law_1274 rfl ?_
  refine aw_iload_n (npc := 1276) rfl dL_law_1275 rfl ?_
  refine aw_iconst (npc := 1277) (v := nI 1) (by decide) dL_law_1276 rfl ?_
  refine aw_iaddV (npc := 1278) (v := nI (p + 1)) dL_law_1277 rfl (nI_add p 1) ?_
  refine aw_script_ld (npc := 1279) (j := p + 1) dL_law_1278 rfl (am_ix_nI (by omega)) e1 ?_
  refine aw_aload_n (npc := 1280) rfl dL_law_1279 rfl ?_
  refine aw_iload_n (npc := 1281) rfl dL_law_1280 rfl ?_
  refine aw_iconst (npc := 1282) (v := nI 2) (by decide) dL_law_1281 rfl ?_
  refine aw_iaddV (npc := 1283) (v := nI (p + 2)) dL_law_1282 rfl (nI_add p 2) ?_
  refine aw_script_ld (npc := 1284) (j := p + 2) dL_law_1283 rfl (am_ix_nI (by omega)) e2 ?_
  refine aw_callV (npc := 1287) (N := mX8_ask) (b := 69) (mc := 0) (ms := 0) (A := [.int x1, .int x2]) (S := []) (L0 := [some (.ref 69), some (.int x1), some (.int x2)]) dL_law_1284 rfl km_X8_ask kk_L_157 hb8 ⟨by decide, rfl⟩ rfl ⟨rfl, by decide⟩ rfl (Nat.le_of_ble_eq_true rfl) (Nat.zero_add _) (Nat.zero_add _) rfl ?_
  refine hm 899 _ _ _ (fun h2 H2 => ?_)
  refine aw_re (S' := [.int v1]) rfl ?_
  refine aw_pop (npc := 1288) rfl dL_law_1287 rfl ?_
  refine aw_goto (npc := 1452) dL_law_1288 (by decide) ?_
  exact kk T _ (Nat.le_succ T) H2
set_option maxRecDepth 100000 in
theorem lw_c35 {X : List Int32} {p rc rs T : Nat} {h : am_H} {x1 x2 x3 x4 x5 : Int32} (H : LI T h) (hT : T < 1000) (hp : p < 10000) (e1 : X[p + 1]? = some x1) (e2 : X[p + 2]? = some x2) (e3 : X[p + 3]? = some x3) (e4 : X[p + 4]? = some x4) (e5 : X[p + 5]? = some x5) (kk : ∀ T9 h9, T9 ≤ T + 1 → LI T9 h9 → AW X mLaw 1000 rc rs 1452 [some (.ref 1000000), some (.ref 0), some (.ref 69), some (.int (nI p))] [] (92 + 3 * T9) h9 (fun r _ _ => r = some (.int 1))) : AW X mLaw 1000 (rc + 3) (rs + 200) 1291 [some (.ref 1000000), some (.ref 0), some (.ref 69), some (.int (nI p))] [] (92 + 3 * T) h (fun r _ _ => r = some (.int 1)) := by
  obtain ⟨fs7, hb7⟩ := li_7 H
  refine aw_aload_n (npc := 1292) rfl dL_law_1291 rfl ?_
  refine aw_aload_n (npc := 1293) rfl dL_law_1292 rfl ?_
  refine aw_iload_n (npc := 1294) rfl dL_law_1293 rfl ?_
  refine aw_iconst (npc := 1295) (v := nI 1) (by decide) dL_law_1294 rfl ?_
  refine aw_iaddV (npc := 1296) (v := nI (p + 1)) dL_law_1295 rfl (nI_add p 1) ?_
  refine aw_script_ld (npc := 1297) (j := p + 1) dL_law_1296 rfl (am_ix_nI (by omega)) e1 ?_
  refine aw_aload_n (npc := 1298) rfl dL_law_1297 rfl ?_
  refine aw_iload_n (npc := 1299) rfl dL_law_1298 rfl ?_
  refine aw_iconst (npc := 1300) (v := nI 2) (by decide) dL_law_1299 rfl ?_
  refine aw_iaddV (npc := 1301) (v := nI (p + 2)) dL_law_1300 rfl (nI_add p 2) ?_
  refine aw_script_ld (npc := 1302) (j := p + 2) dL_law_1301 rfl (am_ix_nI (by omega)) e2 ?_
  refine aw_callV (npc := 1305) (N := mX7_item) (b := 0) (mc := 3) (ms := 200) (A := [.int x1, .int x2]) (S := []) (L0 := [some (.ref 0), some (.int x1), some (.int x2), none]) dL_law_1302 rfl km_X7_item kk_L_158 hb7 ⟨by decide, rfl⟩ rfl ⟨rfl, by decide⟩ rfl (Nat.le_of_ble_eq_true rfl) (Nat.add_comm _ _) (Nat.add_comm _ _) rfl ?_
  refine st_item (d := 199) H (fun v1 h1 hm => ?_)
  obtain ⟨⟨fs8, hb8⟩, hm⟩ := hm
  refine aw_re (S' := [.int v1]) rfl ?_
  refine aw_pop (npc := 1306) rfl dL_law_1305 rfl ?_
  refine aw_aload_n (npc := 1307) rfl dL_law_1306 rfl ?_
  refine aw_aload_n (npc := 1308) rfl dL_law_1307 rfl ?_
  refine aw_iload_n (npc := 1309) rfl dL_law_1308 rfl ?_
  refine aw_iconst (npc := 1310) (v := nI 1) (by decide) dL_law_1309 rfl ?_
  refine aw_iaddV (npc := 1311) (v := nI (p + 1)) dL_law_1310 rfl (nI_add p 1) ?_
  refine aw_script_ld (npc := 1312) (j := p + 1) dL_law_1311 rfl (am_ix_nI (by omega)) e1 ?_
  refine aw_aload_n (npc := 1313) rfl dL_law_1312 rfl ?_
  refine aw_iload_n (npc := 1314) rfl dL_law_1313 rfl ?_
  refine aw_iconst (npc := 1315) (v := nI 2) (by decide) dL_law_1314 rfl ?_
  refine aw_iaddV (npc := 1316) (v := nI (p + 2)) dL_law_1315 rfl (nI_add p 2) ?_
  refine aw_script_ld (npc := 1317) (j := p + 2) dL_law_1316 rfl (am_ix_nI (by omega)) e2 ?_
  refine aw_callV (npc := 1320) (N := mX8_item) (b := 69) (mc := 0) (ms := 0) (A := [.int x1, .int x2]) (S := []) (L0 := [some (.ref 69), some (.int x1), some (.int x2), none]) dL_law_1317 rfl km_X8_item kk_L_161 hb8 ⟨by decide, rfl⟩ rfl ⟨rfl, by decide⟩ rfl (Nat.le_of_ble_eq_true rfl) (Nat.zero_add _) (Nat.zero_add _) rfl ?_
  refine hm 899 _ _ _ (fun h2 H2 => ?_)
  refine aw_re (S' := [.int v1]) rfl ?_
  refine aw_pop (npc := 1321) rfl dL_law_1320 rfl ?_
  refine aw_goto (npc := 1452) dL_law_1321 (by decide) ?_
  exact kk T _ (Nat.le_succ T) H2
set_option maxRecDepth 100000 in
theorem lw_c36 {X : List Int32} {p rc rs T : Nat} {h : am_H} {x1 x2 x3 x4 x5 : Int32} (H : LI T h) (hT : T < 1000) (hp : p < 10000) (e1 : X[p + 1]? = some x1) (e2 : X[p + 2]? = some x2) (e3 : X[p + 3]? = some x3) (e4 : X[p + 4]? = some x4) (e5 : X[p + 5]? = some x5) (kk : ∀ T9 h9, T9 ≤ T + 1 → LI T9 h9 → AW X mLaw 1000 rc rs 1452 [some (.ref 1000000), some (.ref 0), some (.ref 69), some (.int (nI p))] [] (92 + 3 * T9) h9 (fun r _ _ => r = some (.int 1))) : AW X mLaw 1000 (rc + 3) (rs + 200) 1324 [some (.ref 1000000), some (.ref 0), some (.ref 69), some (.int (nI p))] [] (92 + 3 * T) h (fun r _ _ => r = some (.int 1)) := by
  obtain ⟨fs7, hb7⟩ := li_7 H
  refine aw_aload_n (npc := 1325) rfl dL_law_1324 rfl ?_
  refine aw_aload_n (npc := 1326) rfl dL_law_1325 rfl ?_
  refine aw_iload_n (npc := 1327) rfl dL_law_1326 rfl ?_
  refine aw_iconst (npc := 1328) (v := nI 1) (by decide) dL_law_1327 rfl ?_
  refine aw_iaddV (npc := 1329) (v := nI (p + 1)) dL_law_1328 rfl (nI_add p 1) ?_
  refine aw_script_ld (npc := 1330) (j := p + 1) dL_law_1329 rfl (am_ix_nI (by omega)) e1 ?_
  refine aw_aload_n (npc := 1331) rfl dL_law_1330 rfl ?_
  refine aw_iload_n (npc := 1332) rfl dL_law_1331 rfl ?_
  refine aw_iconst (npc := 1333) (v := nI 2) (by decide) dL_law_1332 rfl ?_
  refine aw_iaddV (npc := 1334) (v := nI (p + 2)) dL_law_1333 rfl (nI_add p 2) ?_
  refine aw_script_ld (npc := 1335) (j := p + 2) dL_law_1334 rfl (am_ix_nI (by omega)) e2 ?_
  refine aw_callV (npc := 1338) (N := mX7_rest) (b := 0) (mc := 3) (ms := 200) (A := [.int x1, .int x2]) (S := []) (L0 := [some (.ref 0), some (.int x1), some (.int x2), none]) dL_law_1335 rfl km_X7_rest kk_L_162 hb7 ⟨by decide, rfl⟩ rfl ⟨rfl, by decide⟩ rfl (Nat.le_of_ble_eq_true rfl) (Nat.add_comm _ _) (Nat.add_comm _ _) rfl ?_
  refine st_rest (d := 199) H (fun v1 h1 hm => ?_)
  obtain ⟨⟨fs8, hb8⟩, hm⟩ := hm
  refine aw_re (S' := [.int v1]) rfl ?_
  refine aw_pop (npc := 1339) rfl dL_law_1338 rfl ?_
  refine aw_aload_n (npc := 1340) rfl dL_law_1339 rfl ?_
  refine aw_aload_n (npc := 1341) rfl dL_law_1340 rfl ?_
  refine aw_iload_n (npc := 1342) rfl dL_law_1341 rfl ?_
  refine aw_iconst (npc := 1343) (v := nI 1) (by decide) dL_law_1342 rfl ?_
  refine aw_iaddV (npc := 1344) (v := nI (p + 1)) dL_law_1343 rfl (nI_add p 1) ?_
  refine aw_script_ld (npc := 1345) (j := p + 1) dL_law_1344 rfl (am_ix_nI (by omega)) e1 ?_
  refine aw_aload_n (npc := 1346) rfl dL_law_1345 rfl ?_
  refine aw_iload_n (npc := 1347) rfl dL_law_1346 rfl ?_
  refine aw_iconst (npc := 1348) (v := nI 2) (by decide) dL_law_1347 rfl ?_
  refine aw_iaddV (npc := 1349) (v := nI (p + 2)) dL_law_1348 rfl (nI_add p 2) ?_
  refine aw_script_ld (npc := 1350) (j := p + 2) dL_law_1349 rfl (am_ix_nI (by omega)) e2 ?_
  refine aw_callV (npc := 1353) (N := mX8_rest) (b := 69) (mc := 0) (ms := 0) (A := [.int x1, .int x2]) (S := []) (L0 := [some (.ref 69), some (.int x1), some (.int x2)]) dL_law_1350 rfl km_X8_rest kk_L_165 hb8 ⟨by decide, rfl⟩ rfl ⟨rfl, by decide⟩ rfl (Nat.le_of_ble_eq_true rfl) (Nat.zero_add _) (Nat.zero_add _) rfl ?_
  refine hm 899 _ _ _ (fun h2 H2 => ?_)
  refine aw_re (S' := [.int v1]) rfl ?_
  refine aw_pop (npc := 1354) rfl dL_law_1353 rfl ?_
  refine aw_goto (npc := 1452) dL_law_1354 (by decide) ?_
  exact kk T _ (Nat.le_succ T) H2
set_option maxRecDepth 100000 in
theorem lw_c37 {X : List Int32} {p rc rs T : Nat} {h : am_H} {x1 x2 x3 x4 x5 : Int32} (H : LI T h) (hT : T < 1000) (hp : p < 10000) (e1 : X[p + 1]? = some x1) (e2 : X[p + 2]? = some x2) (e3 : X[p + 3]? = some x3) (e4 : X[p + 4]? = some x4) (e5 : X[p + 5]? = some x5) (kk : ∀ T9 h9, T9 ≤ T + 1 → LI T9 h9 → AW X mLaw 1000 rc rs 1452 [some (.ref 1000000), some (.ref 0), some (.ref 69), some (.int (nI p))] [] (92 + 3 * T9) h9 (fun r _ _ => r = some (.int 1))) : AW X mLaw 1000 (rc + 3) (rs + 200) 1357 [some (.ref 1000000), some (.ref 0), some (.ref 69), some (.int (nI p))] [] (92 + 3 * T) h (fun r _ _ => r = some (.int 1)) := by
  obtain ⟨fs7, hb7⟩ := li_7 H
  refine aw_aload_n (npc := 1358) rfl dL_law_1357 rfl ?_
  refine aw_aload_n (npc := 1359) rfl dL_law_1358 rfl ?_
  refine aw_iload_n (npc := 1360) rfl dL_law_1359 rfl ?_
  refine aw_iconst (npc := 1361) (v := nI 1) (by decide) dL_law_1360 rfl ?_
  refine aw_iaddV (npc := 1362) (v := nI (p + 1)) dL_law_1361 rfl (nI_add p 1) ?_
  refine aw_script_ld (npc := 1363) (j := p + 1) dL_law_1362 rfl (am_ix_nI (by omega)) e1 ?_
  refine aw_callV (npc := 1366) (N := mX7_tell) (b := 0) (mc := 3) (ms := 200) (A := [.int x1]) (S := []) (L0 := [some (.ref 0), some (.int x1)]) dL_law_1363 rfl km_X7_tell kk_L_166 hb7 ⟨by decide, rfl⟩ rfl ⟨rfl, by decide⟩ rfl (Nat.le_of_ble_eq_true rfl) (Nat.add_comm _ _) (Nat.add_comm _ _) rfl ?_
  refine st_tell (d := 199) H (fun v1 h1 hm => ?_)
  obtain ⟨⟨fs8, hb8⟩, hm⟩ := hm
  refine aw_re (S' := [.int v1]) rfl ?_
  refine aw_pop (npc := 1367) rfl dL_law_1366 rfl ?_
  refine aw_aload_n (npc := 1368) rfl dL_law_1367 rfl ?_
  refine aw_aload_n (npc := 1369) rfl dL_law_1368 rfl ?_
  refine aw_iload_n (npc := 1370) rfl dL_law_1369 rfl ?_
  refine aw_iconst (npc := 1371) (v := nI 1) (by decide) dL_law_1370 rfl ?_
  refine aw_iaddV (npc := 1372) (v := nI (p + 1)) dL_law_1371 rfl (nI_add p 1) ?_
  refine aw_script_ld (npc := 1373) (j := p + 1) dL_law_1372 rfl (am_ix_nI (by omega)) e1 ?_
  refine aw_callV (npc := 1376) (N := mX8_tell) (b := 69) (mc := 0) (ms := 0) (A := [.int x1]) (S := []) (L0 := [some (.ref 69), some (.int x1)]) dL_law_1373 rfl km_X8_tell kk_L_169 hb8 ⟨by decide, rfl⟩ rfl ⟨rfl, by decide⟩ rfl (Nat.le_of_ble_eq_true rfl) (Nat.zero_add _) (Nat.zero_add _) rfl ?_
  refine hm 899 _ _ _ (fun h2 H2 => ?_)
  refine aw_re (S' := [.int v1]) rfl ?_
  refine aw_pop (npc := 1377) rfl dL_law_1376 rfl ?_
  refine aw_goto (npc := 1452) dL_law_1377 (by decide) ?_
  exact kk T _ (Nat.le_succ T) H2
set_option maxRecDepth 100000 in
theorem lw_c38 {X : List Int32} {p rc rs T : Nat} {h : am_H} {x1 x2 x3 x4 x5 : Int32} (H : LI T h) (hT : T < 1000) (hp : p < 10000) (e1 : X[p + 1]? = some x1) (e2 : X[p + 2]? = some x2) (e3 : X[p + 3]? = some x3) (e4 : X[p + 4]? = some x4) (e5 : X[p + 5]? = some x5) (kk : ∀ T9 h9, T9 ≤ T + 1 → LI T9 h9 → AW X mLaw 1000 rc rs 1452 [some (.ref 1000000), some (.ref 0), some (.ref 69), some (.int (nI p))] [] (92 + 3 * T9) h9 (fun r _ _ => r = some (.int 1))) : AW X mLaw 1000 (rc + 3) (rs + 200) 1380 [some (.ref 1000000), some (.ref 0), some (.ref 69), some (.int (nI p))] [] (92 + 3 * T) h (fun r _ _ => r = some (.int 1)) := by
  obtain ⟨fs7, hb7⟩ := li_7 H
  refine aw_aload_n (npc := 1381) rfl dL_law_1380 rfl ?_
  refine aw_aload_n (npc := 1382) rfl dL_law_1381 rfl ?_
  refine aw_iload_n (npc := 1383) rfl dL_law_1382 rfl ?_
  refine aw_iconst (npc := 1384) (v := nI 1) (by decide) dL_law_1383 rfl ?_
  refine aw_iaddV (npc := 1385) (v := nI (p + 1)) dL_law_1384 rfl (nI_add p 1) ?_
  refine aw_script_ld (npc := 1386) (j := p + 1) dL_law_1385 rfl (am_ix_nI (by omega)) e1 ?_
  refine aw_callV (npc := 1389) (N := mX7_check) (b := 0) (mc := 3) (ms := 200) (A := [.int x1]) (S := []) (L0 := [some (.ref 0), some (.int x1), none, none, none, none]) dL_law_1386 rfl km_X7_check kk_L_170 hb7 ⟨by decide, rfl⟩ rfl ⟨rfl, by decide⟩ rfl (Nat.le_of_ble_eq_true rfl) (Nat.add_comm _ _) (Nat.add_comm _ _) rfl ?_
  refine st_check (d := 199) H (fun v1 h1 hm => ?_)
  obtain ⟨⟨fs8, hb8⟩, hm⟩ := hm
  refine aw_re (S' := [.int v1]) rfl ?_
  refine aw_pop (npc := 1390) rfl dL_law_1389 rfl ?_
  refine aw_aload_n (npc := 1391) rfl dL_law_1390 rfl ?_
  refine aw_aload_n (npc := 1392) rfl dL_law_1391 rfl ?_
  refine aw_iload_n (npc := 1393) rfl dL_law_1392 rfl ?_
  refine aw_iconst (npc := 1394) (v := nI 1) (by decide) dL_law_1393 rfl ?_
  refine aw_iaddV (npc := 1395) (v := nI (p + 1)) dL_law_1394 rfl (nI_add p 1) ?_
  refine aw_script_ld (npc := 1396) (j := p + 1) dL_law_1395 rfl (am_ix_nI (by omega)) e1 ?_
  refine aw_callV (npc := 1399) (N := mX8_check) (b := 69) (mc := 0) (ms := 0) (A := [.int x1]) (S := []) (L0 := [some (.ref 69), some (.int x1), none, none, none, none]) dL_law_1396 rfl km_X8_check kk_L_173 hb8 ⟨by decide, rfl⟩ rfl ⟨rfl, by decide⟩ rfl (Nat.le_of_ble_eq_true rfl) (Nat.zero_add _) (Nat.zero_add _) rfl ?_
  refine hm 899 _ _ _ (fun h2 H2 => ?_)
  refine aw_re (S' := [.int v1]) rfl ?_
  refine aw_pop (npc := 1400) rfl dL_law_1399 rfl ?_
  refine aw_goto (npc := 1452) dL_law_1400 (by decide) ?_
  exact kk T _ (Nat.le_succ T) H2
set_option maxRecDepth 100000 in
theorem lw_c39 {X : List Int32} {p rc rs T : Nat} {h : am_H} {x1 x2 x3 x4 x5 : Int32} (H : LI T h) (hT : T < 1000) (hp : p < 10000) (e1 : X[p + 1]? = some x1) (e2 : X[p + 2]? = some x2) (e3 : X[p + 3]? = some x3) (e4 : X[p + 4]? = some x4) (e5 : X[p + 5]? = some x5) (kk : ∀ T9 h9, T9 ≤ T + 1 → LI T9 h9 → AW X mLaw 1000 rc rs 1452 [some (.ref 1000000), some (.ref 0), some (.ref 69), some (.int (nI p))] [] (92 + 3 * T9) h9 (fun r _ _ => r = some (.int 1))) : AW X mLaw 1000 (rc + 3) (rs + 200) 1403 [some (.ref 1000000), some (.ref 0), some (.ref 69), some (.int (nI p))] [] (92 + 3 * T) h (fun r _ _ => r = some (.int 1)) := by
  obtain ⟨fs7, hb7⟩ := li_7 H
  refine aw_aload_n (npc := 1404) rfl dL_law_1403 rfl ?_
  refine aw_callV (npc := 1407) (N := mX7_keep) (b := 0) (mc := 3) (ms := 200) (A := []) (S := []) (L0 := [some (.ref 0)]) dL_law_1404 rfl km_X7_keep kk_L_174 hb7 ⟨by decide, rfl⟩ rfl ⟨rfl, by decide⟩ rfl (Nat.le_of_ble_eq_true rfl) (Nat.add_comm _ _) (Nat.add_comm _ _) rfl ?_
  refine st_keep (d := 199) H (fun v1 h1 hm => ?_)
  obtain ⟨⟨fs8, hb8⟩, hm⟩ := hm
  refine aw_re (S' := [.int v1]) rfl ?_
  refine aw_pop (npc := 1408) rfl dL_law_1407 rfl ?_
  refine aw_aload_n (npc := 1409) rfl dL_law_1408 rfl ?_
  refine aw_callV (npc := 1412) (N := mX8_keep) (b := 69) (mc := 0) (ms := 0) (A := []) (S := []) (L0 := [some (.ref 69)]) dL_law_1409 rfl km_X8_keep kk_L_177 hb8 ⟨by decide, rfl⟩ rfl ⟨rfl, by decide⟩ rfl (Nat.le_of_ble_eq_true rfl) (Nat.zero_add _) (Nat.zero_add _) rfl ?_
  refine hm 899 _ _ _ (fun h2 H2 => ?_)
  refine aw_re (S' := [.int v1]) rfl ?_
  refine aw_pop (npc := 1413) rfl dL_law_1412 rfl ?_
  refine aw_goto (npc := 1452) dL_law_1413 (by decide) ?_
  exact kk T _ (Nat.le_succ T) H2
set_option maxRecDepth 100000 in
theorem lw_c40 {X : List Int32} {p rc rs T : Nat} {h : am_H} {x1 x2 x3 x4 x5 : Int32} (H : LI T h) (hT : T < 1000) (hp : p < 10000) (e1 : X[p + 1]? = some x1) (e2 : X[p + 2]? = some x2) (e3 : X[p + 3]? = some x3) (e4 : X[p + 4]? = some x4) (e5 : X[p + 5]? = some x5) (kk : ∀ T9 h9, T9 ≤ T + 1 → LI T9 h9 → AW X mLaw 1000 rc rs 1452 [some (.ref 1000000), some (.ref 0), some (.ref 69), some (.int (nI p))] [] (92 + 3 * T9) h9 (fun r _ _ => r = some (.int 1))) : AW X mLaw 1000 (rc + 3) (rs + 200) 1416 [some (.ref 1000000), some (.ref 0), some (.ref 69), some (.int (nI p))] [] (92 + 3 * T) h (fun r _ _ => r = some (.int 1)) := by
  obtain ⟨fs7, hb7⟩ := li_7 H
  refine aw_aload_n (npc := 1417) rfl dL_law_1416 rfl ?_
  refine aw_callV (npc := 1420) (N := mX7_back) (b := 0) (mc := 3) (ms := 200) (A := []) (S := []) (L0 := [some (.ref 0)]) dL_law_1417 rfl km_X7_back kk_L_178 hb7 ⟨by decide, rfl⟩ rfl ⟨rfl, by decide⟩ rfl (Nat.le_of_ble_eq_true rfl) (Nat.add_comm _ _) (Nat.add_comm _ _) rfl ?_
  refine st_back (d := 199) H (fun v1 h1 hm => ?_)
  obtain ⟨⟨fs8, hb8⟩, hm⟩ := hm
  refine aw_re (S' := [.int v1]) rfl ?_
  refine aw_pop (npc := 1421) rfl dL_law_1420 rfl ?_
  refine aw_aload_n (npc := 1422) rfl dL_law_1421 rfl ?_
  refine aw_callV (npc := 1425) (N := mX8_back) (b := 69) (mc := 0) (ms := 0) (A := []) (S := []) (L0 := [some (.ref 69)]) dL_law_1422 rfl km_X8_back kk_L_181 hb8 ⟨by decide, rfl⟩ rfl ⟨rfl, by decide⟩ rfl (Nat.le_of_ble_eq_true rfl) (Nat.zero_add _) (Nat.zero_add _) rfl ?_
  refine hm 899 _ _ _ (fun h2 H2 => ?_)
  refine aw_re (S' := [.int v1]) rfl ?_
  refine aw_pop (npc := 1426) rfl dL_law_1425 rfl ?_
  refine aw_goto (npc := 1452) dL_law_1426 (by decide) ?_
  exact kk T _ (Nat.le_succ T) H2
set_option maxRecDepth 100000 in
theorem lw_c41 {X : List Int32} {p rc rs T : Nat} {h : am_H} {x1 x2 x3 x4 x5 : Int32} (H : LI T h) (hT : T < 1000) (hp : p < 10000) (e1 : X[p + 1]? = some x1) (e2 : X[p + 2]? = some x2) (e3 : X[p + 3]? = some x3) (e4 : X[p + 4]? = some x4) (e5 : X[p + 5]? = some x5) (kk : ∀ T9 h9, T9 ≤ T + 1 → LI T9 h9 → AW X mLaw 1000 rc rs 1452 [some (.ref 1000000), some (.ref 0), some (.ref 69), some (.int (nI p))] [] (92 + 3 * T9) h9 (fun r _ _ => r = some (.int 1))) : AW X mLaw 1000 (rc + 3) (rs + 200) 1429 [some (.ref 1000000), some (.ref 0), some (.ref 69), some (.int (nI p))] [] (92 + 3 * T) h (fun r _ _ => r = some (.int 1)) := by
  obtain ⟨fs7, hb7⟩ := li_7 H
  refine aw_aload_n (npc := 1430) rfl dL_law_1429 rfl ?_
  refine aw_aload_n (npc := 1431) rfl dL_law_1430 rfl ?_
  refine aw_iload_n (npc := 1432) rfl dL_law_1431 rfl ?_
  refine aw_iconst (npc := 1433) (v := nI 1) (by decide) dL_law_1432 rfl ?_
  refine aw_iaddV (npc := 1434) (v := nI (p + 1)) dL_law_1433 rfl (nI_add p 1) ?_
  refine aw_script_ld (npc := 1435) (j := p + 1) dL_law_1434 rfl (am_ix_nI (by omega)) e1 ?_
  refine aw_callV (npc := 1438) (N := mX7_count) (b := 0) (mc := 3) (ms := 200) (A := [.int x1]) (S := []) (L0 := [some (.ref 0), some (.int x1)]) dL_law_1435 rfl km_X7_count kk_L_182 hb7 ⟨by decide, rfl⟩ rfl ⟨rfl, by decide⟩ rfl (Nat.le_of_ble_eq_true rfl) (Nat.add_comm _ _) (Nat.add_comm _ _) rfl ?_
  refine st_count (d := 199) H (fun v1 h1 hm => ?_)
  obtain ⟨⟨fs8, hb8⟩, hm⟩ := hm
  refine aw_re (S' := [.int v1]) rfl ?_
  refine aw_aload_n (npc := 1439) rfl dL_law_1438 rfl ?_
  refine aw_aload_n (npc := 1440) rfl dL_law_1439 rfl ?_
  refine aw_iload_n (npc := 1441) rfl dL_law_1440 rfl ?_
  refine aw_iconst (npc := 1442) (v := nI 1) (by decide) dL_law_1441 rfl ?_
  refine aw_iaddV (npc := 1443) (v := nI (p + 1)) dL_law_1442 rfl (nI_add p 1) ?_
  refine aw_script_ld (npc := 1444) (j := p + 1) dL_law_1443 rfl (am_ix_nI (by omega)) e1 ?_
  refine aw_callV (npc := 1447) (N := mX8_count) (b := 69) (mc := 0) (ms := 0) (A := [.int x1]) (S := [.int v1]) (L0 := [some (.ref 69), some (.int x1)]) dL_law_1444 rfl km_X8_count kk_L_185 hb8 ⟨by decide, rfl⟩ rfl ⟨rfl, by decide⟩ rfl (Nat.le_of_ble_eq_true rfl) (Nat.zero_add _) (Nat.zero_add _) rfl ?_
  refine hm 899 _ _ _ (fun h2 H2 => ?_)
  refine aw_re (S' := [.int v1, .int v1]) rfl ?_
  refine aw_icmp_eq (npc := 1450) (tgt := 1452) dL_law_1447 rfl (by decide) (fun _ => ?_) (fun hc => absurd rfl hc)
  exact kk T _ (Nat.le_succ T) H2
set_option maxRecDepth 100000 in
theorem lw_loop {X : List Int32} (hX : X.length ≤ 3072) : ∀ (m p T c0 s0 : Nat) (h : am_H), LI T h → X.length ≤ p + 6 * m + 5 → T + m < 900 → p < 4000 → AW X mLaw 1000 (c0 + 3 * m) (s0 + 200 * m) 18 [some (.ref 1000000), some (.ref 0), some (.ref 69), some (.int (nI p))] [] (92 + 3 * T) h (fun r _ _ => r = some (.int 1)) := by
  intro m
  induction m with
  | zero =>
    intro p T c0 s0 h H hl hT hp
    refine aw_iload_n (npc := 19) rfl dL_law_18 rfl ?_
    refine aw_aload_n (npc := 20) rfl dL_law_19 rfl ?_
    refine aw_script_len (npc := 21) (v := nI X.length) dL_law_20 rfl rfl ?_
    refine aw_bipush (npc := 23) (v := 6) (by decide) dL_law_21 rfl ?_
    refine aw_isub (npc := 24) dL_law_23 rfl ?_
    refine aw_icmp_gt (npc := 27) (tgt := 1458) dL_law_24 rfl (by decide) (fun _ => ?_) (fun hc => absurd ((gtI (by omega) (by omega)).mpr (by omega)) hc)
    refine aw_iconst (npc := 1459) (v := 1) (by decide) dL_law_1458 rfl ?_
    exact aw_zret rfl rfl dL_law_1459 rfl
  | succ m ih =>
    intro p T c0 s0 h H hl hT hp
    refine aw_iload_n (npc := 19) rfl dL_law_18 rfl ?_
    refine aw_aload_n (npc := 20) rfl dL_law_19 rfl ?_
    refine aw_script_len (npc := 21) (v := nI X.length) dL_law_20 rfl rfl ?_
    refine aw_bipush (npc := 23) (v := 6) (by decide) dL_law_21 rfl ?_
    refine aw_isub (npc := 24) dL_law_23 rfl ?_
    refine aw_icmp_gt (npc := 27) (tgt := 1458) dL_law_24 rfl (by decide) (fun _ => ?_) (fun hc => ?_)
    · refine aw_iconst (npc := 1459) (v := 1) (by decide) dL_law_1458 rfl ?_
      exact aw_zret rfl rfl dL_law_1459 rfl
    · have hlen : p + 6 ≤ X.length := by
        rw [gtI (by omega) (by omega)] at hc
        omega
      obtain ⟨x0, e0⟩ : ∃ x, X[p]? = some x := ⟨_, List.getElem?_eq_getElem (show p < X.length by omega)⟩
      obtain ⟨x1, e1⟩ : ∃ x, X[p + 1]? = some x := ⟨_, List.getElem?_eq_getElem (show p + 1 < X.length by omega)⟩
      obtain ⟨x2, e2⟩ : ∃ x, X[p + 2]? = some x := ⟨_, List.getElem?_eq_getElem (show p + 2 < X.length by omega)⟩
      obtain ⟨x3, e3⟩ : ∃ x, X[p + 3]? = some x := ⟨_, List.getElem?_eq_getElem (show p + 3 < X.length by omega)⟩
      obtain ⟨x4, e4⟩ : ∃ x, X[p + 4]? = some x := ⟨_, List.getElem?_eq_getElem (show p + 4 < X.length by omega)⟩
      obtain ⟨x5, e5⟩ : ∃ x, X[p + 5]? = some x := ⟨_, List.getElem?_eq_getElem (show p + 5 < X.length by omega)⟩
      have kk : ∀ c0 s0 T9 h9, T9 ≤ T + 1 → LI T9 h9 → AW X mLaw 1000 (c0 + 3 * m) (s0 + 200 * m) 1452 [some (.ref 1000000), some (.ref 0), some (.ref 69), some (.int (nI p))] [] (92 + 3 * T9) h9 (fun r _ _ => r = some (.int 1)) := fun c0 s0 T9 h9 hT9 H9 => by
        refine aw_iinc (npc := 1455) (v := nI (p + 6)) (L' := [some (.ref 1000000), some (.ref 0), some (.ref 69), some (.int (nI (p + 6)))]) dL_law_1452 rfl rfl (nI_add p 6) (by decide) rfl rfl ?_
        refine aw_goto (npc := 18) dL_law_1455 (by decide) ?_
        exact ih (p + 6) T9 c0 s0 h9 H9 (by omega) (by omega) (by omega)
      refine aw_bud (show c0 + 3 * (m + 1) = c0 + 3 * m + 3 by omega) (show s0 + 200 * (m + 1) = s0 + 200 * m + 200 by omega) ?_
      refine aw_aload_n (npc := 28) rfl dL_law_27 rfl ?_
      refine aw_iload_n (npc := 29) rfl dL_law_28 rfl ?_
      refine aw_script_ld (npc := 30) (j := p) dL_law_29 rfl (am_ix_nI (by omega)) e0 ?_
      refine aw_bipush (npc := 32) (v := 63) (by decide) dL_law_30 rfl ?_
      refine aw_iand (npc := 33) dL_law_32 rfl ?_
      obtain ⟨j, hj, ej⟩ := pk_andE x0 (m := 63) 6 (by decide)
      refine aw_top ej ?_
      clear ej
      rcases (show j = 0 ∨ j = 1 ∨ j = 2 ∨ j = 3 ∨ j = 4 ∨ j = 5 ∨ j = 6 ∨ j = 7 ∨ j = 8 ∨ j = 9 ∨ j = 10 ∨ j = 11 ∨ j = 12 ∨ j = 13 ∨ j = 14 ∨ j = 15 ∨ j = 16 ∨ j = 17 ∨ j = 18 ∨ j = 19 ∨ j = 20 ∨ j = 21 ∨ j = 22 ∨ j = 23 ∨ j = 24 ∨ j = 25 ∨ j = 26 ∨ j = 27 ∨ j = 28 ∨ j = 29 ∨ j = 30 ∨ j = 31 ∨ j = 32 ∨ j = 33 ∨ j = 34 ∨ j = 35 ∨ j = 36 ∨ j = 37 ∨ j = 38 ∨ j = 39 ∨ j = 40 ∨ j = 41 ∨ 42 ≤ j by omega) with rfl | rfl | rfl | rfl | rfl | rfl | rfl | rfl | rfl | rfl | rfl | rfl | rfl | rfl | rfl | rfl | rfl | rfl | rfl | rfl | rfl | rfl | rfl | rfl | rfl | rfl | rfl | rfl | rfl | rfl | rfl | rfl | rfl | rfl | rfl | rfl | rfl | rfl | rfl | rfl | rfl | rfl | hj2
      · exact aw_tableIn (npc := 216) dL_law_33 (by decide) (by decide) rfl (by decide) (lw_c0 H (by omega) (by omega) e1 e2 e3 e4 e5 (kk c0 s0))
      · exact aw_tableIn (npc := 259) dL_law_33 (by decide) (by decide) rfl (by decide) (lw_c1 H (by omega) (by omega) e1 e2 e3 e4 e5 (kk c0 s0))
      · exact aw_tableIn (npc := 292) dL_law_33 (by decide) (by decide) rfl (by decide) (lw_c2 H (by omega) (by omega) e1 e2 e3 e4 e5 (kk c0 s0))
      · exact aw_tableIn (npc := 325) dL_law_33 (by decide) (by decide) rfl (by decide) (lw_c3 H (by omega) (by omega) e1 e2 e3 e4 e5 (kk c0 s0))
      · exact aw_tableIn (npc := 358) dL_law_33 (by decide) (by decide) rfl (by decide) (lw_c4 H (by omega) (by omega) e1 e2 e3 e4 e5 (kk c0 s0))
      · exact aw_tableIn (npc := 401) dL_law_33 (by decide) (by decide) rfl (by decide) (lw_c5 H (by omega) (by omega) e1 e2 e3 e4 e5 (kk c0 s0))
      · exact aw_tableIn (npc := 434) dL_law_33 (by decide) (by decide) rfl (by decide) (lw_c6 H (by omega) (by omega) e1 e2 e3 e4 e5 (kk c0 s0))
      · exact aw_tableIn (npc := 477) dL_law_33 (by decide) (by decide) rfl (by decide) (lw_c7 H (by omega) (by omega) e1 e2 e3 e4 e5 (kk c0 s0))
      · exact aw_tableIn (npc := 510) dL_law_33 (by decide) (by decide) rfl (by decide) (lw_c8 H (by omega) (by omega) e1 e2 e3 e4 e5 (kk c0 s0))
      · exact aw_tableIn (npc := 543) dL_law_33 (by decide) (by decide) rfl (by decide) (lw_c9 H (by omega) (by omega) e1 e2 e3 e4 e5 (kk c0 s0))
      · exact aw_tableIn (npc := 566) dL_law_33 (by decide) (by decide) rfl (by decide) (lw_c10 H (by omega) (by omega) e1 e2 e3 e4 e5 (kk c0 s0))
      · exact aw_tableIn (npc := 589) dL_law_33 (by decide) (by decide) rfl (by decide) (lw_c11 H (by omega) (by omega) e1 e2 e3 e4 e5 (kk c0 s0))
      · exact aw_tableIn (npc := 612) dL_law_33 (by decide) (by decide) rfl (by decide) (lw_c12 H (by omega) (by omega) e1 e2 e3 e4 e5 (kk c0 s0))
      · exact aw_tableIn (npc := 635) dL_law_33 (by decide) (by decide) rfl (by decide) (lw_c13 H (by omega) (by omega) e1 e2 e3 e4 e5 (kk c0 s0))
      · exact aw_tableIn (npc := 648) dL_law_33 (by decide) (by decide) rfl (by decide) (lw_c14 H (by omega) (by omega) e1 e2 e3 e4 e5 (kk c0 s0))
      · exact aw_tableIn (npc := 671) dL_law_33 (by decide) (by decide) rfl (by decide) (lw_c15 H (by omega) (by omega) e1 e2 e3 e4 e5 (kk c0 s0))
      · exact aw_tableIn (npc := 704) dL_law_33 (by decide) (by decide) rfl (by decide) (lw_c16 H (by omega) (by omega) e1 e2 e3 e4 e5 (kk c0 s0))
      · exact aw_tableIn (npc := 727) dL_law_33 (by decide) (by decide) rfl (by decide) (lw_c17 H (by omega) (by omega) e1 e2 e3 e4 e5 (kk c0 s0))
      · exact aw_tableIn (npc := 750) dL_law_33 (by decide) (by decide) rfl (by decide) (lw_c18 H (by omega) (by omega) e1 e2 e3 e4 e5 (kk c0 s0))
      · exact aw_tableIn (npc := 773) dL_law_33 (by decide) (by decide) rfl (by decide) (lw_c19 H (by omega) (by omega) e1 e2 e3 e4 e5 (kk c0 s0))
      · exact aw_tableIn (npc := 806) dL_law_33 (by decide) (by decide) rfl (by decide) (lw_c20 H (by omega) (by omega) e1 e2 e3 e4 e5 (kk c0 s0))
      · exact aw_tableIn (npc := 849) dL_law_33 (by decide) (by decide) rfl (by decide) (lw_c21 H (by omega) (by omega) e1 e2 e3 e4 e5 (kk c0 s0))
      · exact aw_tableIn (npc := 862) dL_law_33 (by decide) (by decide) rfl (by decide) (lw_c22 H (by omega) (by omega) e1 e2 e3 e4 e5 (kk c0 s0))
      · exact aw_tableIn (npc := 885) dL_law_33 (by decide) (by decide) rfl (by decide) (lw_c23 H (by omega) (by omega) e1 e2 e3 e4 e5 (kk c0 s0))
      · exact aw_tableIn (npc := 928) dL_law_33 (by decide) (by decide) rfl (by decide) (lw_c24 H (by omega) (by omega) e1 e2 e3 e4 e5 (kk c0 s0))
      · exact aw_tableIn (npc := 951) dL_law_33 (by decide) (by decide) rfl (by decide) (lw_c25 H (by omega) (by omega) e1 e2 e3 e4 e5 (kk c0 s0))
      · exact aw_tableIn (npc := 964) dL_law_33 (by decide) (by decide) rfl (by decide) (lw_c26 H (by omega) (by omega) e1 e2 e3 e4 e5 (kk c0 s0))
      · exact aw_tableIn (npc := 997) dL_law_33 (by decide) (by decide) rfl (by decide) (lw_c27 H (by omega) (by omega) e1 e2 e3 e4 e5 (kk c0 s0))
      · exact aw_tableIn (npc := 1020) dL_law_33 (by decide) (by decide) rfl (by decide) (lw_c28 H (by omega) (by omega) e1 e2 e3 e4 e5 (kk c0 s0))
      · exact aw_tableIn (npc := 1063) dL_law_33 (by decide) (by decide) rfl (by decide) (lw_c29 H (by omega) (by omega) e1 e2 e3 e4 e5 (kk c0 s0))
      · exact aw_tableIn (npc := 1106) dL_law_33 (by decide) (by decide) rfl (by decide) (lw_c30 H (by omega) (by omega) e1 e2 e3 e4 e5 (kk c0 s0))
      · exact aw_tableIn (npc := 1129) dL_law_33 (by decide) (by decide) rfl (by decide) (lw_c31 H (by omega) (by omega) e1 e2 e3 e4 e5 (kk c0 s0))
      · exact aw_tableIn (npc := 1152) dL_law_33 (by decide) (by decide) rfl (by decide) (lw_c32 H (by omega) (by omega) e1 e2 e3 e4 e5 (kk c0 s0))
      · exact aw_tableIn (npc := 1215) dL_law_33 (by decide) (by decide) rfl (by decide) (lw_c33 H (by omega) (by omega) e1 e2 e3 e4 e5 (kk c0 s0))
      · exact aw_tableIn (npc := 1258) dL_law_33 (by decide) (by decide) rfl (by decide) (lw_c34 H (by omega) (by omega) e1 e2 e3 e4 e5 (kk c0 s0))
      · exact aw_tableIn (npc := 1291) dL_law_33 (by decide) (by decide) rfl (by decide) (lw_c35 H (by omega) (by omega) e1 e2 e3 e4 e5 (kk c0 s0))
      · exact aw_tableIn (npc := 1324) dL_law_33 (by decide) (by decide) rfl (by decide) (lw_c36 H (by omega) (by omega) e1 e2 e3 e4 e5 (kk c0 s0))
      · exact aw_tableIn (npc := 1357) dL_law_33 (by decide) (by decide) rfl (by decide) (lw_c37 H (by omega) (by omega) e1 e2 e3 e4 e5 (kk c0 s0))
      · exact aw_tableIn (npc := 1380) dL_law_33 (by decide) (by decide) rfl (by decide) (lw_c38 H (by omega) (by omega) e1 e2 e3 e4 e5 (kk c0 s0))
      · exact aw_tableIn (npc := 1403) dL_law_33 (by decide) (by decide) rfl (by decide) (lw_c39 H (by omega) (by omega) e1 e2 e3 e4 e5 (kk c0 s0))
      · exact aw_tableIn (npc := 1416) dL_law_33 (by decide) (by decide) rfl (by decide) (lw_c40 H (by omega) (by omega) e1 e2 e3 e4 e5 (kk c0 s0))
      · exact aw_tableIn (npc := 1429) dL_law_33 (by decide) (by decide) rfl (by decide) (lw_c41 H (by omega) (by omega) e1 e2 e3 e4 e5 (kk c0 s0))
      · refine aw_tableOut (npc := 1452) dL_law_33 (Or.inr (by rw [nI_toInt (by omega)]; omega)) (by decide) ?_
        exact aw_bud (show c0 + 3 * m + 3 = c0 + 3 + 3 * m by omega) (show s0 + 200 * m + 200 = s0 + 200 + 200 * m by omega) (kk (c0 + 3) (s0 + 200) T h (Nat.le_succ T) H)
set_option maxHeartbeats 4000000 in
set_option maxRecDepth 100000 in
theorem mv_X7 {h h9 : am_H} (e : ∀ k, k < 69 → h9 k = h k) (F : f0_X7 h) : f0_X7 h9 := by
  obtain ⟨f0, f1, f2, f3, f4, f5, f6, f7, f8, f9, f10, f11, f12, f13, f14, f15, f16, f17, f18, f19, f20, f21, f22, f23, f24, f25, f26, f27, f28, f29, f30, f31, f32, f33, f34, f35, f36, f37, f38, f39, f40, f41, f42, f43, f44, f45, f46, f47, f48, f49, f50, f51, f52, f53, f54, f55, f56, f57, f58, f59, f60, f61, f62, f63, f64, f65, f66, f67, f68⟩ := F
  exact ⟨(e 0 (by decide)).trans f0, (e 1 (by decide)).trans f1, (e 2 (by decide)).trans f2, (e 3 (by decide)).trans f3, (e 4 (by decide)).trans f4, (e 5 (by decide)).trans f5, (e 6 (by decide)).trans f6, (e 7 (by decide)).trans f7, (e 8 (by decide)).trans f8, (e 9 (by decide)).trans f9, (e 10 (by decide)).trans f10, (e 11 (by decide)).trans f11, (e 12 (by decide)).trans f12, (e 13 (by decide)).trans f13, (e 14 (by decide)).trans f14, (e 15 (by decide)).trans f15, (e 16 (by decide)).trans f16, (e 17 (by decide)).trans f17, (e 18 (by decide)).trans f18, (e 19 (by decide)).trans f19, (e 20 (by decide)).trans f20, (e 21 (by decide)).trans f21, (e 22 (by decide)).trans f22, (e 23 (by decide)).trans f23, (e 24 (by decide)).trans f24, (e 25 (by decide)).trans f25, (e 26 (by decide)).trans f26, (e 27 (by decide)).trans f27, (e 28 (by decide)).trans f28, (e 29 (by decide)).trans f29, (e 30 (by decide)).trans f30, (e 31 (by decide)).trans f31, (e 32 (by decide)).trans f32, (e 33 (by decide)).trans f33, (e 34 (by decide)).trans f34, (e 35 (by decide)).trans f35, (e 36 (by decide)).trans f36, (e 37 (by decide)).trans f37, (e 38 (by decide)).trans f38, (e 39 (by decide)).trans f39, (e 40 (by decide)).trans f40, (e 41 (by decide)).trans f41, (e 42 (by decide)).trans f42, (e 43 (by decide)).trans f43, (e 44 (by decide)).trans f44, (e 45 (by decide)).trans f45, (e 46 (by decide)).trans f46, (e 47 (by decide)).trans f47, (e 48 (by decide)).trans f48, (e 49 (by decide)).trans f49, (e 50 (by decide)).trans f50, (e 51 (by decide)).trans f51, (e 52 (by decide)).trans f52, (e 53 (by decide)).trans f53, (e 54 (by decide)).trans f54, (e 55 (by decide)).trans f55, (e 56 (by decide)).trans f56, (e 57 (by decide)).trans f57, (e 58 (by decide)).trans f58, (e 59 (by decide)).trans f59, (e 60 (by decide)).trans f60, (e 61 (by decide)).trans f61, (e 62 (by decide)).trans f62, (e 63 (by decide)).trans f63, (e 64 (by decide)).trans f64, (e 65 (by decide)).trans f65, (e 66 (by decide)).trans f66, (e 67 (by decide)).trans f67, (e 68 (by decide)).trans f68⟩
set_option maxHeartbeats 4000000 in
set_option maxRecDepth 100000 in
theorem lw_entry {X : List Int32} (hk : ∀ h, f0_X7 h → f0_X8 h → AW X mLaw 1000 599908 7296267 18 [some (.ref 1000000), some (.ref 0), some (.ref 69), some (.int 0)] [] 92 h (fun r _ _ => r = some (.int 1))) : AW X mLaw 1000 600000 7302249 0 (am_pad [.ref 1000000] 4) [] 0 (fun _ => none) (fun r _ _ => r = some (.int 1)) := by
  refine aw_locs (L' := [some (.ref 1000000), none, none, none]) rfl ?_
  refine aw_new (npc := 3) dL_law_0 rfl kn_L_7 (by decide) rfl rfl rfl ?_
  refine aw_nn (n' := 1) rfl ?_
  refine aw_dup (npc := 4) rfl dL_law_3 rfl ?_
  refine aw_callI (npc := 7) (b := 0) (mc := 68) (ms := 831) (A := []) (S := [.ref 0]) (L0 := [some (.ref 0), none]) (rc' := 599931) (rs' := 7301407) dL_law_4 rfl km_X7_init kk_L_9 rfl ⟨rfl, by decide⟩ rfl (Nat.le_of_ble_eq_true rfl) rfl rfl rfl ?_
  refine c_X7_init (fun h1 G7 fr1 => ?_)
  refine aw_astore_n (npc := 8) (L' := [some (.ref 1000000), some (.ref 0), none, none]) dL_law_7 rfl (by decide) rfl rfl ?_
  refine aw_new (npc := 11) dL_law_8 rfl kn_L_10 (by decide) rfl rfl rfl ?_
  refine aw_nn (n' := 70) rfl ?_
  refine aw_dup (npc := 12) rfl dL_law_11 rfl ?_
  refine aw_callI (npc := 15) (b := 69) (mc := 22) (ms := 5104) (A := []) (S := [.ref 69]) (L0 := [some (.ref 69), none]) (rc' := 599908) (rs' := 7296267) dL_law_12 rfl km_X8_init kk_L_12 rfl ⟨rfl, by decide⟩ rfl (Nat.le_of_ble_eq_true rfl) rfl rfl rfl ?_
  refine c_X8_init (fun h2 F8 fr2 => ?_)
  have F7 := mv_X7 (h9 := h2) (fun k hk => fr2 k (by omega) (Or.inl hk)) G7
  refine aw_astore_n (npc := 16) (L' := [some (.ref 1000000), some (.ref 0), some (.ref 69), none]) dL_law_15 rfl (by decide) rfl rfl ?_
  refine aw_iconst (npc := 17) (v := 0) (by decide) dL_law_16 rfl ?_
  refine aw_istore_n (npc := 18) (L' := [some (.ref 1000000), some (.ref 0), some (.ref 69), some (.int 0)]) dL_law_17 rfl (by decide) rfl rfl ?_
  exact hk h2 F7 F8
theorem lw_all (X : List Int32) (hX : X.length ≤ 3072) : AW X mLaw 1000 600000 7302249 0 (am_pad [.ref 1000000] 4) [] 0 (fun _ => none) (fun r _ _ => r = some (.int 1)) := by
  refine lw_entry (fun h F7 F8 => ?_)
  exact lw_loop hX 512 0 0 598372 7193867 h (li_0 F7 F8) (by omega) (by omega) (by omega)
