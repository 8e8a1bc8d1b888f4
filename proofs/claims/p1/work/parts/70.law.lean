set_option maxHeartbeats 40000000 in
set_option maxRecDepth 100000 in
theorem mv_X7 {h h9 : am_H} (e : ∀ k, k < 69 → h9 k = h k) (F : f0_X7 h) : f0_X7 h9 := by
  obtain ⟨f0, f1, f2, f3, f4, f5, f6, f7, f8, f9, f10, f11, f12, f13, f14, f15, f16, f17, f18, f19, f20, f21, f22, f23, f24, f25, f26, f27, f28, f29, f30, f31, f32, f33, f34, f35, f36, f37, f38, f39, f40, f41, f42, f43, f44, f45, f46, f47, f48, f49, f50, f51, f52, f53, f54, f55, f56, f57, f58, f59, f60, f61, f62, f63, f64, f65, f66, f67, f68⟩ := F
  exact ⟨(e 0 (by decide)).trans f0, (e 1 (by decide)).trans f1, (e 2 (by decide)).trans f2, (e 3 (by decide)).trans f3, (e 4 (by decide)).trans f4, (e 5 (by decide)).trans f5, (e 6 (by decide)).trans f6, (e 7 (by decide)).trans f7, (e 8 (by decide)).trans f8, (e 9 (by decide)).trans f9, (e 10 (by decide)).trans f10, (e 11 (by decide)).trans f11, (e 12 (by decide)).trans f12, (e 13 (by decide)).trans f13, (e 14 (by decide)).trans f14, (e 15 (by decide)).trans f15, (e 16 (by decide)).trans f16, (e 17 (by decide)).trans f17, (e 18 (by decide)).trans f18, (e 19 (by decide)).trans f19, (e 20 (by decide)).trans f20, (e 21 (by decide)).trans f21, (e 22 (by decide)).trans f22, (e 23 (by decide)).trans f23, (e 24 (by decide)).trans f24, (e 25 (by decide)).trans f25, (e 26 (by decide)).trans f26, (e 27 (by decide)).trans f27, (e 28 (by decide)).trans f28, (e 29 (by decide)).trans f29, (e 30 (by decide)).trans f30, (e 31 (by decide)).trans f31, (e 32 (by decide)).trans f32, (e 33 (by decide)).trans f33, (e 34 (by decide)).trans f34, (e 35 (by decide)).trans f35, (e 36 (by decide)).trans f36, (e 37 (by decide)).trans f37, (e 38 (by decide)).trans f38, (e 39 (by decide)).trans f39, (e 40 (by decide)).trans f40, (e 41 (by decide)).trans f41, (e 42 (by decide)).trans f42, (e 43 (by decide)).trans f43, (e 44 (by decide)).trans f44, (e 45 (by decide)).trans f45, (e 46 (by decide)).trans f46, (e 47 (by decide)).trans f47, (e 48 (by decide)).trans f48, (e 49 (by decide)).trans f49, (e 50 (by decide)).trans f50, (e 51 (by decide)).trans f51, (e 52 (by decide)).trans f52, (e 53 (by decide)).trans f53, (e 54 (by decide)).trans f54, (e 55 (by decide)).trans f55, (e 56 (by decide)).trans f56, (e 57 (by decide)).trans f57, (e 58 (by decide)).trans f58, (e 59 (by decide)).trans f59, (e 60 (by decide)).trans f60, (e 61 (by decide)).trans f61, (e 62 (by decide)).trans f62, (e 63 (by decide)).trans f63, (e 64 (by decide)).trans f64, (e 65 (by decide)).trans f65, (e 66 (by decide)).trans f66, (e 67 (by decide)).trans f67, (e 68 (by decide)).trans f68⟩
set_option maxHeartbeats 40000000 in
set_option maxRecDepth 100000 in
theorem mv_X8 {h h9 : am_H} (e : ∀ k, 69 ≤ k → h9 k = h k) (F : f0_X8 h) : f0_X8 h9 := by
  obtain ⟨f69, f70, f71, f72, f73, f74, f75, f76, f77, f78, f79, f80, f81, f82, f83, f84, f85, f86, f87, f88, f89, f90, f91⟩ := F
  exact ⟨(e 69 (by decide)).trans f69, (e 70 (by decide)).trans f70, (e 71 (by decide)).trans f71, (e 72 (by decide)).trans f72, (e 73 (by decide)).trans f73, (e 74 (by decide)).trans f74, (e 75 (by decide)).trans f75, (e 76 (by decide)).trans f76, (e 77 (by decide)).trans f77, (e 78 (by decide)).trans f78, (e 79 (by decide)).trans f79, (e 80 (by decide)).trans f80, (e 81 (by decide)).trans f81, (e 82 (by decide)).trans f82, (e 83 (by decide)).trans f83, (e 84 (by decide)).trans f84, (e 85 (by decide)).trans f85, (e 86 (by decide)).trans f86, (e 87 (by decide)).trans f87, (e 88 (by decide)).trans f88, (e 89 (by decide)).trans f89, (e 90 (by decide)).trans f90, (e 91 (by decide)).trans f91⟩
set_option maxHeartbeats 40000000 in
set_option maxRecDepth 100000 in
theorem lw_end {x0 x1 x2 x3 x4 x5 : Int32} {d rc rs n : Nat} {h : am_H} : AW [x0, x1, x2, x3, x4, x5] mLaw d rc rs 1452 [some (.ref 1000000), some (.ref 0), some (.ref 69), some (.int 0)] [] n h (fun r _ _ => r = some (.int 1)) := by
  refine aw_iinc (npc := 1455) (v := 6) (L' := [some (.ref 1000000), some (.ref 0), some (.ref 69), some (.int 6)]) dL_law_1452 rfl rfl (by decide) (by decide) rfl rfl ?_
  refine aw_goto (npc := 18) dL_law_1455 (by decide) ?_
  refine aw_iload_n (npc := 19) rfl dL_law_18 rfl ?_
  refine aw_aload_n (npc := 20) rfl dL_law_19 rfl ?_
  refine aw_script_len (npc := 21) (v := 6) dL_law_20 rfl rfl ?_
  refine aw_bipush (npc := 23) (v := 6) (by decide) dL_law_21 rfl ?_
  refine aw_isubV (npc := 24) (v := 0) dL_law_23 rfl (by decide) ?_
  refine aw_icmp_gt (npc := 27) (tgt := 1458) dL_law_24 rfl (by decide) (fun _ => ?_) (fun hc => absurd (by decide) hc)
  refine aw_iconst (npc := 1459) (v := 1) (by decide) dL_law_1458 rfl ?_
  refine aw_zret rfl rfl dL_law_1459 ?_
  rfl
set_option maxHeartbeats 40000000 in
set_option maxRecDepth 100000 in
theorem lw_c0 {x0 x1 x2 x3 x4 x5 : Int32} {d rc rs : Nat} {h : am_H} (F7 : f0_X7 h) (F8 : f0_X8 h) : AW [x0, x1, x2, x3, x4, x5] mLaw (d + 20) rc rs 216 [some (.ref 1000000), some (.ref 0), some (.ref 69), some (.int 0)] [] 92 h (fun r _ _ => r = some (.int 1)) := by
  refine aw_aload_n (npc := 217) rfl dL_law_216 rfl ?_
  refine aw_aload_n (npc := 218) rfl dL_law_217 rfl ?_
  refine aw_iload_n (npc := 219) rfl dL_law_218 rfl ?_
  refine aw_iconst (npc := 220) (v := 1) (by decide) dL_law_219 rfl ?_
  refine aw_iaddV (npc := 221) (v := 1) dL_law_220 rfl (by decide) ?_
  refine aw_script_ld (npc := 222) (j := 1) dL_law_221 rfl ⟨by decide, by decide⟩ rfl ?_
  refine aw_aload_n (npc := 223) rfl dL_law_222 rfl ?_
  refine aw_iload_n (npc := 224) rfl dL_law_223 rfl ?_
  refine aw_iconst (npc := 225) (v := 2) (by decide) dL_law_224 rfl ?_
  refine aw_iaddV (npc := 226) (v := 2) dL_law_225 rfl (by decide) ?_
  refine aw_script_ld (npc := 227) (j := 2) dL_law_226 rfl ⟨by decide, by decide⟩ rfl ?_
  refine aw_aload_n (npc := 228) rfl dL_law_227 rfl ?_
  refine aw_iload_n (npc := 229) rfl dL_law_228 rfl ?_
  refine aw_iconst (npc := 230) (v := 3) (by decide) dL_law_229 rfl ?_
  refine aw_iaddV (npc := 231) (v := 3) dL_law_230 rfl (by decide) ?_
  refine aw_script_ld (npc := 232) (j := 3) dL_law_231 rfl ⟨by decide, by decide⟩ rfl ?_
  refine aw_callV (npc := 235) (N := mX7_friend) (b := 0) (mc := 0) (ms := 0) (A := [.int x1, .int x2, .int x3]) (S := []) (L0 := [some (.ref 0), some (.int x1), some (.int x2), some (.int x3)]) dL_law_232 rfl km_X7_friend kk_L_13 F7.1 ⟨by decide, rfl⟩ rfl ⟨rfl, by decide⟩ rfl (Nat.le_of_ble_eq_true rfl) (Nat.zero_add _) (Nat.zero_add _) rfl ?_
  refine p_X7_friend F7 (fun h9 fr => ?_)
  have F9 := mv_X8 (fun k hk => fr k hk) F8
  refine aw_aload_n (npc := 236) rfl dL_law_235 rfl ?_
  refine aw_aload_n (npc := 237) rfl dL_law_236 rfl ?_
  refine aw_iload_n (npc := 238) rfl dL_law_237 rfl ?_
  refine aw_iconst (npc := 239) (v := 1) (by decide) dL_law_238 rfl ?_
  refine aw_iaddV (npc := 240) (v := 1) dL_law_239 rfl (by decide) ?_
  refine aw_script_ld (npc := 241) (j := 1) dL_law_240 rfl ⟨by decide, by decide⟩ rfl ?_
  refine aw_aload_n (npc := 242) rfl dL_law_241 rfl ?_
  refine aw_iload_n (npc := 243) rfl dL_law_242 rfl ?_
  refine aw_iconst (npc := 244) (v := 2) (by decide) dL_law_243 rfl ?_
  refine aw_iaddV (npc := 245) (v := 2) dL_law_244 rfl (by decide) ?_
  refine aw_script_ld (npc := 246) (j := 2) dL_law_245 rfl ⟨by decide, by decide⟩ rfl ?_
  refine aw_aload_n (npc := 247) rfl dL_law_246 rfl ?_
  refine aw_iload_n (npc := 248) rfl dL_law_247 rfl ?_
  refine aw_iconst (npc := 249) (v := 3) (by decide) dL_law_248 rfl ?_
  refine aw_iaddV (npc := 250) (v := 3) dL_law_249 rfl (by decide) ?_
  refine aw_script_ld (npc := 251) (j := 3) dL_law_250 rfl ⟨by decide, by decide⟩ rfl ?_
  refine aw_callV (npc := 254) (N := mX8_friend) (b := 69) (mc := 0) (ms := 0) (A := [.int x1, .int x2, .int x3]) (S := [_]) (L0 := [some (.ref 69), some (.int x1), some (.int x2), some (.int x3)]) dL_law_251 rfl km_X8_friend kk_L_17 F9.1 ⟨by decide, rfl⟩ rfl ⟨rfl, by decide⟩ rfl (Nat.le_of_ble_eq_true rfl) (Nat.zero_add _) (Nat.zero_add _) rfl ?_
  refine p_X8_friend F9 (fun n9 h9 => ?_)
  refine aw_icmp_eq (npc := 257) (tgt := 1452) dL_law_254 rfl (by decide) (fun _ => ?_) (fun hc => absurd (rfl) hc)
  exact lw_end
set_option maxHeartbeats 40000000 in
set_option maxRecDepth 100000 in
theorem lw_c1 {x0 x1 x2 x3 x4 x5 : Int32} {d rc rs : Nat} {h : am_H} (F7 : f0_X7 h) (F8 : f0_X8 h) : AW [x0, x1, x2, x3, x4, x5] mLaw (d + 20) rc rs 259 [some (.ref 1000000), some (.ref 0), some (.ref 69), some (.int 0)] [] 92 h (fun r _ _ => r = some (.int 1)) := by
  refine aw_aload_n (npc := 260) rfl dL_law_259 rfl ?_
  refine aw_aload_n (npc := 261) rfl dL_law_260 rfl ?_
  refine aw_iload_n (npc := 262) rfl dL_law_261 rfl ?_
  refine aw_iconst (npc := 263) (v := 1) (by decide) dL_law_262 rfl ?_
  refine aw_iaddV (npc := 264) (v := 1) dL_law_263 rfl (by decide) ?_
  refine aw_script_ld (npc := 265) (j := 1) dL_law_264 rfl ⟨by decide, by decide⟩ rfl ?_
  refine aw_aload_n (npc := 266) rfl dL_law_265 rfl ?_
  refine aw_iload_n (npc := 267) rfl dL_law_266 rfl ?_
  refine aw_iconst (npc := 268) (v := 2) (by decide) dL_law_267 rfl ?_
  refine aw_iaddV (npc := 269) (v := 2) dL_law_268 rfl (by decide) ?_
  refine aw_script_ld (npc := 270) (j := 2) dL_law_269 rfl ⟨by decide, by decide⟩ rfl ?_
  refine aw_callV (npc := 273) (N := mX7_told) (b := 0) (mc := 0) (ms := 0) (A := [.int x1, .int x2]) (S := []) (L0 := [some (.ref 0), some (.int x1), some (.int x2)]) dL_law_270 rfl km_X7_told kk_L_18 F7.1 ⟨by decide, rfl⟩ rfl ⟨rfl, by decide⟩ rfl (Nat.le_of_ble_eq_true rfl) (Nat.zero_add _) (Nat.zero_add _) rfl ?_
  refine p_X7_told F7 (fun h9 fr => ?_)
  have F9 := mv_X8 (fun k hk => fr k hk) F8
  refine aw_aload_n (npc := 274) rfl dL_law_273 rfl ?_
  refine aw_aload_n (npc := 275) rfl dL_law_274 rfl ?_
  refine aw_iload_n (npc := 276) rfl dL_law_275 rfl ?_
  refine aw_iconst (npc := 277) (v := 1) (by decide) dL_law_276 rfl ?_
  refine aw_iaddV (npc := 278) (v := 1) dL_law_277 rfl (by decide) ?_
  refine aw_script_ld (npc := 279) (j := 1) dL_law_278 rfl ⟨by decide, by decide⟩ rfl ?_
  refine aw_aload_n (npc := 280) rfl dL_law_279 rfl ?_
  refine aw_iload_n (npc := 281) rfl dL_law_280 rfl ?_
  refine aw_iconst (npc := 282) (v := 2) (by decide) dL_law_281 rfl ?_
  refine aw_iaddV (npc := 283) (v := 2) dL_law_282 rfl (by decide) ?_
  refine aw_script_ld (npc := 284) (j := 2) dL_law_283 rfl ⟨by decide, by decide⟩ rfl ?_
  refine aw_callV (npc := 287) (N := mX8_told) (b := 69) (mc := 0) (ms := 0) (A := [.int x1, .int x2]) (S := [_]) (L0 := [some (.ref 69), some (.int x1), some (.int x2)]) dL_law_284 rfl km_X8_told kk_L_22 F9.1 ⟨by decide, rfl⟩ rfl ⟨rfl, by decide⟩ rfl (Nat.le_of_ble_eq_true rfl) (Nat.zero_add _) (Nat.zero_add _) rfl ?_
  refine p_X8_told F9 (fun n9 h9 => ?_)
  refine aw_icmp_eq (npc := 290) (tgt := 1452) dL_law_287 rfl (by decide) (fun _ => ?_) (fun hc => absurd (rfl) hc)
  exact lw_end
set_option maxHeartbeats 40000000 in
set_option maxRecDepth 100000 in
theorem lw_c2 {x0 x1 x2 x3 x4 x5 : Int32} {d rc rs : Nat} {h : am_H} (F7 : f0_X7 h) (F8 : f0_X8 h) : AW [x0, x1, x2, x3, x4, x5] mLaw (d + 20) rc rs 292 [some (.ref 1000000), some (.ref 0), some (.ref 69), some (.int 0)] [] 92 h (fun r _ _ => r = some (.int 1)) := by
  refine aw_aload_n (npc := 293) rfl dL_law_292 rfl ?_
  refine aw_aload_n (npc := 294) rfl dL_law_293 rfl ?_
  refine aw_iload_n (npc := 295) rfl dL_law_294 rfl ?_
  refine aw_iconst (npc := 296) (v := 1) (by decide) dL_law_295 rfl ?_
  refine aw_iaddV (npc := 297) (v := 1) dL_law_296 rfl (by decide) ?_
  refine aw_script_ld (npc := 298) (j := 1) dL_law_297 rfl ⟨by decide, by decide⟩ rfl ?_
  refine aw_aload_n (npc := 299) rfl dL_law_298 rfl ?_
  refine aw_iload_n (npc := 300) rfl dL_law_299 rfl ?_
  refine aw_iconst (npc := 301) (v := 2) (by decide) dL_law_300 rfl ?_
  refine aw_iaddV (npc := 302) (v := 2) dL_law_301 rfl (by decide) ?_
  refine aw_script_ld (npc := 303) (j := 2) dL_law_302 rfl ⟨by decide, by decide⟩ rfl ?_
  refine aw_callV (npc := 306) (N := mX7_as) (b := 0) (mc := 0) (ms := 0) (A := [.int x1, .int x2]) (S := []) (L0 := [some (.ref 0), some (.int x1), some (.int x2)]) dL_law_303 rfl km_X7_as kk_L_23 F7.1 ⟨by decide, rfl⟩ rfl ⟨rfl, by decide⟩ rfl (Nat.le_of_ble_eq_true rfl) (Nat.zero_add _) (Nat.zero_add _) rfl ?_
  refine p_X7_as F7 (fun h9 fr => ?_)
  have F9 := mv_X8 (fun k hk => fr k hk) F8
  refine aw_aload_n (npc := 307) rfl dL_law_306 rfl ?_
  refine aw_aload_n (npc := 308) rfl dL_law_307 rfl ?_
  refine aw_iload_n (npc := 309) rfl dL_law_308 rfl ?_
  refine aw_iconst (npc := 310) (v := 1) (by decide) dL_law_309 rfl ?_
  refine aw_iaddV (npc := 311) (v := 1) dL_law_310 rfl (by decide) ?_
  refine aw_script_ld (npc := 312) (j := 1) dL_law_311 rfl ⟨by decide, by decide⟩ rfl ?_
  refine aw_aload_n (npc := 313) rfl dL_law_312 rfl ?_
  refine aw_iload_n (npc := 314) rfl dL_law_313 rfl ?_
  refine aw_iconst (npc := 315) (v := 2) (by decide) dL_law_314 rfl ?_
  refine aw_iaddV (npc := 316) (v := 2) dL_law_315 rfl (by decide) ?_
  refine aw_script_ld (npc := 317) (j := 2) dL_law_316 rfl ⟨by decide, by decide⟩ rfl ?_
  refine aw_callV (npc := 320) (N := mX8_as) (b := 69) (mc := 0) (ms := 0) (A := [.int x1, .int x2]) (S := [_]) (L0 := [some (.ref 69), some (.int x1), some (.int x2)]) dL_law_317 rfl km_X8_as kk_L_26 F9.1 ⟨by decide, rfl⟩ rfl ⟨rfl, by decide⟩ rfl (Nat.le_of_ble_eq_true rfl) (Nat.zero_add _) (Nat.zero_add _) rfl ?_
  refine p_X8_as F9 (fun n9 h9 => ?_)
  refine aw_icmp_eq (npc := 323) (tgt := 1452) dL_law_320 rfl (by decide) (fun _ => ?_) (fun hc => absurd (rfl) hc)
  exact lw_end
set_option maxHeartbeats 40000000 in
set_option maxRecDepth 100000 in
theorem lw_c3 {x0 x1 x2 x3 x4 x5 : Int32} {d rc rs : Nat} {h : am_H} (F7 : f0_X7 h) (F8 : f0_X8 h) : AW [x0, x1, x2, x3, x4, x5] mLaw (d + 20) rc rs 325 [some (.ref 1000000), some (.ref 0), some (.ref 69), some (.int 0)] [] 92 h (fun r _ _ => r = some (.int 1)) := by
  refine aw_aload_n (npc := 326) rfl dL_law_325 rfl ?_
  refine aw_aload_n (npc := 327) rfl dL_law_326 rfl ?_
  refine aw_iload_n (npc := 328) rfl dL_law_327 rfl ?_
  refine aw_iconst (npc := 329) (v := 1) (by decide) dL_law_328 rfl ?_
  refine aw_iaddV (npc := 330) (v := 1) dL_law_329 rfl (by decide) ?_
  refine aw_script_ld (npc := 331) (j := 1) dL_law_330 rfl ⟨by decide, by decide⟩ rfl ?_
  refine aw_aload_n (npc := 332) rfl dL_law_331 rfl ?_
  refine aw_iload_n (npc := 333) rfl dL_law_332 rfl ?_
  refine aw_iconst (npc := 334) (v := 2) (by decide) dL_law_333 rfl ?_
  refine aw_iaddV (npc := 335) (v := 2) dL_law_334 rfl (by decide) ?_
  refine aw_script_ld (npc := 336) (j := 2) dL_law_335 rfl ⟨by decide, by decide⟩ rfl ?_
  refine aw_callV (npc := 339) (N := mX7_turns) (b := 0) (mc := 0) (ms := 0) (A := [.int x1, .int x2]) (S := []) (L0 := [some (.ref 0), some (.int x1), some (.int x2), none]) dL_law_336 rfl km_X7_turns kk_L_27 F7.1 ⟨by decide, rfl⟩ rfl ⟨rfl, by decide⟩ rfl (Nat.le_of_ble_eq_true rfl) (Nat.zero_add _) (Nat.zero_add _) rfl ?_
  refine p_X7_turns F7 (fun h9 fr => ?_)
  have F9 := mv_X8 (fun k hk => fr k hk) F8
  refine aw_aload_n (npc := 340) rfl dL_law_339 rfl ?_
  refine aw_aload_n (npc := 341) rfl dL_law_340 rfl ?_
  refine aw_iload_n (npc := 342) rfl dL_law_341 rfl ?_
  refine aw_iconst (npc := 343) (v := 1) (by decide) dL_law_342 rfl ?_
  refine aw_iaddV (npc := 344) (v := 1) dL_law_343 rfl (by decide) ?_
  refine aw_script_ld (npc := 345) (j := 1) dL_law_344 rfl ⟨by decide, by decide⟩ rfl ?_
  refine aw_aload_n (npc := 346) rfl dL_law_345 rfl ?_
  refine aw_iload_n (npc := 347) rfl dL_law_346 rfl ?_
  refine aw_iconst (npc := 348) (v := 2) (by decide) dL_law_347 rfl ?_
  refine aw_iaddV (npc := 349) (v := 2) dL_law_348 rfl (by decide) ?_
  refine aw_script_ld (npc := 350) (j := 2) dL_law_349 rfl ⟨by decide, by decide⟩ rfl ?_
  refine aw_callV (npc := 353) (N := mX8_turns) (b := 69) (mc := 0) (ms := 0) (A := [.int x1, .int x2]) (S := [_]) (L0 := [some (.ref 69), some (.int x1), some (.int x2)]) dL_law_350 rfl km_X8_turns kk_L_30 F9.1 ⟨by decide, rfl⟩ rfl ⟨rfl, by decide⟩ rfl (Nat.le_of_ble_eq_true rfl) (Nat.zero_add _) (Nat.zero_add _) rfl ?_
  refine p_X8_turns F9 (fun n9 h9 => ?_)
  refine aw_icmp_eq (npc := 356) (tgt := 1452) dL_law_353 rfl (by decide) (fun _ => ?_) (fun hc => absurd (rfl) hc)
  exact lw_end
set_option maxHeartbeats 40000000 in
set_option maxRecDepth 100000 in
theorem lw_c4 {x0 x1 x2 x3 x4 x5 : Int32} {d rc rs : Nat} {h : am_H} (F7 : f0_X7 h) (F8 : f0_X8 h) : AW [x0, x1, x2, x3, x4, x5] mLaw (d + 20) rc rs 358 [some (.ref 1000000), some (.ref 0), some (.ref 69), some (.int 0)] [] 92 h (fun r _ _ => r = some (.int 1)) := by
  refine aw_aload_n (npc := 359) rfl dL_law_358 rfl ?_
  refine aw_aload_n (npc := 360) rfl dL_law_359 rfl ?_
  refine aw_iload_n (npc := 361) rfl dL_law_360 rfl ?_
  refine aw_iconst (npc := 362) (v := 1) (by decide) dL_law_361 rfl ?_
  refine aw_iaddV (npc := 363) (v := 1) dL_law_362 rfl (by decide) ?_
  refine aw_script_ld (npc := 364) (j := 1) dL_law_363 rfl ⟨by decide, by decide⟩ rfl ?_
  refine aw_aload_n (npc := 365) rfl dL_law_364 rfl ?_
  refine aw_iload_n (npc := 366) rfl dL_law_365 rfl ?_
  refine aw_iconst (npc := 367) (v := 2) (by decide) dL_law_366 rfl ?_
  refine aw_iaddV (npc := 368) (v := 2) dL_law_367 rfl (by decide) ?_
  refine aw_script_ld (npc := 369) (j := 2) dL_law_368 rfl ⟨by decide, by decide⟩ rfl ?_
  refine aw_aload_n (npc := 370) rfl dL_law_369 rfl ?_
  refine aw_iload_n (npc := 371) rfl dL_law_370 rfl ?_
  refine aw_iconst (npc := 372) (v := 3) (by decide) dL_law_371 rfl ?_
  refine aw_iaddV (npc := 373) (v := 3) dL_law_372 rfl (by decide) ?_
  refine aw_script_ld (npc := 374) (j := 3) dL_law_373 rfl ⟨by decide, by decide⟩ rfl ?_
  refine aw_callV (npc := 377) (N := mX7_set) (b := 0) (mc := 0) (ms := 0) (A := [.int x1, .int x2, .int x3]) (S := []) (L0 := [some (.ref 0), some (.int x1), some (.int x2), some (.int x3), none]) dL_law_374 rfl km_X7_set kk_L_31 F7.1 ⟨by decide, rfl⟩ rfl ⟨rfl, by decide⟩ rfl (Nat.le_of_ble_eq_true rfl) (Nat.zero_add _) (Nat.zero_add _) rfl ?_
  refine p_X7_set F7 (fun h9 fr => ?_)
  have F9 := mv_X8 (fun k hk => fr k hk) F8
  refine aw_aload_n (npc := 378) rfl dL_law_377 rfl ?_
  refine aw_aload_n (npc := 379) rfl dL_law_378 rfl ?_
  refine aw_iload_n (npc := 380) rfl dL_law_379 rfl ?_
  refine aw_iconst (npc := 381) (v := 1) (by decide) dL_law_380 rfl ?_
  refine aw_iaddV (npc := 382) (v := 1) dL_law_381 rfl (by decide) ?_
  refine aw_script_ld (npc := 383) (j := 1) dL_law_382 rfl ⟨by decide, by decide⟩ rfl ?_
  refine aw_aload_n (npc := 384) rfl dL_law_383 rfl ?_
  refine aw_iload_n (npc := 385) rfl dL_law_384 rfl ?_
  refine aw_iconst (npc := 386) (v := 2) (by decide) dL_law_385 rfl ?_
  refine aw_iaddV (npc := 387) (v := 2) dL_law_386 rfl (by decide) ?_
  refine aw_script_ld (npc := 388) (j := 2) dL_law_387 rfl ⟨by decide, by decide⟩ rfl ?_
  refine aw_aload_n (npc := 389) rfl dL_law_388 rfl ?_
  refine aw_iload_n (npc := 390) rfl dL_law_389 rfl ?_
  refine aw_iconst (npc := 391) (v := 3) (by decide) dL_law_390 rfl ?_
  refine aw_iaddV (npc := 392) (v := 3) dL_law_391 rfl (by decide) ?_
  refine aw_script_ld (npc := 393) (j := 3) dL_law_392 rfl ⟨by decide, by decide⟩ rfl ?_
  refine aw_callV (npc := 396) (N := mX8_set) (b := 69) (mc := 0) (ms := 0) (A := [.int x1, .int x2, .int x3]) (S := [_]) (L0 := [some (.ref 69), some (.int x1), some (.int x2), some (.int x3)]) dL_law_393 rfl km_X8_set kk_L_34 F9.1 ⟨by decide, rfl⟩ rfl ⟨rfl, by decide⟩ rfl (Nat.le_of_ble_eq_true rfl) (Nat.zero_add _) (Nat.zero_add _) rfl ?_
  refine p_X8_set F9 (fun n9 h9 => ?_)
  refine aw_icmp_eq (npc := 399) (tgt := 1452) dL_law_396 rfl (by decide) (fun _ => ?_) (fun hc => absurd (rfl) hc)
  exact lw_end
set_option maxHeartbeats 40000000 in
set_option maxRecDepth 100000 in
theorem lw_c5 {x0 x1 x2 x3 x4 x5 : Int32} {d rc rs : Nat} {h : am_H} (F7 : f0_X7 h) (F8 : f0_X8 h) : AW [x0, x1, x2, x3, x4, x5] mLaw (d + 20) rc rs 401 [some (.ref 1000000), some (.ref 0), some (.ref 69), some (.int 0)] [] 92 h (fun r _ _ => r = some (.int 1)) := by
  refine aw_aload_n (npc := 402) rfl dL_law_401 rfl ?_
  refine aw_aload_n (npc := 403) rfl dL_law_402 rfl ?_
  refine aw_iload_n (npc := 404) rfl dL_law_403 rfl ?_
  refine aw_iconst (npc := 405) (v := 1) (by decide) dL_law_404 rfl ?_
  refine aw_iaddV (npc := 406) (v := 1) dL_law_405 rfl (by decide) ?_
  refine aw_script_ld (npc := 407) (j := 1) dL_law_406 rfl ⟨by decide, by decide⟩ rfl ?_
  refine aw_aload_n (npc := 408) rfl dL_law_407 rfl ?_
  refine aw_iload_n (npc := 409) rfl dL_law_408 rfl ?_
  refine aw_iconst (npc := 410) (v := 2) (by decide) dL_law_409 rfl ?_
  refine aw_iaddV (npc := 411) (v := 2) dL_law_410 rfl (by decide) ?_
  refine aw_script_ld (npc := 412) (j := 2) dL_law_411 rfl ⟨by decide, by decide⟩ rfl ?_
  refine aw_callV (npc := 415) (N := mX7_stand) (b := 0) (mc := 0) (ms := 0) (A := [.int x1, .int x2]) (S := []) (L0 := [some (.ref 0), some (.int x1), some (.int x2), none]) dL_law_412 rfl km_X7_stand kk_L_35 F7.1 ⟨by decide, rfl⟩ rfl ⟨rfl, by decide⟩ rfl (Nat.le_of_ble_eq_true rfl) (Nat.zero_add _) (Nat.zero_add _) rfl ?_
  refine p_X7_stand F7 (fun h9 fr => ?_)
  have F9 := mv_X8 (fun k hk => fr k hk) F8
  refine aw_aload_n (npc := 416) rfl dL_law_415 rfl ?_
  refine aw_aload_n (npc := 417) rfl dL_law_416 rfl ?_
  refine aw_iload_n (npc := 418) rfl dL_law_417 rfl ?_
  refine aw_iconst (npc := 419) (v := 1) (by decide) dL_law_418 rfl ?_
  refine aw_iaddV (npc := 420) (v := 1) dL_law_419 rfl (by decide) ?_
  refine aw_script_ld (npc := 421) (j := 1) dL_law_420 rfl ⟨by decide, by decide⟩ rfl ?_
  refine aw_aload_n (npc := 422) rfl dL_law_421 rfl ?_
  refine aw_iload_n (npc := 423) rfl dL_law_422 rfl ?_
  refine aw_iconst (npc := 424) (v := 2) (by decide) dL_law_423 rfl ?_
  refine aw_iaddV (npc := 425) (v := 2) dL_law_424 rfl (by decide) ?_
  refine aw_script_ld (npc := 426) (j := 2) dL_law_425 rfl ⟨by decide, by decide⟩ rfl ?_
  refine aw_callV (npc := 429) (N := mX8_stand) (b := 69) (mc := 0) (ms := 0) (A := [.int x1, .int x2]) (S := [_]) (L0 := [some (.ref 69), some (.int x1), some (.int x2)]) dL_law_426 rfl km_X8_stand kk_L_38 F9.1 ⟨by decide, rfl⟩ rfl ⟨rfl, by decide⟩ rfl (Nat.le_of_ble_eq_true rfl) (Nat.zero_add _) (Nat.zero_add _) rfl ?_
  refine p_X8_stand F9 (fun n9 h9 => ?_)
  refine aw_icmp_eq (npc := 432) (tgt := 1452) dL_law_429 rfl (by decide) (fun _ => ?_) (fun hc => absurd (rfl) hc)
  exact lw_end
set_option maxHeartbeats 40000000 in
set_option maxRecDepth 100000 in
theorem lw_c6 {x0 x1 x2 x3 x4 x5 : Int32} {d rc rs : Nat} {h : am_H} (F7 : f0_X7 h) (F8 : f0_X8 h) : AW [x0, x1, x2, x3, x4, x5] mLaw (d + 20) rc rs 434 [some (.ref 1000000), some (.ref 0), some (.ref 69), some (.int 0)] [] 92 h (fun r _ _ => r = some (.int 1)) := by
  refine aw_aload_n (npc := 435) rfl dL_law_434 rfl ?_
  refine aw_aload_n (npc := 436) rfl dL_law_435 rfl ?_
  refine aw_iload_n (npc := 437) rfl dL_law_436 rfl ?_
  refine aw_iconst (npc := 438) (v := 1) (by decide) dL_law_437 rfl ?_
  refine aw_iaddV (npc := 439) (v := 1) dL_law_438 rfl (by decide) ?_
  refine aw_script_ld (npc := 440) (j := 1) dL_law_439 rfl ⟨by decide, by decide⟩ rfl ?_
  refine aw_aload_n (npc := 441) rfl dL_law_440 rfl ?_
  refine aw_iload_n (npc := 442) rfl dL_law_441 rfl ?_
  refine aw_iconst (npc := 443) (v := 2) (by decide) dL_law_442 rfl ?_
  refine aw_iaddV (npc := 444) (v := 2) dL_law_443 rfl (by decide) ?_
  refine aw_script_ld (npc := 445) (j := 2) dL_law_444 rfl ⟨by decide, by decide⟩ rfl ?_
  refine aw_aload_n (npc := 446) rfl dL_law_445 rfl ?_
  refine aw_iload_n (npc := 447) rfl dL_law_446 rfl ?_
  refine aw_iconst (npc := 448) (v := 3) (by decide) dL_law_447 rfl ?_
  refine aw_iaddV (npc := 449) (v := 3) dL_law_448 rfl (by decide) ?_
  refine aw_script_ld (npc := 450) (j := 3) dL_law_449 rfl ⟨by decide, by decide⟩ rfl ?_
  refine aw_callV (npc := 453) (N := mX7_care) (b := 0) (mc := 0) (ms := 0) (A := [.int x1, .int x2, .int x3]) (S := []) (L0 := [some (.ref 0), some (.int x1), some (.int x2), some (.int x3), none]) dL_law_450 rfl km_X7_care kk_L_39 F7.1 ⟨by decide, rfl⟩ rfl ⟨rfl, by decide⟩ rfl (Nat.le_of_ble_eq_true rfl) (Nat.zero_add _) (Nat.zero_add _) rfl ?_
  refine p_X7_care F7 (fun h9 fr => ?_)
  have F9 := mv_X8 (fun k hk => fr k hk) F8
  refine aw_aload_n (npc := 454) rfl dL_law_453 rfl ?_
  refine aw_aload_n (npc := 455) rfl dL_law_454 rfl ?_
  refine aw_iload_n (npc := 456) rfl dL_law_455 rfl ?_
  refine aw_iconst (npc := 457) (v := 1) (by decide) dL_law_456 rfl ?_
  refine aw_iaddV (npc := 458) (v := 1) dL_law_457 rfl (by decide) ?_
  refine aw_script_ld (npc := 459) (j := 1) dL_law_458 rfl ⟨by decide, by decide⟩ rfl ?_
  refine aw_aload_n (npc := 460) rfl dL_law_459 rfl ?_
  refine aw_iload_n (npc := 461) rfl dL_law_460 rfl ?_
  refine aw_iconst (npc := 462) (v := 2) (by decide) dL_law_461 rfl ?_
  refine aw_iaddV (npc := 463) (v := 2) dL_law_462 rfl (by decide) ?_
  refine aw_script_ld (npc := 464) (j := 2) dL_law_463 rfl ⟨by decide, by decide⟩ rfl ?_
  refine aw_aload_n (npc := 465) rfl dL_law_464 rfl ?_
  refine aw_iload_n (npc := 466) rfl dL_law_465 rfl ?_
  refine aw_iconst (npc := 467) (v := 3) (by decide) dL_law_466 rfl ?_
  refine aw_iaddV (npc := 468) (v := 3) dL_law_467 rfl (by decide) ?_
  refine aw_script_ld (npc := 469) (j := 3) dL_law_468 rfl ⟨by decide, by decide⟩ rfl ?_
  refine aw_callV (npc := 472) (N := mX8_care) (b := 69) (mc := 0) (ms := 0) (A := [.int x1, .int x2, .int x3]) (S := [_]) (L0 := [some (.ref 69), some (.int x1), some (.int x2), some (.int x3)]) dL_law_469 rfl km_X8_care kk_L_42 F9.1 ⟨by decide, rfl⟩ rfl ⟨rfl, by decide⟩ rfl (Nat.le_of_ble_eq_true rfl) (Nat.zero_add _) (Nat.zero_add _) rfl ?_
  refine p_X8_care F9 (fun n9 h9 => ?_)
  refine aw_icmp_eq (npc := 475) (tgt := 1452) dL_law_472 rfl (by decide) (fun _ => ?_) (fun hc => absurd (rfl) hc)
  exact lw_end
set_option maxHeartbeats 40000000 in
set_option maxRecDepth 100000 in
theorem lw_c7 {x0 x1 x2 x3 x4 x5 : Int32} {d rc rs : Nat} {h : am_H} (F7 : f0_X7 h) (F8 : f0_X8 h) : AW [x0, x1, x2, x3, x4, x5] mLaw (d + 20) rc rs 477 [some (.ref 1000000), some (.ref 0), some (.ref 69), some (.int 0)] [] 92 h (fun r _ _ => r = some (.int 1)) := by
  refine aw_aload_n (npc := 478) rfl dL_law_477 rfl ?_
  refine aw_aload_n (npc := 479) rfl dL_law_478 rfl ?_
  refine aw_iload_n (npc := 480) rfl dL_law_479 rfl ?_
  refine aw_iconst (npc := 481) (v := 1) (by decide) dL_law_480 rfl ?_
  refine aw_iaddV (npc := 482) (v := 1) dL_law_481 rfl (by decide) ?_
  refine aw_script_ld (npc := 483) (j := 1) dL_law_482 rfl ⟨by decide, by decide⟩ rfl ?_
  refine aw_aload_n (npc := 484) rfl dL_law_483 rfl ?_
  refine aw_iload_n (npc := 485) rfl dL_law_484 rfl ?_
  refine aw_iconst (npc := 486) (v := 2) (by decide) dL_law_485 rfl ?_
  refine aw_iaddV (npc := 487) (v := 2) dL_law_486 rfl (by decide) ?_
  refine aw_script_ld (npc := 488) (j := 2) dL_law_487 rfl ⟨by decide, by decide⟩ rfl ?_
  refine aw_callV (npc := 491) (N := mX7_honour) (b := 0) (mc := 0) (ms := 0) (A := [.int x1, .int x2]) (S := []) (L0 := [some (.ref 0), some (.int x1), some (.int x2), none]) dL_law_488 rfl km_X7_honour kk_L_43 F7.1 ⟨by decide, rfl⟩ rfl ⟨rfl, by decide⟩ rfl (Nat.le_of_ble_eq_true rfl) (Nat.zero_add _) (Nat.zero_add _) rfl ?_
  refine p_X7_honour F7 (fun h9 fr => ?_)
  have F9 := mv_X8 (fun k hk => fr k hk) F8
  refine aw_aload_n (npc := 492) rfl dL_law_491 rfl ?_
  refine aw_aload_n (npc := 493) rfl dL_law_492 rfl ?_
  refine aw_iload_n (npc := 494) rfl dL_law_493 rfl ?_
  refine aw_iconst (npc := 495) (v := 1) (by decide) dL_law_494 rfl ?_
  refine aw_iaddV (npc := 496) (v := 1) dL_law_495 rfl (by decide) ?_
  refine aw_script_ld (npc := 497) (j := 1) dL_law_496 rfl ⟨by decide, by decide⟩ rfl ?_
  refine aw_aload_n (npc := 498) rfl dL_law_497 rfl ?_
  refine aw_iload_n (npc := 499) rfl dL_law_498 rfl ?_
  refine aw_iconst (npc := 500) (v := 2) (by decide) dL_law_499 rfl ?_
  refine aw_iaddV (npc := 501) (v := 2) dL_law_500 rfl (by decide) ?_
  refine aw_script_ld (npc := 502) (j := 2) dL_law_501 rfl ⟨by decide, by decide⟩ rfl ?_
  refine aw_callV (npc := 505) (N := mX8_honour) (b := 69) (mc := 0) (ms := 0) (A := [.int x1, .int x2]) (S := [_]) (L0 := [some (.ref 69), some (.int x1), some (.int x2)]) dL_law_502 rfl km_X8_honour kk_L_46 F9.1 ⟨by decide, rfl⟩ rfl ⟨rfl, by decide⟩ rfl (Nat.le_of_ble_eq_true rfl) (Nat.zero_add _) (Nat.zero_add _) rfl ?_
  refine p_X8_honour F9 (fun n9 h9 => ?_)
  refine aw_icmp_eq (npc := 508) (tgt := 1452) dL_law_505 rfl (by decide) (fun _ => ?_) (fun hc => absurd (rfl) hc)
  exact lw_end
set_option maxHeartbeats 40000000 in
set_option maxRecDepth 100000 in
theorem lw_c8 {x0 x1 x2 x3 x4 x5 : Int32} {d rc rs : Nat} {h : am_H} (F7 : f0_X7 h) (F8 : f0_X8 h) : AW [x0, x1, x2, x3, x4, x5] mLaw (d + 20) rc rs 510 [some (.ref 1000000), some (.ref 0), some (.ref 69), some (.int 0)] [] 92 h (fun r _ _ => r = some (.int 1)) := by
  refine aw_aload_n (npc := 511) rfl dL_law_510 rfl ?_
  refine aw_aload_n (npc := 512) rfl dL_law_511 rfl ?_
  refine aw_iload_n (npc := 513) rfl dL_law_512 rfl ?_
  refine aw_iconst (npc := 514) (v := 1) (by decide) dL_law_513 rfl ?_
  refine aw_iaddV (npc := 515) (v := 1) dL_law_514 rfl (by decide) ?_
  refine aw_script_ld (npc := 516) (j := 1) dL_law_515 rfl ⟨by decide, by decide⟩ rfl ?_
  refine aw_aload_n (npc := 517) rfl dL_law_516 rfl ?_
  refine aw_iload_n (npc := 518) rfl dL_law_517 rfl ?_
  refine aw_iconst (npc := 519) (v := 2) (by decide) dL_law_518 rfl ?_
  refine aw_iaddV (npc := 520) (v := 2) dL_law_519 rfl (by decide) ?_
  refine aw_script_ld (npc := 521) (j := 2) dL_law_520 rfl ⟨by decide, by decide⟩ rfl ?_
  refine aw_callV (npc := 524) (N := mX7_rule) (b := 0) (mc := 0) (ms := 0) (A := [.int x1, .int x2]) (S := []) (L0 := [some (.ref 0), some (.int x1), some (.int x2), none]) dL_law_521 rfl km_X7_rule kk_L_47 F7.1 ⟨by decide, rfl⟩ rfl ⟨rfl, by decide⟩ rfl (Nat.le_of_ble_eq_true rfl) (Nat.zero_add _) (Nat.zero_add _) rfl ?_
  refine p_X7_rule F7 (fun h9 fr => ?_)
  have F9 := mv_X8 (fun k hk => fr k hk) F8
  refine aw_aload_n (npc := 525) rfl dL_law_524 rfl ?_
  refine aw_aload_n (npc := 526) rfl dL_law_525 rfl ?_
  refine aw_iload_n (npc := 527) rfl dL_law_526 rfl ?_
  refine aw_iconst (npc := 528) (v := 1) (by decide) dL_law_527 rfl ?_
  refine aw_iaddV (npc := 529) (v := 1) dL_law_528 rfl (by decide) ?_
  refine aw_script_ld (npc := 530) (j := 1) dL_law_529 rfl ⟨by decide, by decide⟩ rfl ?_
  refine aw_aload_n (npc := 531) rfl dL_law_530 rfl ?_
  refine aw_iload_n (npc := 532) rfl dL_law_531 rfl ?_
  refine aw_iconst (npc := 533) (v := 2) (by decide) dL_law_532 rfl ?_
  refine aw_iaddV (npc := 534) (v := 2) dL_law_533 rfl (by decide) ?_
  refine aw_script_ld (npc := 535) (j := 2) dL_law_534 rfl ⟨by decide, by decide⟩ rfl ?_
  refine aw_callV (npc := 538) (N := mX8_rule) (b := 69) (mc := 0) (ms := 0) (A := [.int x1, .int x2]) (S := [_]) (L0 := [some (.ref 69), some (.int x1), some (.int x2)]) dL_law_535 rfl km_X8_rule kk_L_50 F9.1 ⟨by decide, rfl⟩ rfl ⟨rfl, by decide⟩ rfl (Nat.le_of_ble_eq_true rfl) (Nat.zero_add _) (Nat.zero_add _) rfl ?_
  refine p_X8_rule F9 (fun n9 h9 => ?_)
  refine aw_icmp_eq (npc := 541) (tgt := 1452) dL_law_538 rfl (by decide) (fun _ => ?_) (fun hc => absurd (rfl) hc)
  exact lw_end
set_option maxHeartbeats 40000000 in
set_option maxRecDepth 100000 in
theorem lw_c9 {x0 x1 x2 x3 x4 x5 : Int32} {d rc rs : Nat} {h : am_H} (F7 : f0_X7 h) (F8 : f0_X8 h) : AW [x0, x1, x2, x3, x4, x5] mLaw (d + 20) rc rs 543 [some (.ref 1000000), some (.ref 0), some (.ref 69), some (.int 0)] [] 92 h (fun r _ _ => r = some (.int 1)) := by
  refine aw_aload_n (npc := 544) rfl dL_law_543 rfl ?_
  refine aw_aload_n (npc := 545) rfl dL_law_544 rfl ?_
  refine aw_iload_n (npc := 546) rfl dL_law_545 rfl ?_
  refine aw_iconst (npc := 547) (v := 1) (by decide) dL_law_546 rfl ?_
  refine aw_iaddV (npc := 548) (v := 1) dL_law_547 rfl (by decide) ?_
  refine aw_script_ld (npc := 549) (j := 1) dL_law_548 rfl ⟨by decide, by decide⟩ rfl ?_
  refine aw_callV (npc := 552) (N := mX7_deal) (b := 0) (mc := 0) (ms := 0) (A := [.int x1]) (S := []) (L0 := [some (.ref 0), some (.int x1), none, none, none, none, none]) dL_law_549 rfl km_X7_deal kk_L_51 F7.1 ⟨by decide, rfl⟩ rfl ⟨rfl, by decide⟩ rfl (Nat.le_of_ble_eq_true rfl) (Nat.zero_add _) (Nat.zero_add _) rfl ?_
  refine p_X7_deal F7 (fun h9 fr => ?_)
  have F9 := mv_X8 (fun k hk => fr k hk) F8
  refine aw_aload_n (npc := 553) rfl dL_law_552 rfl ?_
  refine aw_aload_n (npc := 554) rfl dL_law_553 rfl ?_
  refine aw_iload_n (npc := 555) rfl dL_law_554 rfl ?_
  refine aw_iconst (npc := 556) (v := 1) (by decide) dL_law_555 rfl ?_
  refine aw_iaddV (npc := 557) (v := 1) dL_law_556 rfl (by decide) ?_
  refine aw_script_ld (npc := 558) (j := 1) dL_law_557 rfl ⟨by decide, by decide⟩ rfl ?_
  refine aw_callV (npc := 561) (N := mX8_deal) (b := 69) (mc := 0) (ms := 0) (A := [.int x1]) (S := [_]) (L0 := [some (.ref 69), some (.int x1), none, none, none, none]) dL_law_558 rfl km_X8_deal kk_L_55 F9.1 ⟨by decide, rfl⟩ rfl ⟨rfl, by decide⟩ rfl (Nat.le_of_ble_eq_true rfl) (Nat.zero_add _) (Nat.zero_add _) rfl ?_
  refine p_X8_deal F9 (fun n9 h9 => ?_)
  refine aw_icmp_eq (npc := 564) (tgt := 1452) dL_law_561 rfl (by decide) (fun _ => ?_) (fun hc => absurd (rfl) hc)
  exact lw_end
set_option maxHeartbeats 40000000 in
set_option maxRecDepth 100000 in
theorem lw_c10 {x0 x1 x2 x3 x4 x5 : Int32} {d rc rs : Nat} {h : am_H} (F7 : f0_X7 h) (F8 : f0_X8 h) : AW [x0, x1, x2, x3, x4, x5] mLaw (d + 20) rc rs 566 [some (.ref 1000000), some (.ref 0), some (.ref 69), some (.int 0)] [] 92 h (fun r _ _ => r = some (.int 1)) := by
  refine aw_aload_n (npc := 567) rfl dL_law_566 rfl ?_
  refine aw_aload_n (npc := 568) rfl dL_law_567 rfl ?_
  refine aw_iload_n (npc := 569) rfl dL_law_568 rfl ?_
  refine aw_iconst (npc := 570) (v := 1) (by decide) dL_law_569 rfl ?_
  refine aw_iaddV (npc := 571) (v := 1) dL_law_570 rfl (by decide) ?_
  refine aw_script_ld (npc := 572) (j := 1) dL_law_571 rfl ⟨by decide, by decide⟩ rfl ?_
  refine aw_callV (npc := 575) (N := mX7_seed) (b := 0) (mc := 0) (ms := 0) (A := [.int x1]) (S := []) (L0 := [some (.ref 0), some (.int x1), none]) dL_law_572 rfl km_X7_seed kk_L_56 F7.1 ⟨by decide, rfl⟩ rfl ⟨rfl, by decide⟩ rfl (Nat.le_of_ble_eq_true rfl) (Nat.zero_add _) (Nat.zero_add _) rfl ?_
  refine p_X7_seed F7 (fun h9 fr => ?_)
  have F9 := mv_X8 (fun k hk => fr k hk) F8
  refine aw_aload_n (npc := 576) rfl dL_law_575 rfl ?_
  refine aw_aload_n (npc := 577) rfl dL_law_576 rfl ?_
  refine aw_iload_n (npc := 578) rfl dL_law_577 rfl ?_
  refine aw_iconst (npc := 579) (v := 1) (by decide) dL_law_578 rfl ?_
  refine aw_iaddV (npc := 580) (v := 1) dL_law_579 rfl (by decide) ?_
  refine aw_script_ld (npc := 581) (j := 1) dL_law_580 rfl ⟨by decide, by decide⟩ rfl ?_
  refine aw_callV (npc := 584) (N := mX8_seed) (b := 69) (mc := 0) (ms := 0) (A := [.int x1]) (S := [_]) (L0 := [some (.ref 69), some (.int x1)]) dL_law_581 rfl km_X8_seed kk_L_59 F9.1 ⟨by decide, rfl⟩ rfl ⟨rfl, by decide⟩ rfl (Nat.le_of_ble_eq_true rfl) (Nat.zero_add _) (Nat.zero_add _) rfl ?_
  refine p_X8_seed F9 (fun n9 h9 => ?_)
  refine aw_icmp_eq (npc := 587) (tgt := 1452) dL_law_584 rfl (by decide) (fun _ => ?_) (fun hc => absurd (rfl) hc)
  exact lw_end
set_option maxHeartbeats 40000000 in
set_option maxRecDepth 100000 in
theorem lw_c11 {x0 x1 x2 x3 x4 x5 : Int32} {d rc rs : Nat} {h : am_H} (F7 : f0_X7 h) (F8 : f0_X8 h) : AW [x0, x1, x2, x3, x4, x5] mLaw (d + 20) rc rs 589 [some (.ref 1000000), some (.ref 0), some (.ref 69), some (.int 0)] [] 92 h (fun r _ _ => r = some (.int 1)) := by
  refine aw_aload_n (npc := 590) rfl dL_law_589 rfl ?_
  refine aw_aload_n (npc := 591) rfl dL_law_590 rfl ?_
  refine aw_iload_n (npc := 592) rfl dL_law_591 rfl ?_
  refine aw_iconst (npc := 593) (v := 1) (by decide) dL_law_592 rfl ?_
  refine aw_iaddV (npc := 594) (v := 1) dL_law_593 rfl (by decide) ?_
  refine aw_script_ld (npc := 595) (j := 1) dL_law_594 rfl ⟨by decide, by decide⟩ rfl ?_
  refine aw_callV (npc := 598) (N := mX7_posts) (b := 0) (mc := 0) (ms := 0) (A := [.int x1]) (S := []) (L0 := [some (.ref 0), some (.int x1)]) dL_law_595 rfl km_X7_posts kk_L_60 F7.1 ⟨by decide, rfl⟩ rfl ⟨rfl, by decide⟩ rfl (Nat.le_of_ble_eq_true rfl) (Nat.zero_add _) (Nat.zero_add _) rfl ?_
  refine p_X7_posts F7 (fun h9 fr => ?_)
  have F9 := mv_X8 (fun k hk => fr k hk) F8
  refine aw_aload_n (npc := 599) rfl dL_law_598 rfl ?_
  refine aw_aload_n (npc := 600) rfl dL_law_599 rfl ?_
  refine aw_iload_n (npc := 601) rfl dL_law_600 rfl ?_
  refine aw_iconst (npc := 602) (v := 1) (by decide) dL_law_601 rfl ?_
  refine aw_iaddV (npc := 603) (v := 1) dL_law_602 rfl (by decide) ?_
  refine aw_script_ld (npc := 604) (j := 1) dL_law_603 rfl ⟨by decide, by decide⟩ rfl ?_
  refine aw_callV (npc := 607) (N := mX8_posts) (b := 69) (mc := 0) (ms := 0) (A := [.int x1]) (S := [_]) (L0 := [some (.ref 69), some (.int x1), none]) dL_law_604 rfl km_X8_posts kk_L_63 F9.1 ⟨by decide, rfl⟩ rfl ⟨rfl, by decide⟩ rfl (Nat.le_of_ble_eq_true rfl) (Nat.zero_add _) (Nat.zero_add _) rfl ?_
  refine p_X8_posts F9 (fun n9 h9 => ?_)
  refine aw_icmp_eq (npc := 610) (tgt := 1452) dL_law_607 rfl (by decide) (fun _ => ?_) (fun hc => absurd (rfl) hc)
  exact lw_end
set_option maxHeartbeats 40000000 in
set_option maxRecDepth 100000 in
theorem lw_c12 {x0 x1 x2 x3 x4 x5 : Int32} {d rc rs : Nat} {h : am_H} (F7 : f0_X7 h) (F8 : f0_X8 h) : AW [x0, x1, x2, x3, x4, x5] mLaw (d + 20) rc rs 612 [some (.ref 1000000), some (.ref 0), some (.ref 69), some (.int 0)] [] 92 h (fun r _ _ => r = some (.int 1)) := by
  refine aw_aload_n (npc := 613) rfl dL_law_612 rfl ?_
  refine aw_aload_n (npc := 614) rfl dL_law_613 rfl ?_
  refine aw_iload_n (npc := 615) rfl dL_law_614 rfl ?_
  refine aw_iconst (npc := 616) (v := 1) (by decide) dL_law_615 rfl ?_
  refine aw_iaddV (npc := 617) (v := 1) dL_law_616 rfl (by decide) ?_
  refine aw_script_ld (npc := 618) (j := 1) dL_law_617 rfl ⟨by decide, by decide⟩ rfl ?_
  refine aw_callV (npc := 621) (N := mX7_table) (b := 0) (mc := 0) (ms := 0) (A := [.int x1]) (S := []) (L0 := [some (.ref 0), some (.int x1)]) dL_law_618 rfl km_X7_table kk_L_64 F7.1 ⟨by decide, rfl⟩ rfl ⟨rfl, by decide⟩ rfl (Nat.le_of_ble_eq_true rfl) (Nat.zero_add _) (Nat.zero_add _) rfl ?_
  refine p_X7_table F7 (fun h9 fr => ?_)
  have F9 := mv_X8 (fun k hk => fr k hk) F8
  refine aw_aload_n (npc := 622) rfl dL_law_621 rfl ?_
  refine aw_aload_n (npc := 623) rfl dL_law_622 rfl ?_
  refine aw_iload_n (npc := 624) rfl dL_law_623 rfl ?_
  refine aw_iconst (npc := 625) (v := 1) (by decide) dL_law_624 rfl ?_
  refine aw_iaddV (npc := 626) (v := 1) dL_law_625 rfl (by decide) ?_
  refine aw_script_ld (npc := 627) (j := 1) dL_law_626 rfl ⟨by decide, by decide⟩ rfl ?_
  refine aw_callV (npc := 630) (N := mX8_table) (b := 69) (mc := 0) (ms := 0) (A := [.int x1]) (S := [_]) (L0 := [some (.ref 69), some (.int x1)]) dL_law_627 rfl km_X8_table kk_L_67 F9.1 ⟨by decide, rfl⟩ rfl ⟨rfl, by decide⟩ rfl (Nat.le_of_ble_eq_true rfl) (Nat.zero_add _) (Nat.zero_add _) rfl ?_
  refine p_X8_table F9 (fun n9 h9 => ?_)
  refine aw_icmp_eq (npc := 633) (tgt := 1452) dL_law_630 rfl (by decide) (fun _ => ?_) (fun hc => absurd (rfl) hc)
  exact lw_end
set_option maxHeartbeats 40000000 in
set_option maxRecDepth 100000 in
theorem lw_c13 {x0 x1 x2 x3 x4 x5 : Int32} {d rc rs : Nat} {h : am_H} (F7 : f0_X7 h) (F8 : f0_X8 h) : AW [x0, x1, x2, x3, x4, x5] mLaw (d + 20) rc rs 635 [some (.ref 1000000), some (.ref 0), some (.ref 69), some (.int 0)] [] 92 h (fun r _ _ => r = some (.int 1)) := by
  refine aw_aload_n (npc := 636) rfl dL_law_635 rfl ?_
  refine aw_callV (npc := 639) (N := mX7_taken) (b := 0) (mc := 0) (ms := 0) (A := []) (S := []) (L0 := [some (.ref 0)]) dL_law_636 rfl km_X7_taken kk_L_68 F7.1 ⟨by decide, rfl⟩ rfl ⟨rfl, by decide⟩ rfl (Nat.le_of_ble_eq_true rfl) (Nat.zero_add _) (Nat.zero_add _) rfl ?_
  refine p_X7_taken F7 (fun h9 fr => ?_)
  have F9 := mv_X8 (fun k hk => fr k hk) F8
  refine aw_aload_n (npc := 640) rfl dL_law_639 rfl ?_
  refine aw_callV (npc := 643) (N := mX8_taken) (b := 69) (mc := 0) (ms := 0) (A := []) (S := [_]) (L0 := [some (.ref 69), none, none]) dL_law_640 rfl km_X8_taken kk_L_72 F9.1 ⟨by decide, rfl⟩ rfl ⟨rfl, by decide⟩ rfl (Nat.le_of_ble_eq_true rfl) (Nat.zero_add _) (Nat.zero_add _) rfl ?_
  refine p_X8_taken F9 (fun n9 h9 => ?_)
  refine aw_icmp_eq (npc := 646) (tgt := 1452) dL_law_643 rfl (by decide) (fun _ => ?_) (fun hc => absurd (rfl) hc)
  exact lw_end
set_option maxHeartbeats 40000000 in
set_option maxRecDepth 100000 in
theorem lw_c14 {x0 x1 x2 x3 x4 x5 : Int32} {d rc rs : Nat} {h : am_H} (F7 : f0_X7 h) (F8 : f0_X8 h) : AW [x0, x1, x2, x3, x4, x5] mLaw (d + 20) rc rs 648 [some (.ref 1000000), some (.ref 0), some (.ref 69), some (.int 0)] [] 92 h (fun r _ _ => r = some (.int 1)) := by
  refine aw_aload_n (npc := 649) rfl dL_law_648 rfl ?_
  refine aw_aload_n (npc := 650) rfl dL_law_649 rfl ?_
  refine aw_iload_n (npc := 651) rfl dL_law_650 rfl ?_
  refine aw_iconst (npc := 652) (v := 1) (by decide) dL_law_651 rfl ?_
  refine aw_iaddV (npc := 653) (v := 1) dL_law_652 rfl (by decide) ?_
  refine aw_script_ld (npc := 654) (j := 1) dL_law_653 rfl ⟨by decide, by decide⟩ rfl ?_
  refine aw_callV (npc := 657) (N := mX7_terms) (b := 0) (mc := 0) (ms := 0) (A := [.int x1]) (S := []) (L0 := [some (.ref 0), some (.int x1)]) dL_law_654 rfl km_X7_terms kk_L_73 F7.1 ⟨by decide, rfl⟩ rfl ⟨rfl, by decide⟩ rfl (Nat.le_of_ble_eq_true rfl) (Nat.zero_add _) (Nat.zero_add _) rfl ?_
  refine p_X7_terms F7 (fun h9 fr => ?_)
  have F9 := mv_X8 (fun k hk => fr k hk) F8
  refine aw_aload_n (npc := 658) rfl dL_law_657 rfl ?_
  refine aw_aload_n (npc := 659) rfl dL_law_658 rfl ?_
  refine aw_iload_n (npc := 660) rfl dL_law_659 rfl ?_
  refine aw_iconst (npc := 661) (v := 1) (by decide) dL_law_660 rfl ?_
  refine aw_iaddV (npc := 662) (v := 1) dL_law_661 rfl (by decide) ?_
  refine aw_script_ld (npc := 663) (j := 1) dL_law_662 rfl ⟨by decide, by decide⟩ rfl ?_
  refine aw_callV (npc := 666) (N := mX8_terms) (b := 69) (mc := 0) (ms := 0) (A := [.int x1]) (S := [_]) (L0 := [some (.ref 69), some (.int x1), none, none, none, none]) dL_law_663 rfl km_X8_terms kk_L_76 F9.1 ⟨by decide, rfl⟩ rfl ⟨rfl, by decide⟩ rfl (Nat.le_of_ble_eq_true rfl) (Nat.zero_add _) (Nat.zero_add _) rfl ?_
  refine p_X8_terms F9 (fun n9 h9 => ?_)
  refine aw_icmp_eq (npc := 669) (tgt := 1452) dL_law_666 rfl (by decide) (fun _ => ?_) (fun hc => absurd (rfl) hc)
  exact lw_end
set_option maxHeartbeats 40000000 in
set_option maxRecDepth 100000 in
theorem lw_c15 {x0 x1 x2 x3 x4 x5 : Int32} {d rc rs : Nat} {h : am_H} (F7 : f0_X7 h) (F8 : f0_X8 h) : AW [x0, x1, x2, x3, x4, x5] mLaw (d + 20) rc rs 671 [some (.ref 1000000), some (.ref 0), some (.ref 69), some (.int 0)] [] 92 h (fun r _ _ => r = some (.int 1)) := by
  refine aw_aload_n (npc := 672) rfl dL_law_671 rfl ?_
  refine aw_aload_n (npc := 673) rfl dL_law_672 rfl ?_
  refine aw_iload_n (npc := 674) rfl dL_law_673 rfl ?_
  refine aw_iconst (npc := 675) (v := 1) (by decide) dL_law_674 rfl ?_
  refine aw_iaddV (npc := 676) (v := 1) dL_law_675 rfl (by decide) ?_
  refine aw_script_ld (npc := 677) (j := 1) dL_law_676 rfl ⟨by decide, by decide⟩ rfl ?_
  refine aw_aload_n (npc := 678) rfl dL_law_677 rfl ?_
  refine aw_iload_n (npc := 679) rfl dL_law_678 rfl ?_
  refine aw_iconst (npc := 680) (v := 2) (by decide) dL_law_679 rfl ?_
  refine aw_iaddV (npc := 681) (v := 2) dL_law_680 rfl (by decide) ?_
  refine aw_script_ld (npc := 682) (j := 2) dL_law_681 rfl ⟨by decide, by decide⟩ rfl ?_
  refine aw_callV (npc := 685) (N := mX7_behind) (b := 0) (mc := 0) (ms := 0) (A := [.int x1, .int x2]) (S := []) (L0 := [some (.ref 0), some (.int x1), some (.int x2)]) dL_law_682 rfl km_X7_behind kk_L_77 F7.1 ⟨by decide, rfl⟩ rfl ⟨rfl, by decide⟩ rfl (Nat.le_of_ble_eq_true rfl) (Nat.zero_add _) (Nat.zero_add _) rfl ?_
  refine p_X7_behind F7 (fun h9 fr => ?_)
  have F9 := mv_X8 (fun k hk => fr k hk) F8
  refine aw_aload_n (npc := 686) rfl dL_law_685 rfl ?_
  refine aw_aload_n (npc := 687) rfl dL_law_686 rfl ?_
  refine aw_iload_n (npc := 688) rfl dL_law_687 rfl ?_
  refine aw_iconst (npc := 689) (v := 1) (by decide) dL_law_688 rfl ?_
  refine aw_iaddV (npc := 690) (v := 1) dL_law_689 rfl (by decide) ?_
  refine aw_script_ld (npc := 691) (j := 1) dL_law_690 rfl ⟨by decide, by decide⟩ rfl ?_
  refine aw_aload_n (npc := 692) rfl dL_law_691 rfl ?_
  refine aw_iload_n (npc := 693) rfl dL_law_692 rfl ?_
  refine aw_iconst (npc := 694) (v := 2) (by decide) dL_law_693 rfl ?_
  refine aw_iaddV (npc := 695) (v := 2) dL_law_694 rfl (by decide) ?_
  refine aw_script_ld (npc := 696) (j := 2) dL_law_695 rfl ⟨by decide, by decide⟩ rfl ?_
  refine aw_callV (npc := 699) (N := mX8_behind) (b := 69) (mc := 0) (ms := 0) (A := [.int x1, .int x2]) (S := [_]) (L0 := [some (.ref 69), some (.int x1), some (.int x2), none]) dL_law_696 rfl km_X8_behind kk_L_80 F9.1 ⟨by decide, rfl⟩ rfl ⟨rfl, by decide⟩ rfl (Nat.le_of_ble_eq_true rfl) (Nat.zero_add _) (Nat.zero_add _) rfl ?_
  refine p_X8_behind F9 (fun n9 h9 => ?_)
  refine aw_icmp_eq (npc := 702) (tgt := 1452) dL_law_699 rfl (by decide) (fun _ => ?_) (fun hc => absurd (rfl) hc)
  exact lw_end
set_option maxHeartbeats 40000000 in
set_option maxRecDepth 100000 in
theorem lw_c16 {x0 x1 x2 x3 x4 x5 : Int32} {d rc rs : Nat} {h : am_H} (F7 : f0_X7 h) (F8 : f0_X8 h) : AW [x0, x1, x2, x3, x4, x5] mLaw (d + 20) rc rs 704 [some (.ref 1000000), some (.ref 0), some (.ref 69), some (.int 0)] [] 92 h (fun r _ _ => r = some (.int 1)) := by
  refine aw_aload_n (npc := 705) rfl dL_law_704 rfl ?_
  refine aw_aload_n (npc := 706) rfl dL_law_705 rfl ?_
  refine aw_iload_n (npc := 707) rfl dL_law_706 rfl ?_
  refine aw_iconst (npc := 708) (v := 1) (by decide) dL_law_707 rfl ?_
  refine aw_iaddV (npc := 709) (v := 1) dL_law_708 rfl (by decide) ?_
  refine aw_script_ld (npc := 710) (j := 1) dL_law_709 rfl ⟨by decide, by decide⟩ rfl ?_
  refine aw_callV (npc := 713) (N := mX7_ends) (b := 0) (mc := 0) (ms := 0) (A := [.int x1]) (S := []) (L0 := [some (.ref 0), some (.int x1), none]) dL_law_710 rfl km_X7_ends kk_L_81 F7.1 ⟨by decide, rfl⟩ rfl ⟨rfl, by decide⟩ rfl (Nat.le_of_ble_eq_true rfl) (Nat.zero_add _) (Nat.zero_add _) rfl ?_
  refine p_X7_ends F7 (fun h9 fr => ?_)
  have F9 := mv_X8 (fun k hk => fr k hk) F8
  refine aw_aload_n (npc := 714) rfl dL_law_713 rfl ?_
  refine aw_aload_n (npc := 715) rfl dL_law_714 rfl ?_
  refine aw_iload_n (npc := 716) rfl dL_law_715 rfl ?_
  refine aw_iconst (npc := 717) (v := 1) (by decide) dL_law_716 rfl ?_
  refine aw_iaddV (npc := 718) (v := 1) dL_law_717 rfl (by decide) ?_
  refine aw_script_ld (npc := 719) (j := 1) dL_law_718 rfl ⟨by decide, by decide⟩ rfl ?_
  refine aw_callV (npc := 722) (N := mX8_ends) (b := 69) (mc := 0) (ms := 0) (A := [.int x1]) (S := [_]) (L0 := [some (.ref 69), some (.int x1), none, none]) dL_law_719 rfl km_X8_ends kk_L_84 F9.1 ⟨by decide, rfl⟩ rfl ⟨rfl, by decide⟩ rfl (Nat.le_of_ble_eq_true rfl) (Nat.zero_add _) (Nat.zero_add _) rfl ?_
  refine p_X8_ends F9 (fun n9 h9 => ?_)
  refine aw_icmp_eq (npc := 725) (tgt := 1452) dL_law_722 rfl (by decide) (fun _ => ?_) (fun hc => absurd (rfl) hc)
  exact lw_end
set_option maxHeartbeats 40000000 in
set_option maxRecDepth 100000 in
theorem lw_c17 {x0 x1 x2 x3 x4 x5 : Int32} {d rc rs : Nat} {h : am_H} (F7 : f0_X7 h) (F8 : f0_X8 h) : AW [x0, x1, x2, x3, x4, x5] mLaw (d + 20) rc rs 727 [some (.ref 1000000), some (.ref 0), some (.ref 69), some (.int 0)] [] 92 h (fun r _ _ => r = some (.int 1)) := by
  refine aw_aload_n (npc := 728) rfl dL_law_727 rfl ?_
  refine aw_aload_n (npc := 729) rfl dL_law_728 rfl ?_
  refine aw_iload_n (npc := 730) rfl dL_law_729 rfl ?_
  refine aw_iconst (npc := 731) (v := 1) (by decide) dL_law_730 rfl ?_
  refine aw_iaddV (npc := 732) (v := 1) dL_law_731 rfl (by decide) ?_
  refine aw_script_ld (npc := 733) (j := 1) dL_law_732 rfl ⟨by decide, by decide⟩ rfl ?_
  refine aw_callV (npc := 736) (N := mX7_held) (b := 0) (mc := 0) (ms := 0) (A := [.int x1]) (S := []) (L0 := [some (.ref 0), some (.int x1), none, none]) dL_law_733 rfl km_X7_held kk_L_85 F7.1 ⟨by decide, rfl⟩ rfl ⟨rfl, by decide⟩ rfl (Nat.le_of_ble_eq_true rfl) (Nat.zero_add _) (Nat.zero_add _) rfl ?_
  refine p_X7_held F7 (fun h9 fr => ?_)
  have F9 := mv_X8 (fun k hk => fr k hk) F8
  refine aw_aload_n (npc := 737) rfl dL_law_736 rfl ?_
  refine aw_aload_n (npc := 738) rfl dL_law_737 rfl ?_
  refine aw_iload_n (npc := 739) rfl dL_law_738 rfl ?_
  refine aw_iconst (npc := 740) (v := 1) (by decide) dL_law_739 rfl ?_
  refine aw_iaddV (npc := 741) (v := 1) dL_law_740 rfl (by decide) ?_
  refine aw_script_ld (npc := 742) (j := 1) dL_law_741 rfl ⟨by decide, by decide⟩ rfl ?_
  refine aw_callV (npc := 745) (N := mX8_held) (b := 69) (mc := 0) (ms := 0) (A := [.int x1]) (S := [_]) (L0 := [some (.ref 69), some (.int x1), none, none, none]) dL_law_742 rfl km_X8_held kk_L_88 F9.1 ⟨by decide, rfl⟩ rfl ⟨rfl, by decide⟩ rfl (Nat.le_of_ble_eq_true rfl) (Nat.zero_add _) (Nat.zero_add _) rfl ?_
  refine p_X8_held F9 (fun n9 h9 => ?_)
  refine aw_icmp_eq (npc := 748) (tgt := 1452) dL_law_745 rfl (by decide) (fun _ => ?_) (fun hc => absurd (rfl) hc)
  exact lw_end
set_option maxHeartbeats 40000000 in
set_option maxRecDepth 100000 in
theorem lw_c18 {x0 x1 x2 x3 x4 x5 : Int32} {d rc rs : Nat} {h : am_H} (F7 : f0_X7 h) (F8 : f0_X8 h) : AW [x0, x1, x2, x3, x4, x5] mLaw (d + 20) rc rs 750 [some (.ref 1000000), some (.ref 0), some (.ref 69), some (.int 0)] [] 92 h (fun r _ _ => r = some (.int 1)) := by
  refine aw_aload_n (npc := 751) rfl dL_law_750 rfl ?_
  refine aw_aload_n (npc := 752) rfl dL_law_751 rfl ?_
  refine aw_iload_n (npc := 753) rfl dL_law_752 rfl ?_
  refine aw_iconst (npc := 754) (v := 1) (by decide) dL_law_753 rfl ?_
  refine aw_iaddV (npc := 755) (v := 1) dL_law_754 rfl (by decide) ?_
  refine aw_script_ld (npc := 756) (j := 1) dL_law_755 rfl ⟨by decide, by decide⟩ rfl ?_
  refine aw_callV (npc := 759) (N := mX7_cool) (b := 0) (mc := 0) (ms := 0) (A := [.int x1]) (S := []) (L0 := [some (.ref 0), some (.int x1), none]) dL_law_756 rfl km_X7_cool kk_L_89 F7.1 ⟨by decide, rfl⟩ rfl ⟨rfl, by decide⟩ rfl (Nat.le_of_ble_eq_true rfl) (Nat.zero_add _) (Nat.zero_add _) rfl ?_
  refine p_X7_cool F7 (fun h9 fr => ?_)
  have F9 := mv_X8 (fun k hk => fr k hk) F8
  refine aw_aload_n (npc := 760) rfl dL_law_759 rfl ?_
  refine aw_aload_n (npc := 761) rfl dL_law_760 rfl ?_
  refine aw_iload_n (npc := 762) rfl dL_law_761 rfl ?_
  refine aw_iconst (npc := 763) (v := 1) (by decide) dL_law_762 rfl ?_
  refine aw_iaddV (npc := 764) (v := 1) dL_law_763 rfl (by decide) ?_
  refine aw_script_ld (npc := 765) (j := 1) dL_law_764 rfl ⟨by decide, by decide⟩ rfl ?_
  refine aw_callV (npc := 768) (N := mX8_cool) (b := 69) (mc := 0) (ms := 0) (A := [.int x1]) (S := [_]) (L0 := [some (.ref 69), some (.int x1), none, none]) dL_law_765 rfl km_X8_cool kk_L_92 F9.1 ⟨by decide, rfl⟩ rfl ⟨rfl, by decide⟩ rfl (Nat.le_of_ble_eq_true rfl) (Nat.zero_add _) (Nat.zero_add _) rfl ?_
  refine p_X8_cool F9 (fun n9 h9 => ?_)
  refine aw_icmp_eq (npc := 771) (tgt := 1452) dL_law_768 rfl (by decide) (fun _ => ?_) (fun hc => absurd (rfl) hc)
  exact lw_end
set_option maxHeartbeats 40000000 in
set_option maxRecDepth 100000 in
theorem lw_c19 {x0 x1 x2 x3 x4 x5 : Int32} {d rc rs : Nat} {h : am_H} (F7 : f0_X7 h) (F8 : f0_X8 h) : AW [x0, x1, x2, x3, x4, x5] mLaw (d + 20) rc rs 773 [some (.ref 1000000), some (.ref 0), some (.ref 69), some (.int 0)] [] 92 h (fun r _ _ => r = some (.int 1)) := by
  refine aw_aload_n (npc := 774) rfl dL_law_773 rfl ?_
  refine aw_aload_n (npc := 775) rfl dL_law_774 rfl ?_
  refine aw_iload_n (npc := 776) rfl dL_law_775 rfl ?_
  refine aw_iconst (npc := 777) (v := 1) (by decide) dL_law_776 rfl ?_
  refine aw_iaddV (npc := 778) (v := 1) dL_law_777 rfl (by decide) ?_
  refine aw_script_ld (npc := 779) (j := 1) dL_law_778 rfl ⟨by decide, by decide⟩ rfl ?_
  refine aw_aload_n (npc := 780) rfl dL_law_779 rfl ?_
  refine aw_iload_n (npc := 781) rfl dL_law_780 rfl ?_
  refine aw_iconst (npc := 782) (v := 2) (by decide) dL_law_781 rfl ?_
  refine aw_iaddV (npc := 783) (v := 2) dL_law_782 rfl (by decide) ?_
  refine aw_script_ld (npc := 784) (j := 2) dL_law_783 rfl ⟨by decide, by decide⟩ rfl ?_
  refine aw_callV (npc := 787) (N := mX7_bought) (b := 0) (mc := 0) (ms := 0) (A := [.int x1, .int x2]) (S := []) (L0 := [some (.ref 0), some (.int x1), some (.int x2), none, none, none, none]) dL_law_784 rfl km_X7_bought kk_L_93 F7.1 ⟨by decide, rfl⟩ rfl ⟨rfl, by decide⟩ rfl (Nat.le_of_ble_eq_true rfl) (Nat.zero_add _) (Nat.zero_add _) rfl ?_
  refine p_X7_bought F7 (fun h9 fr => ?_)
  have F9 := mv_X8 (fun k hk => fr k hk) F8
  refine aw_aload_n (npc := 788) rfl dL_law_787 rfl ?_
  refine aw_aload_n (npc := 789) rfl dL_law_788 rfl ?_
  refine aw_iload_n (npc := 790) rfl dL_law_789 rfl ?_
  refine aw_iconst (npc := 791) (v := 1) (by decide) dL_law_790 rfl ?_
  refine aw_iaddV (npc := 792) (v := 1) dL_law_791 rfl (by decide) ?_
  refine aw_script_ld (npc := 793) (j := 1) dL_law_792 rfl ⟨by decide, by decide⟩ rfl ?_
  refine aw_aload_n (npc := 794) rfl dL_law_793 rfl ?_
  refine aw_iload_n (npc := 795) rfl dL_law_794 rfl ?_
  refine aw_iconst (npc := 796) (v := 2) (by decide) dL_law_795 rfl ?_
  refine aw_iaddV (npc := 797) (v := 2) dL_law_796 rfl (by decide) ?_
  refine aw_script_ld (npc := 798) (j := 2) dL_law_797 rfl ⟨by decide, by decide⟩ rfl ?_
  refine aw_callV (npc := 801) (N := mX8_bought) (b := 69) (mc := 0) (ms := 0) (A := [.int x1, .int x2]) (S := [_]) (L0 := [some (.ref 69), some (.int x1), some (.int x2), none, none, none, none]) dL_law_798 rfl km_X8_bought kk_L_96 F9.1 ⟨by decide, rfl⟩ rfl ⟨rfl, by decide⟩ rfl (Nat.le_of_ble_eq_true rfl) (Nat.zero_add _) (Nat.zero_add _) rfl ?_
  refine p_X8_bought F9 (fun n9 h9 => ?_)
  refine aw_icmp_eq (npc := 804) (tgt := 1452) dL_law_801 rfl (by decide) (fun _ => ?_) (fun hc => absurd (rfl) hc)
  exact lw_end
set_option maxHeartbeats 40000000 in
set_option maxRecDepth 100000 in
theorem lw_c20 {x0 x1 x2 x3 x4 x5 : Int32} {d rc rs : Nat} {h : am_H} (F7 : f0_X7 h) (F8 : f0_X8 h) : AW [x0, x1, x2, x3, x4, x5] mLaw (d + 20) rc rs 806 [some (.ref 1000000), some (.ref 0), some (.ref 69), some (.int 0)] [] 92 h (fun r _ _ => r = some (.int 1)) := by
  refine aw_aload_n (npc := 807) rfl dL_law_806 rfl ?_
  refine aw_aload_n (npc := 808) rfl dL_law_807 rfl ?_
  refine aw_iload_n (npc := 809) rfl dL_law_808 rfl ?_
  refine aw_iconst (npc := 810) (v := 1) (by decide) dL_law_809 rfl ?_
  refine aw_iaddV (npc := 811) (v := 1) dL_law_810 rfl (by decide) ?_
  refine aw_script_ld (npc := 812) (j := 1) dL_law_811 rfl ⟨by decide, by decide⟩ rfl ?_
  refine aw_aload_n (npc := 813) rfl dL_law_812 rfl ?_
  refine aw_iload_n (npc := 814) rfl dL_law_813 rfl ?_
  refine aw_iconst (npc := 815) (v := 2) (by decide) dL_law_814 rfl ?_
  refine aw_iaddV (npc := 816) (v := 2) dL_law_815 rfl (by decide) ?_
  refine aw_script_ld (npc := 817) (j := 2) dL_law_816 rfl ⟨by decide, by decide⟩ rfl ?_
  refine aw_aload_n (npc := 818) rfl dL_law_817 rfl ?_
  refine aw_iload_n (npc := 819) rfl dL_law_818 rfl ?_
  refine aw_iconst (npc := 820) (v := 3) (by decide) dL_law_819 rfl ?_
  refine aw_iaddV (npc := 821) (v := 3) dL_law_820 rfl (by decide) ?_
  refine aw_script_ld (npc := 822) (j := 3) dL_law_821 rfl ⟨by decide, by decide⟩ rfl ?_
  refine aw_callV (npc := 825) (N := mX7_cared) (b := 0) (mc := 0) (ms := 0) (A := [.int x1, .int x2, .int x3]) (S := []) (L0 := [some (.ref 0), some (.int x1), some (.int x2), some (.int x3), none, none, none, none, none]) dL_law_822 rfl km_X7_cared kk_L_97 F7.1 ⟨by decide, rfl⟩ rfl ⟨rfl, by decide⟩ rfl (Nat.le_of_ble_eq_true rfl) (Nat.zero_add _) (Nat.zero_add _) rfl ?_
  refine p_X7_cared F7 (fun h9 fr => ?_)
  have F9 := mv_X8 (fun k hk => fr k hk) F8
  refine aw_aload_n (npc := 826) rfl dL_law_825 rfl ?_
  refine aw_aload_n (npc := 827) rfl dL_law_826 rfl ?_
  refine aw_iload_n (npc := 828) rfl dL_law_827 rfl ?_
  refine aw_iconst (npc := 829) (v := 1) (by decide) dL_law_828 rfl ?_
  refine aw_iaddV (npc := 830) (v := 1) dL_law_829 rfl (by decide) ?_
  refine aw_script_ld (npc := 831) (j := 1) dL_law_830 rfl ⟨by decide, by decide⟩ rfl ?_
  refine aw_aload_n (npc := 832) rfl dL_law_831 rfl ?_
  refine aw_iload_n (npc := 833) rfl dL_law_832 rfl ?_
  refine aw_iconst (npc := 834) (v := 2) (by decide) dL_law_833 rfl ?_
  refine aw_iaddV (npc := 835) (v := 2) dL_law_834 rfl (by decide) ?_
  refine aw_script_ld (npc := 836) (j := 2) dL_law_835 rfl ⟨by decide, by decide⟩ rfl ?_
  refine aw_aload_n (npc := 837) rfl dL_law_836 rfl ?_
  refine aw_iload_n (npc := 838) rfl dL_law_837 rfl ?_
  refine aw_iconst (npc := 839) (v := 3) (by decide) dL_law_838 rfl ?_
  refine aw_iaddV (npc := 840) (v := 3) dL_law_839 rfl (by decide) ?_
  refine aw_script_ld (npc := 841) (j := 3) dL_law_840 rfl ⟨by decide, by decide⟩ rfl ?_
  refine aw_callV (npc := 844) (N := mX8_cared) (b := 69) (mc := 0) (ms := 0) (A := [.int x1, .int x2, .int x3]) (S := [_]) (L0 := [some (.ref 69), some (.int x1), some (.int x2), some (.int x3), none, none, none, none, none, none]) dL_law_841 rfl km_X8_cared kk_L_100 F9.1 ⟨by decide, rfl⟩ rfl ⟨rfl, by decide⟩ rfl (Nat.le_of_ble_eq_true rfl) (Nat.zero_add _) (Nat.zero_add _) rfl ?_
  refine p_X8_cared F9 (fun n9 h9 => ?_)
  refine aw_icmp_eq (npc := 847) (tgt := 1452) dL_law_844 rfl (by decide) (fun _ => ?_) (fun hc => absurd (rfl) hc)
  exact lw_end
set_option maxHeartbeats 40000000 in
set_option maxRecDepth 100000 in
theorem lw_c21 {x0 x1 x2 x3 x4 x5 : Int32} {d rc rs : Nat} {h : am_H} (F7 : f0_X7 h) (F8 : f0_X8 h) : AW [x0, x1, x2, x3, x4, x5] mLaw (d + 20) rc rs 849 [some (.ref 1000000), some (.ref 0), some (.ref 69), some (.int 0)] [] 92 h (fun r _ _ => r = some (.int 1)) := by
  refine aw_aload_n (npc := 850) rfl dL_law_849 rfl ?_
  refine aw_callV (npc := 853) (N := mX7_fee) (b := 0) (mc := 0) (ms := 0) (A := []) (S := []) (L0 := [some (.ref 0), none]) dL_law_850 rfl km_X7_fee kk_L_101 F7.1 ⟨by decide, rfl⟩ rfl ⟨rfl, by decide⟩ rfl (Nat.le_of_ble_eq_true rfl) (Nat.zero_add _) (Nat.zero_add _) rfl ?_
  refine p_X7_fee F7 (fun h9 fr => ?_)
  have F9 := mv_X8 (fun k hk => fr k hk) F8
  refine aw_aload_n (npc := 854) rfl dL_law_853 rfl ?_
  refine aw_callV (npc := 857) (N := mX8_fee) (b := 69) (mc := 0) (ms := 0) (A := []) (S := [_]) (L0 := [some (.ref 69), none]) dL_law_854 rfl km_X8_fee kk_L_104 F9.1 ⟨by decide, rfl⟩ rfl ⟨rfl, by decide⟩ rfl (Nat.le_of_ble_eq_true rfl) (Nat.zero_add _) (Nat.zero_add _) rfl ?_
  refine p_X8_fee F9 (fun n9 h9 => ?_)
  refine aw_icmp_eq (npc := 860) (tgt := 1452) dL_law_857 rfl (by decide) (fun _ => ?_) (fun hc => absurd (rfl) hc)
  exact lw_end
set_option maxHeartbeats 40000000 in
set_option maxRecDepth 100000 in
theorem lw_c22 {x0 x1 x2 x3 x4 x5 : Int32} {d rc rs : Nat} {h : am_H} (F7 : f0_X7 h) (F8 : f0_X8 h) : AW [x0, x1, x2, x3, x4, x5] mLaw (d + 20) rc rs 862 [some (.ref 1000000), some (.ref 0), some (.ref 69), some (.int 0)] [] 92 h (fun r _ _ => r = some (.int 1)) := by
  refine aw_aload_n (npc := 863) rfl dL_law_862 rfl ?_
  refine aw_aload_n (npc := 864) rfl dL_law_863 rfl ?_
  refine aw_iload_n (npc := 865) rfl dL_law_864 rfl ?_
  refine aw_iconst (npc := 866) (v := 1) (by decide) dL_law_865 rfl ?_
  refine aw_iaddV (npc := 867) (v := 1) dL_law_866 rfl (by decide) ?_
  refine aw_script_ld (npc := 868) (j := 1) dL_law_867 rfl ⟨by decide, by decide⟩ rfl ?_
  refine aw_callV (npc := 871) (N := mX7_fine) (b := 0) (mc := 0) (ms := 0) (A := [.int x1]) (S := []) (L0 := [some (.ref 0), some (.int x1), none, none]) dL_law_868 rfl km_X7_fine kk_L_105 F7.1 ⟨by decide, rfl⟩ rfl ⟨rfl, by decide⟩ rfl (Nat.le_of_ble_eq_true rfl) (Nat.zero_add _) (Nat.zero_add _) rfl ?_
  refine p_X7_fine F7 (fun h9 fr => ?_)
  have F9 := mv_X8 (fun k hk => fr k hk) F8
  refine aw_aload_n (npc := 872) rfl dL_law_871 rfl ?_
  refine aw_aload_n (npc := 873) rfl dL_law_872 rfl ?_
  refine aw_iload_n (npc := 874) rfl dL_law_873 rfl ?_
  refine aw_iconst (npc := 875) (v := 1) (by decide) dL_law_874 rfl ?_
  refine aw_iaddV (npc := 876) (v := 1) dL_law_875 rfl (by decide) ?_
  refine aw_script_ld (npc := 877) (j := 1) dL_law_876 rfl ⟨by decide, by decide⟩ rfl ?_
  refine aw_callV (npc := 880) (N := mX8_fine) (b := 69) (mc := 0) (ms := 0) (A := [.int x1]) (S := [_]) (L0 := [some (.ref 69), some (.int x1), none]) dL_law_877 rfl km_X8_fine kk_L_108 F9.1 ⟨by decide, rfl⟩ rfl ⟨rfl, by decide⟩ rfl (Nat.le_of_ble_eq_true rfl) (Nat.zero_add _) (Nat.zero_add _) rfl ?_
  refine p_X8_fine F9 (fun n9 h9 => ?_)
  refine aw_icmp_eq (npc := 883) (tgt := 1452) dL_law_880 rfl (by decide) (fun _ => ?_) (fun hc => absurd (rfl) hc)
  exact lw_end
set_option maxHeartbeats 40000000 in
set_option maxRecDepth 100000 in
theorem lw_c23 {x0 x1 x2 x3 x4 x5 : Int32} {d rc rs : Nat} {h : am_H} (F7 : f0_X7 h) (F8 : f0_X8 h) : AW [x0, x1, x2, x3, x4, x5] mLaw (d + 20) rc rs 885 [some (.ref 1000000), some (.ref 0), some (.ref 69), some (.int 0)] [] 92 h (fun r _ _ => r = some (.int 1)) := by
  refine aw_aload_n (npc := 886) rfl dL_law_885 rfl ?_
  refine aw_aload_n (npc := 887) rfl dL_law_886 rfl ?_
  refine aw_iload_n (npc := 888) rfl dL_law_887 rfl ?_
  refine aw_iconst (npc := 889) (v := 1) (by decide) dL_law_888 rfl ?_
  refine aw_iaddV (npc := 890) (v := 1) dL_law_889 rfl (by decide) ?_
  refine aw_script_ld (npc := 891) (j := 1) dL_law_890 rfl ⟨by decide, by decide⟩ rfl ?_
  refine aw_aload_n (npc := 892) rfl dL_law_891 rfl ?_
  refine aw_iload_n (npc := 893) rfl dL_law_892 rfl ?_
  refine aw_iconst (npc := 894) (v := 2) (by decide) dL_law_893 rfl ?_
  refine aw_iaddV (npc := 895) (v := 2) dL_law_894 rfl (by decide) ?_
  refine aw_script_ld (npc := 896) (j := 2) dL_law_895 rfl ⟨by decide, by decide⟩ rfl ?_
  refine aw_aload_n (npc := 897) rfl dL_law_896 rfl ?_
  refine aw_iload_n (npc := 898) rfl dL_law_897 rfl ?_
  refine aw_iconst (npc := 899) (v := 3) (by decide) dL_law_898 rfl ?_
  refine aw_iaddV (npc := 900) (v := 3) dL_law_899 rfl (by decide) ?_
  refine aw_script_ld (npc := 901) (j := 3) dL_law_900 rfl ⟨by decide, by decide⟩ rfl ?_
  refine aw_callV (npc := 904) (N := mX7_feed) (b := 0) (mc := 0) (ms := 0) (A := [.int x1, .int x2, .int x3]) (S := []) (L0 := [some (.ref 0), some (.int x1), some (.int x2), some (.int x3)]) dL_law_901 rfl km_X7_feed kk_L_109 F7.1 ⟨by decide, rfl⟩ rfl ⟨rfl, by decide⟩ rfl (Nat.le_of_ble_eq_true rfl) (Nat.zero_add _) (Nat.zero_add _) rfl ?_
  refine p_X7_feed F7 (fun h9 fr => ?_)
  have F9 := mv_X8 (fun k hk => fr k hk) F8
  refine aw_aload_n (npc := 905) rfl dL_law_904 rfl ?_
  refine aw_aload_n (npc := 906) rfl dL_law_905 rfl ?_
  refine aw_iload_n (npc := 907) rfl dL_law_906 rfl ?_
  refine aw_iconst (npc := 908) (v := 1) (by decide) dL_law_907 rfl ?_
  refine aw_iaddV (npc := 909) (v := 1) dL_law_908 rfl (by decide) ?_
  refine aw_script_ld (npc := 910) (j := 1) dL_law_909 rfl ⟨by decide, by decide⟩ rfl ?_
  refine aw_aload_n (npc := 911) rfl dL_law_910 rfl ?_
  refine aw_iload_n (npc := 912) rfl dL_law_911 rfl ?_
  refine aw_iconst (npc := 913) (v := 2) (by decide) dL_law_912 rfl ?_
  refine aw_iaddV (npc := 914) (v := 2) dL_law_913 rfl (by decide) ?_
  refine aw_script_ld (npc := 915) (j := 2) dL_law_914 rfl ⟨by decide, by decide⟩ rfl ?_
  refine aw_aload_n (npc := 916) rfl dL_law_915 rfl ?_
  refine aw_iload_n (npc := 917) rfl dL_law_916 rfl ?_
  refine aw_iconst (npc := 918) (v := 3) (by decide) dL_law_917 rfl ?_
  refine aw_iaddV (npc := 919) (v := 3) dL_law_918 rfl (by decide) ?_
  refine aw_script_ld (npc := 920) (j := 3) dL_law_919 rfl ⟨by decide, by decide⟩ rfl ?_
  refine aw_callV (npc := 923) (N := mX8_feed) (b := 69) (mc := 0) (ms := 0) (A := [.int x1, .int x2, .int x3]) (S := [_]) (L0 := [some (.ref 69), some (.int x1), some (.int x2), some (.int x3), none, none]) dL_law_920 rfl km_X8_feed kk_L_112 F9.1 ⟨by decide, rfl⟩ rfl ⟨rfl, by decide⟩ rfl (Nat.le_of_ble_eq_true rfl) (Nat.zero_add _) (Nat.zero_add _) rfl ?_
  refine p_X8_feed F9 (fun n9 h9 => ?_)
  refine aw_icmp_eq (npc := 926) (tgt := 1452) dL_law_923 rfl (by decide) (fun _ => ?_) (fun hc => absurd (rfl) hc)
  exact lw_end
set_option maxHeartbeats 40000000 in
set_option maxRecDepth 100000 in
theorem lw_c24 {x0 x1 x2 x3 x4 x5 : Int32} {d rc rs : Nat} {h : am_H} (F7 : f0_X7 h) (F8 : f0_X8 h) : AW [x0, x1, x2, x3, x4, x5] mLaw (d + 20) rc rs 928 [some (.ref 1000000), some (.ref 0), some (.ref 69), some (.int 0)] [] 92 h (fun r _ _ => r = some (.int 1)) := by
  refine aw_aload_n (npc := 929) rfl dL_law_928 rfl ?_
  refine aw_aload_n (npc := 930) rfl dL_law_929 rfl ?_
  refine aw_iload_n (npc := 931) rfl dL_law_930 rfl ?_
  refine aw_iconst (npc := 932) (v := 1) (by decide) dL_law_931 rfl ?_
  refine aw_iaddV (npc := 933) (v := 1) dL_law_932 rfl (by decide) ?_
  refine aw_script_ld (npc := 934) (j := 1) dL_law_933 rfl ⟨by decide, by decide⟩ rfl ?_
  refine aw_callV (npc := 937) (N := mX7_trim) (b := 0) (mc := 0) (ms := 0) (A := [.int x1]) (S := []) (L0 := [some (.ref 0), some (.int x1)]) dL_law_934 rfl km_X7_trim kk_L_113 F7.1 ⟨by decide, rfl⟩ rfl ⟨rfl, by decide⟩ rfl (Nat.le_of_ble_eq_true rfl) (Nat.zero_add _) (Nat.zero_add _) rfl ?_
  refine p_X7_trim F7 (fun h9 fr => ?_)
  have F9 := mv_X8 (fun k hk => fr k hk) F8
  refine aw_aload_n (npc := 938) rfl dL_law_937 rfl ?_
  refine aw_aload_n (npc := 939) rfl dL_law_938 rfl ?_
  refine aw_iload_n (npc := 940) rfl dL_law_939 rfl ?_
  refine aw_iconst (npc := 941) (v := 1) (by decide) dL_law_940 rfl ?_
  refine aw_iaddV (npc := 942) (v := 1) dL_law_941 rfl (by decide) ?_
  refine aw_script_ld (npc := 943) (j := 1) dL_law_942 rfl ⟨by decide, by decide⟩ rfl ?_
  refine aw_callV (npc := 946) (N := mX8_trim) (b := 69) (mc := 0) (ms := 0) (A := [.int x1]) (S := [_]) (L0 := [some (.ref 69), some (.int x1)]) dL_law_943 rfl km_X8_trim kk_L_116 F9.1 ⟨by decide, rfl⟩ rfl ⟨rfl, by decide⟩ rfl (Nat.le_of_ble_eq_true rfl) (Nat.zero_add _) (Nat.zero_add _) rfl ?_
  refine p_X8_trim F9 (fun n9 h9 => ?_)
  refine aw_icmp_eq (npc := 949) (tgt := 1452) dL_law_946 rfl (by decide) (fun _ => ?_) (fun hc => absurd (rfl) hc)
  exact lw_end
set_option maxHeartbeats 40000000 in
set_option maxRecDepth 100000 in
theorem lw_c25 {x0 x1 x2 x3 x4 x5 : Int32} {d rc rs : Nat} {h : am_H} (F7 : f0_X7 h) (F8 : f0_X8 h) : AW [x0, x1, x2, x3, x4, x5] mLaw (d + 20) rc rs 951 [some (.ref 1000000), some (.ref 0), some (.ref 69), some (.int 0)] [] 92 h (fun r _ _ => r = some (.int 1)) := by
  refine aw_aload_n (npc := 952) rfl dL_law_951 rfl ?_
  refine aw_callV (npc := 955) (N := mX7_text) (b := 0) (mc := 0) (ms := 0) (A := []) (S := []) (L0 := [some (.ref 0), none]) dL_law_952 rfl km_X7_text kk_L_117 F7.1 ⟨by decide, rfl⟩ rfl ⟨rfl, by decide⟩ rfl (Nat.le_of_ble_eq_true rfl) (Nat.zero_add _) (Nat.zero_add _) rfl ?_
  refine p_X7_text F7 (fun h9 fr => ?_)
  have F9 := mv_X8 (fun k hk => fr k hk) F8
  refine aw_aload_n (npc := 956) rfl dL_law_955 rfl ?_
  refine aw_callV (npc := 959) (N := mX8_text) (b := 69) (mc := 0) (ms := 0) (A := []) (S := [_]) (L0 := [some (.ref 69), none, none, none]) dL_law_956 rfl km_X8_text kk_L_120 F9.1 ⟨by decide, rfl⟩ rfl ⟨rfl, by decide⟩ rfl (Nat.le_of_ble_eq_true rfl) (Nat.zero_add _) (Nat.zero_add _) rfl ?_
  refine p_X8_text F9 (fun n9 h9 => ?_)
  refine aw_icmp_eq (npc := 962) (tgt := 1452) dL_law_959 rfl (by decide) (fun _ => ?_) (fun hc => absurd (rfl) hc)
  exact lw_end
set_option maxHeartbeats 40000000 in
set_option maxRecDepth 100000 in
theorem lw_c26 {x0 x1 x2 x3 x4 x5 : Int32} {d rc rs : Nat} {h : am_H} (F7 : f0_X7 h) (F8 : f0_X8 h) : AW [x0, x1, x2, x3, x4, x5] mLaw (d + 20) rc rs 964 [some (.ref 1000000), some (.ref 0), some (.ref 69), some (.int 0)] [] 92 h (fun r _ _ => r = some (.int 1)) := by
  refine aw_aload_n (npc := 965) rfl dL_law_964 rfl ?_
  refine aw_aload_n (npc := 966) rfl dL_law_965 rfl ?_
  refine aw_iload_n (npc := 967) rfl dL_law_966 rfl ?_
  refine aw_iconst (npc := 968) (v := 1) (by decide) dL_law_967 rfl ?_
  refine aw_iaddV (npc := 969) (v := 1) dL_law_968 rfl (by decide) ?_
  refine aw_script_ld (npc := 970) (j := 1) dL_law_969 rfl ⟨by decide, by decide⟩ rfl ?_
  refine aw_aload_n (npc := 971) rfl dL_law_970 rfl ?_
  refine aw_iload_n (npc := 972) rfl dL_law_971 rfl ?_
  refine aw_iconst (npc := 973) (v := 2) (by decide) dL_law_972 rfl ?_
  refine aw_iaddV (npc := 974) (v := 2) dL_law_973 rfl (by decide) ?_
  refine aw_script_ld (npc := 975) (j := 2) dL_law_974 rfl ⟨by decide, by decide⟩ rfl ?_
  refine aw_callV (npc := 978) (N := mX7_textTold) (b := 0) (mc := 0) (ms := 0) (A := [.int x1, .int x2]) (S := []) (L0 := [some (.ref 0), some (.int x1), some (.int x2), none]) dL_law_975 rfl km_X7_textTold kk_L_121 F7.1 ⟨by decide, rfl⟩ rfl ⟨rfl, by decide⟩ rfl (Nat.le_of_ble_eq_true rfl) (Nat.zero_add _) (Nat.zero_add _) rfl ?_
  refine p_X7_textTold F7 (fun h9 fr => ?_)
  have F9 := mv_X8 (fun k hk => fr k hk) F8
  refine aw_aload_n (npc := 979) rfl dL_law_978 rfl ?_
  refine aw_aload_n (npc := 980) rfl dL_law_979 rfl ?_
  refine aw_iload_n (npc := 981) rfl dL_law_980 rfl ?_
  refine aw_iconst (npc := 982) (v := 1) (by decide) dL_law_981 rfl ?_
  refine aw_iaddV (npc := 983) (v := 1) dL_law_982 rfl (by decide) ?_
  refine aw_script_ld (npc := 984) (j := 1) dL_law_983 rfl ⟨by decide, by decide⟩ rfl ?_
  refine aw_aload_n (npc := 985) rfl dL_law_984 rfl ?_
  refine aw_iload_n (npc := 986) rfl dL_law_985 rfl ?_
  refine aw_iconst (npc := 987) (v := 2) (by decide) dL_law_986 rfl ?_
  refine aw_iaddV (npc := 988) (v := 2) dL_law_987 rfl (by decide) ?_
  refine aw_script_ld (npc := 989) (j := 2) dL_law_988 rfl ⟨by decide, by decide⟩ rfl ?_
  refine aw_callV (npc := 992) (N := mX8_textTold) (b := 69) (mc := 0) (ms := 0) (A := [.int x1, .int x2]) (S := [_]) (L0 := [some (.ref 69), some (.int x1), some (.int x2)]) dL_law_989 rfl km_X8_textTold kk_L_124 F9.1 ⟨by decide, rfl⟩ rfl ⟨rfl, by decide⟩ rfl (Nat.le_of_ble_eq_true rfl) (Nat.zero_add _) (Nat.zero_add _) rfl ?_
  refine p_X8_textTold F9 (fun n9 h9 => ?_)
  refine aw_icmp_eq (npc := 995) (tgt := 1452) dL_law_992 rfl (by decide) (fun _ => ?_) (fun hc => absurd (rfl) hc)
  exact lw_end
set_option maxHeartbeats 40000000 in
set_option maxRecDepth 100000 in
theorem lw_c27 {x0 x1 x2 x3 x4 x5 : Int32} {d rc rs : Nat} {h : am_H} (F7 : f0_X7 h) (F8 : f0_X8 h) : AW [x0, x1, x2, x3, x4, x5] mLaw (d + 20) rc rs 997 [some (.ref 1000000), some (.ref 0), some (.ref 69), some (.int 0)] [] 92 h (fun r _ _ => r = some (.int 1)) := by
  refine aw_aload_n (npc := 998) rfl dL_law_997 rfl ?_
  refine aw_aload_n (npc := 999) rfl dL_law_998 rfl ?_
  refine aw_iload_n (npc := 1000) rfl dL_law_999 rfl ?_
  refine aw_iconst (npc := 1001) (v := 1) (by decide) dL_law_1000 rfl ?_
  refine aw_iaddV (npc := 1002) (v := 1) dL_law_1001 rfl (by decide) ?_
  refine aw_script_ld (npc := 1003) (j := 1) dL_law_1002 rfl ⟨by decide, by decide⟩ rfl ?_
  refine aw_callV (npc := 1006) (N := mX7_why) (b := 0) (mc := 0) (ms := 0) (A := [.int x1]) (S := []) (L0 := [some (.ref 0), some (.int x1)]) dL_law_1003 rfl km_X7_why kk_L_125 F7.1 ⟨by decide, rfl⟩ rfl ⟨rfl, by decide⟩ rfl (Nat.le_of_ble_eq_true rfl) (Nat.zero_add _) (Nat.zero_add _) rfl ?_
  refine p_X7_why F7 (fun h9 fr => ?_)
  have F9 := mv_X8 (fun k hk => fr k hk) F8
  refine aw_aload_n (npc := 1007) rfl dL_law_1006 rfl ?_
  refine aw_aload_n (npc := 1008) rfl dL_law_1007 rfl ?_
  refine aw_iload_n (npc := 1009) rfl dL_law_1008 rfl ?_
  refine aw_iconst (npc := 1010) (v := 1) (by decide) dL_law_1009 rfl ?_
  refine aw_iaddV (npc := 1011) (v := 1) dL_law_1010 rfl (by decide) ?_
  refine aw_script_ld (npc := 1012) (j := 1) dL_law_1011 rfl ⟨by decide, by decide⟩ rfl ?_
  refine aw_callV (npc := 1015) (N := mX8_why) (b := 69) (mc := 0) (ms := 0) (A := [.int x1]) (S := [_]) (L0 := [some (.ref 69), some (.int x1), none]) dL_law_1012 rfl km_X8_why kk_L_128 F9.1 ⟨by decide, rfl⟩ rfl ⟨rfl, by decide⟩ rfl (Nat.le_of_ble_eq_true rfl) (Nat.zero_add _) (Nat.zero_add _) rfl ?_
  refine p_X8_why F9 (fun n9 h9 => ?_)
  refine aw_icmp_eq (npc := 1018) (tgt := 1452) dL_law_1015 rfl (by decide) (fun _ => ?_) (fun hc => absurd (rfl) hc)
  exact lw_end
set_option maxHeartbeats 40000000 in
set_option maxRecDepth 100000 in
theorem lw_c28 {x0 x1 x2 x3 x4 x5 : Int32} {d rc rs : Nat} {h : am_H} (F7 : f0_X7 h) (F8 : f0_X8 h) : AW [x0, x1, x2, x3, x4, x5] mLaw (d + 20) rc rs 1020 [some (.ref 1000000), some (.ref 0), some (.ref 69), some (.int 0)] [] 92 h (fun r _ _ => r = some (.int 1)) := by
  refine aw_aload_n (npc := 1021) rfl dL_law_1020 rfl ?_
  refine aw_aload_n (npc := 1022) rfl dL_law_1021 rfl ?_
  refine aw_iload_n (npc := 1023) rfl dL_law_1022 rfl ?_
  refine aw_iconst (npc := 1024) (v := 1) (by decide) dL_law_1023 rfl ?_
  refine aw_iaddV (npc := 1025) (v := 1) dL_law_1024 rfl (by decide) ?_
  refine aw_script_ld (npc := 1026) (j := 1) dL_law_1025 rfl ⟨by decide, by decide⟩ rfl ?_
  refine aw_aload_n (npc := 1027) rfl dL_law_1026 rfl ?_
  refine aw_iload_n (npc := 1028) rfl dL_law_1027 rfl ?_
  refine aw_iconst (npc := 1029) (v := 2) (by decide) dL_law_1028 rfl ?_
  refine aw_iaddV (npc := 1030) (v := 2) dL_law_1029 rfl (by decide) ?_
  refine aw_script_ld (npc := 1031) (j := 2) dL_law_1030 rfl ⟨by decide, by decide⟩ rfl ?_
  refine aw_aload_n (npc := 1032) rfl dL_law_1031 rfl ?_
  refine aw_iload_n (npc := 1033) rfl dL_law_1032 rfl ?_
  refine aw_iconst (npc := 1034) (v := 3) (by decide) dL_law_1033 rfl ?_
  refine aw_iaddV (npc := 1035) (v := 3) dL_law_1034 rfl (by decide) ?_
  refine aw_script_ld (npc := 1036) (j := 3) dL_law_1035 rfl ⟨by decide, by decide⟩ rfl ?_
  refine aw_callV (npc := 1039) (N := mX7_sheet) (b := 0) (mc := 0) (ms := 0) (A := [.int x1, .int x2, .int x3]) (S := []) (L0 := [some (.ref 0), some (.int x1), some (.int x2), some (.int x3)]) dL_law_1036 rfl km_X7_sheet kk_L_129 F7.1 ⟨by decide, rfl⟩ rfl ⟨rfl, by decide⟩ rfl (Nat.le_of_ble_eq_true rfl) (Nat.zero_add _) (Nat.zero_add _) rfl ?_
  refine p_X7_sheet F7 (fun h9 fr => ?_)
  have F9 := mv_X8 (fun k hk => fr k hk) F8
  refine aw_aload_n (npc := 1040) rfl dL_law_1039 rfl ?_
  refine aw_aload_n (npc := 1041) rfl dL_law_1040 rfl ?_
  refine aw_iload_n (npc := 1042) rfl dL_law_1041 rfl ?_
  refine aw_iconst (npc := 1043) (v := 1) (by decide) dL_law_1042 rfl ?_
  refine aw_iaddV (npc := 1044) (v := 1) dL_law_1043 rfl (by decide) ?_
  refine aw_script_ld (npc := 1045) (j := 1) dL_law_1044 rfl ⟨by decide, by decide⟩ rfl ?_
  refine aw_aload_n (npc := 1046) rfl dL_law_1045 rfl ?_
  refine aw_iload_n (npc := 1047) rfl dL_law_1046 rfl ?_
  refine aw_iconst (npc := 1048) (v := 2) (by decide) dL_law_1047 rfl ?_
  refine aw_iaddV (npc := 1049) (v := 2) dL_law_1048 rfl (by decide) ?_
  refine aw_script_ld (npc := 1050) (j := 2) dL_law_1049 rfl ⟨by decide, by decide⟩ rfl ?_
  refine aw_aload_n (npc := 1051) rfl dL_law_1050 rfl ?_
  refine aw_iload_n (npc := 1052) rfl dL_law_1051 rfl ?_
  refine aw_iconst (npc := 1053) (v := 3) (by decide) dL_law_1052 rfl ?_
  refine aw_iaddV (npc := 1054) (v := 3) dL_law_1053 rfl (by decide) ?_
  refine aw_script_ld (npc := 1055) (j := 3) dL_law_1054 rfl ⟨by decide, by decide⟩ rfl ?_
  refine aw_callV (npc := 1058) (N := mX8_sheet) (b := 69) (mc := 0) (ms := 0) (A := [.int x1, .int x2, .int x3]) (S := [_]) (L0 := [some (.ref 69), some (.int x1), some (.int x2), some (.int x3), none]) dL_law_1055 rfl km_X8_sheet kk_L_132 F9.1 ⟨by decide, rfl⟩ rfl ⟨rfl, by decide⟩ rfl (Nat.le_of_ble_eq_true rfl) (Nat.zero_add _) (Nat.zero_add _) rfl ?_
  refine p_X8_sheet F9 (fun n9 h9 => ?_)
  refine aw_icmp_eq (npc := 1061) (tgt := 1452) dL_law_1058 rfl (by decide) (fun _ => ?_) (fun hc => absurd (rfl) hc)
  exact lw_end
set_option maxHeartbeats 40000000 in
set_option maxRecDepth 100000 in
theorem lw_c29 {x0 x1 x2 x3 x4 x5 : Int32} {d rc rs : Nat} {h : am_H} (F7 : f0_X7 h) (F8 : f0_X8 h) : AW [x0, x1, x2, x3, x4, x5] mLaw (d + 20) rc rs 1063 [some (.ref 1000000), some (.ref 0), some (.ref 69), some (.int 0)] [] 92 h (fun r _ _ => r = some (.int 1)) := by
  refine aw_aload_n (npc := 1064) rfl dL_law_1063 rfl ?_
  refine aw_aload_n (npc := 1065) rfl dL_law_1064 rfl ?_
  refine aw_iload_n (npc := 1066) rfl dL_law_1065 rfl ?_
  refine aw_iconst (npc := 1067) (v := 1) (by decide) dL_law_1066 rfl ?_
  refine aw_iaddV (npc := 1068) (v := 1) dL_law_1067 rfl (by decide) ?_
  refine aw_script_ld (npc := 1069) (j := 1) dL_law_1068 rfl ⟨by decide, by decide⟩ rfl ?_
  refine aw_aload_n (npc := 1070) rfl dL_law_1069 rfl ?_
  refine aw_iload_n (npc := 1071) rfl dL_law_1070 rfl ?_
  refine aw_iconst (npc := 1072) (v := 2) (by decide) dL_law_1071 rfl ?_
  refine aw_iaddV (npc := 1073) (v := 2) dL_law_1072 rfl (by decide) ?_
  refine aw_script_ld (npc := 1074) (j := 2) dL_law_1073 rfl ⟨by decide, by decide⟩ rfl ?_
  refine aw_aload_n (npc := 1075) rfl dL_law_1074 rfl ?_
  refine aw_iload_n (npc := 1076) rfl dL_law_1075 rfl ?_
  refine aw_iconst (npc := 1077) (v := 3) (by decide) dL_law_1076 rfl ?_
  refine aw_iaddV (npc := 1078) (v := 3) dL_law_1077 rfl (by decide) ?_
  refine aw_script_ld (npc := 1079) (j := 3) dL_law_1078 rfl ⟨by decide, by decide⟩ rfl ?_
  refine aw_callV (npc := 1082) (N := mX7_mark) (b := 0) (mc := 0) (ms := 0) (A := [.int x1, .int x2, .int x3]) (S := []) (L0 := [some (.ref 0), some (.int x1), some (.int x2), some (.int x3), none]) dL_law_1079 rfl km_X7_mark kk_L_133 F7.1 ⟨by decide, rfl⟩ rfl ⟨rfl, by decide⟩ rfl (Nat.le_of_ble_eq_true rfl) (Nat.zero_add _) (Nat.zero_add _) rfl ?_
  refine p_X7_mark F7 (fun h9 fr => ?_)
  have F9 := mv_X8 (fun k hk => fr k hk) F8
  refine aw_aload_n (npc := 1083) rfl dL_law_1082 rfl ?_
  refine aw_aload_n (npc := 1084) rfl dL_law_1083 rfl ?_
  refine aw_iload_n (npc := 1085) rfl dL_law_1084 rfl ?_
  refine aw_iconst (npc := 1086) (v := 1) (by decide) dL_law_1085 rfl ?_
  refine aw_iaddV (npc := 1087) (v := 1) dL_law_1086 rfl (by decide) ?_
  refine aw_script_ld (npc := 1088) (j := 1) dL_law_1087 rfl ⟨by decide, by decide⟩ rfl ?_
  refine aw_aload_n (npc := 1089) rfl dL_law_1088 rfl ?_
  refine aw_iload_n (npc := 1090) rfl dL_law_1089 rfl ?_
  refine aw_iconst (npc := 1091) (v := 2) (by decide) dL_law_1090 rfl ?_
  refine aw_iaddV (npc := 1092) (v := 2) dL_law_1091 rfl (by decide) ?_
  refine aw_script_ld (npc := 1093) (j := 2) dL_law_1092 rfl ⟨by decide, by decide⟩ rfl ?_
  refine aw_aload_n (npc := 1094) rfl dL_law_1093 rfl ?_
  refine aw_iload_n (npc := 1095) rfl dL_law_1094 rfl ?_
  refine aw_iconst (npc := 1096) (v := 3) (by decide) dL_law_1095 rfl ?_
  refine aw_iaddV (npc := 1097) (v := 3) dL_law_1096 rfl (by decide) ?_
  refine aw_script_ld (npc := 1098) (j := 3) dL_law_1097 rfl ⟨by decide, by decide⟩ rfl ?_
  refine aw_callV (npc := 1101) (N := mX8_mark) (b := 69) (mc := 0) (ms := 0) (A := [.int x1, .int x2, .int x3]) (S := [_]) (L0 := [some (.ref 69), some (.int x1), some (.int x2), some (.int x3)]) dL_law_1098 rfl km_X8_mark kk_L_136 F9.1 ⟨by decide, rfl⟩ rfl ⟨rfl, by decide⟩ rfl (Nat.le_of_ble_eq_true rfl) (Nat.zero_add _) (Nat.zero_add _) rfl ?_
  refine p_X8_mark F9 (fun n9 h9 => ?_)
  refine aw_icmp_eq (npc := 1104) (tgt := 1452) dL_law_1101 rfl (by decide) (fun _ => ?_) (fun hc => absurd (rfl) hc)
  exact lw_end
set_option maxHeartbeats 40000000 in
set_option maxRecDepth 100000 in
theorem lw_c30 {x0 x1 x2 x3 x4 x5 : Int32} {d rc rs : Nat} {h : am_H} (F7 : f0_X7 h) (F8 : f0_X8 h) : AW [x0, x1, x2, x3, x4, x5] mLaw (d + 20) rc rs 1106 [some (.ref 1000000), some (.ref 0), some (.ref 69), some (.int 0)] [] 92 h (fun r _ _ => r = some (.int 1)) := by
  refine aw_aload_n (npc := 1107) rfl dL_law_1106 rfl ?_
  refine aw_aload_n (npc := 1108) rfl dL_law_1107 rfl ?_
  refine aw_iload_n (npc := 1109) rfl dL_law_1108 rfl ?_
  refine aw_iconst (npc := 1110) (v := 1) (by decide) dL_law_1109 rfl ?_
  refine aw_iaddV (npc := 1111) (v := 1) dL_law_1110 rfl (by decide) ?_
  refine aw_script_ld (npc := 1112) (j := 1) dL_law_1111 rfl ⟨by decide, by decide⟩ rfl ?_
  refine aw_callV (npc := 1115) (N := mX7_pour) (b := 0) (mc := 0) (ms := 0) (A := [.int x1]) (S := []) (L0 := [some (.ref 0), some (.int x1), none, none, none, none]) dL_law_1112 rfl km_X7_pour kk_L_137 F7.1 ⟨by decide, rfl⟩ rfl ⟨rfl, by decide⟩ rfl (Nat.le_of_ble_eq_true rfl) (Nat.zero_add _) (Nat.zero_add _) rfl ?_
  refine p_X7_pour F7 (fun h9 fr => ?_)
  have F9 := mv_X8 (fun k hk => fr k hk) F8
  refine aw_aload_n (npc := 1116) rfl dL_law_1115 rfl ?_
  refine aw_aload_n (npc := 1117) rfl dL_law_1116 rfl ?_
  refine aw_iload_n (npc := 1118) rfl dL_law_1117 rfl ?_
  refine aw_iconst (npc := 1119) (v := 1) (by decide) dL_law_1118 rfl ?_
  refine aw_iaddV (npc := 1120) (v := 1) dL_law_1119 rfl (by decide) ?_
  refine aw_script_ld (npc := 1121) (j := 1) dL_law_1120 rfl ⟨by decide, by decide⟩ rfl ?_
  refine aw_callV (npc := 1124) (N := mX8_pour) (b := 69) (mc := 0) (ms := 0) (A := [.int x1]) (S := [_]) (L0 := [some (.ref 69), some (.int x1), none, none, none, none]) dL_law_1121 rfl km_X8_pour kk_L_140 F9.1 ⟨by decide, rfl⟩ rfl ⟨rfl, by decide⟩ rfl (Nat.le_of_ble_eq_true rfl) (Nat.zero_add _) (Nat.zero_add _) rfl ?_
  refine p_X8_pour F9 (fun n9 h9 => ?_)
  refine aw_icmp_eq (npc := 1127) (tgt := 1452) dL_law_1124 rfl (by decide) (fun _ => ?_) (fun hc => absurd (rfl) hc)
  exact lw_end
set_option maxHeartbeats 40000000 in
set_option maxRecDepth 100000 in
theorem lw_c31 {x0 x1 x2 x3 x4 x5 : Int32} {d rc rs : Nat} {h : am_H} (F7 : f0_X7 h) (F8 : f0_X8 h) : AW [x0, x1, x2, x3, x4, x5] mLaw (d + 20) rc rs 1129 [some (.ref 1000000), some (.ref 0), some (.ref 69), some (.int 0)] [] 92 h (fun r _ _ => r = some (.int 1)) := by
  refine aw_aload_n (npc := 1130) rfl dL_law_1129 rfl ?_
  refine aw_aload_n (npc := 1131) rfl dL_law_1130 rfl ?_
  refine aw_iload_n (npc := 1132) rfl dL_law_1131 rfl ?_
  refine aw_iconst (npc := 1133) (v := 1) (by decide) dL_law_1132 rfl ?_
  refine aw_iaddV (npc := 1134) (v := 1) dL_law_1133 rfl (by decide) ?_
  refine aw_script_ld (npc := 1135) (j := 1) dL_law_1134 rfl ⟨by decide, by decide⟩ rfl ?_
  refine aw_callV (npc := 1138) (N := mX7_reads) (b := 0) (mc := 0) (ms := 0) (A := [.int x1]) (S := []) (L0 := [some (.ref 0), some (.int x1), none, none]) dL_law_1135 rfl km_X7_reads kk_L_141 F7.1 ⟨by decide, rfl⟩ rfl ⟨rfl, by decide⟩ rfl (Nat.le_of_ble_eq_true rfl) (Nat.zero_add _) (Nat.zero_add _) rfl ?_
  refine p_X7_reads F7 (fun h9 fr => ?_)
  have F9 := mv_X8 (fun k hk => fr k hk) F8
  refine aw_aload_n (npc := 1139) rfl dL_law_1138 rfl ?_
  refine aw_aload_n (npc := 1140) rfl dL_law_1139 rfl ?_
  refine aw_iload_n (npc := 1141) rfl dL_law_1140 rfl ?_
  refine aw_iconst (npc := 1142) (v := 1) (by decide) dL_law_1141 rfl ?_
  refine aw_iaddV (npc := 1143) (v := 1) dL_law_1142 rfl (by decide) ?_
  refine aw_script_ld (npc := 1144) (j := 1) dL_law_1143 rfl ⟨by decide, by decide⟩ rfl ?_
  refine aw_callV (npc := 1147) (N := mX8_reads) (b := 69) (mc := 0) (ms := 0) (A := [.int x1]) (S := [_]) (L0 := [some (.ref 69), some (.int x1), none]) dL_law_1144 rfl km_X8_reads kk_L_144 F9.1 ⟨by decide, rfl⟩ rfl ⟨rfl, by decide⟩ rfl (Nat.le_of_ble_eq_true rfl) (Nat.zero_add _) (Nat.zero_add _) rfl ?_
  refine p_X8_reads F9 (fun n9 h9 => ?_)
  refine aw_icmp_eq (npc := 1150) (tgt := 1452) dL_law_1147 rfl (by decide) (fun _ => ?_) (fun hc => absurd (rfl) hc)
  exact lw_end
set_option maxHeartbeats 40000000 in
set_option maxRecDepth 100000 in
theorem lw_c32 {x0 x1 x2 x3 x4 x5 : Int32} {d rc rs : Nat} {h : am_H} (F7 : f0_X7 h) (F8 : f0_X8 h) : AW [x0, x1, x2, x3, x4, x5] mLaw (d + 20) rc rs 1152 [some (.ref 1000000), some (.ref 0), some (.ref 69), some (.int 0)] [] 92 h (fun r _ _ => r = some (.int 1)) := by
  refine aw_aload_n (npc := 1153) rfl dL_law_1152 rfl ?_
  refine aw_aload_n (npc := 1154) rfl dL_law_1153 rfl ?_
  refine aw_iload_n (npc := 1155) rfl dL_law_1154 rfl ?_
  refine aw_iconst (npc := 1156) (v := 1) (by decide) dL_law_1155 rfl ?_
  refine aw_iaddV (npc := 1157) (v := 1) dL_law_1156 rfl (by decide) ?_
  refine aw_script_ld (npc := 1158) (j := 1) dL_law_1157 rfl ⟨by decide, by decide⟩ rfl ?_
  refine aw_aload_n (npc := 1159) rfl dL_law_1158 rfl ?_
  refine aw_iload_n (npc := 1160) rfl dL_law_1159 rfl ?_
  refine aw_iconst (npc := 1161) (v := 2) (by decide) dL_law_1160 rfl ?_
  refine aw_iaddV (npc := 1162) (v := 2) dL_law_1161 rfl (by decide) ?_
  refine aw_script_ld (npc := 1163) (j := 2) dL_law_1162 rfl ⟨by decide, by decide⟩ rfl ?_
  refine aw_aload_n (npc := 1164) rfl dL_law_1163 rfl ?_
  refine aw_iload_n (npc := 1165) rfl dL_law_1164 rfl ?_
  refine aw_iconst (npc := 1166) (v := 3) (by decide) dL_law_1165 rfl ?_
  refine aw_iaddV (npc := 1167) (v := 3) dL_law_1166 rfl (by decide) ?_
  refine aw_script_ld (npc := 1168) (j := 3) dL_law_1167 rfl ⟨by decide, by decide⟩ rfl ?_
  refine aw_aload_n (npc := 1169) rfl dL_law_1168 rfl ?_
  refine aw_iload_n (npc := 1170) rfl dL_law_1169 rfl ?_
  refine aw_iconst (npc := 1171) (v := 4) (by decide) dL_law_1170 rfl ?_
  refine aw_iaddV (npc := 1172) (v := 4) dL_law_1171 rfl (by decide) ?_
  refine aw_script_ld (npc := 1173) (j := 4) dL_law_1172 rfl ⟨by decide, by decide⟩ rfl ?_
  refine aw_aload_n (npc := 1174) rfl dL_law_1173 rfl ?_
  refine aw_iload_n (npc := 1175) rfl dL_law_1174 rfl ?_
  refine aw_iconst (npc := 1176) (v := 5) (by decide) dL_law_1175 rfl ?_
  refine aw_iaddV (npc := 1177) (v := 5) dL_law_1176 rfl (by decide) ?_
  refine aw_script_ld (npc := 1178) (j := 5) dL_law_1177 rfl ⟨by decide, by decide⟩ rfl ?_
  refine aw_callV (npc := 1181) (N := mX7_copy) (b := 0) (mc := 0) (ms := 0) (A := [.int x1, .int x2, .int x3, .int x4, .int x5]) (S := []) (L0 := [some (.ref 0), some (.int x1), some (.int x2), some (.int x3), some (.int x4), some (.int x5), none, none]) dL_law_1178 rfl km_X7_copy kk_L_145 F7.1 ⟨by decide, rfl⟩ rfl ⟨rfl, by decide⟩ rfl (Nat.le_of_ble_eq_true rfl) (Nat.zero_add _) (Nat.zero_add _) rfl ?_
  refine p_X7_copy F7 (fun h9 fr => ?_)
  have F9 := mv_X8 (fun k hk => fr k hk) F8
  refine aw_aload_n (npc := 1182) rfl dL_law_1181 rfl ?_
  refine aw_aload_n (npc := 1183) rfl dL_law_1182 rfl ?_
  refine aw_iload_n (npc := 1184) rfl dL_law_1183 rfl ?_
  refine aw_iconst (npc := 1185) (v := 1) (by decide) dL_law_1184 rfl ?_
  refine aw_iaddV (npc := 1186) (v := 1) dL_law_1185 rfl (by decide) ?_
  refine aw_script_ld (npc := 1187) (j := 1) dL_law_1186 rfl ⟨by decide, by decide⟩ rfl ?_
  refine aw_aload_n (npc := 1188) rfl dL_law_1187 rfl ?_
  refine aw_iload_n (npc := 1189) rfl dL_law_1188 rfl ?_
  refine aw_iconst (npc := 1190) (v := 2) (by decide) dL_law_1189 rfl ?_
  refine aw_iaddV (npc := 1191) (v := 2) dL_law_1190 rfl (by decide) ?_
  refine aw_script_ld (npc := 1192) (j := 2) dL_law_1191 rfl ⟨by decide, by decide⟩ rfl ?_
  refine aw_aload_n (npc := 1193) rfl dL_law_1192 rfl ?_
  refine aw_iload_n (npc := 1194) rfl dL_law_1193 rfl ?_
  refine aw_iconst (npc := 1195) (v := 3) (by decide) dL_law_1194 rfl ?_
  refine aw_iaddV (npc := 1196) (v := 3) dL_law_1195 rfl (by decide) ?_
  refine aw_script_ld (npc := 1197) (j := 3) dL_law_1196 rfl ⟨by decide, by decide⟩ rfl ?_
  refine aw_aload_n (npc := 1198) rfl dL_law_1197 rfl ?_
  refine aw_iload_n (npc := 1199) rfl dL_law_1198 rfl ?_
  refine aw_iconst (npc := 1200) (v := 4) (by decide) dL_law_1199 rfl ?_
  refine aw_iaddV (npc := 1201) (v := 4) dL_law_1200 rfl (by decide) ?_
  refine aw_script_ld (npc := 1202) (j := 4) dL_law_1201 rfl ⟨by decide, by decide⟩ rfl ?_
  refine aw_aload_n (npc := 1203) rfl dL_law_1202 rfl ?_
  refine aw_iload_n (npc := 1204) rfl dL_law_1203 rfl ?_
  refine aw_iconst (npc := 1205) (v := 5) (by decide) dL_law_1204 rfl ?_
  refine aw_iaddV (npc := 1206) (v := 5) dL_law_1205 rfl (by decide) ?_
  refine aw_script_ld (npc := 1207) (j := 5) dL_law_1206 rfl ⟨by decide, by decide⟩ rfl ?_
  refine aw_callV (npc := 1210) (N := mX8_copy) (b := 69) (mc := 0) (ms := 0) (A := [.int x1, .int x2, .int x3, .int x4, .int x5]) (S := [_]) (L0 := [some (.ref 69), some (.int x1), some (.int x2), some (.int x3), some (.int x4), some (.int x5), none]) dL_law_1207 rfl km_X8_copy kk_L_149 F9.1 ⟨by decide, rfl⟩ rfl ⟨rfl, by decide⟩ rfl (Nat.le_of_ble_eq_true rfl) (Nat.zero_add _) (Nat.zero_add _) rfl ?_
  refine p_X8_copy F9 (fun n9 h9 => ?_)
  refine aw_icmp_eq (npc := 1213) (tgt := 1452) dL_law_1210 rfl (by decide) (fun _ => ?_) (fun hc => absurd (rfl) hc)
  exact lw_end
set_option maxHeartbeats 40000000 in
set_option maxRecDepth 100000 in
theorem lw_c33 {x0 x1 x2 x3 x4 x5 : Int32} {d rc rs : Nat} {h : am_H} (F7 : f0_X7 h) (F8 : f0_X8 h) : AW [x0, x1, x2, x3, x4, x5] mLaw (d + 20) rc rs 1215 [some (.ref 1000000), some (.ref 0), some (.ref 69), some (.int 0)] [] 92 h (fun r _ _ => r = some (.int 1)) := by
  refine aw_aload_n (npc := 1216) rfl dL_law_1215 rfl ?_
  refine aw_aload_n (npc := 1217) rfl dL_law_1216 rfl ?_
  refine aw_iload_n (npc := 1218) rfl dL_law_1217 rfl ?_
  refine aw_iconst (npc := 1219) (v := 1) (by decide) dL_law_1218 rfl ?_
  refine aw_iaddV (npc := 1220) (v := 1) dL_law_1219 rfl (by decide) ?_
  refine aw_script_ld (npc := 1221) (j := 1) dL_law_1220 rfl ⟨by decide, by decide⟩ rfl ?_
  refine aw_aload_n (npc := 1222) rfl dL_law_1221 rfl ?_
  refine aw_iload_n (npc := 1223) rfl dL_law_1222 rfl ?_
  refine aw_iconst (npc := 1224) (v := 2) (by decide) dL_law_1223 rfl ?_
  refine aw_iaddV (npc := 1225) (v := 2) dL_law_1224 rfl (by decide) ?_
  refine aw_script_ld (npc := 1226) (j := 2) dL_law_1225 rfl ⟨by decide, by decide⟩ rfl ?_
  refine aw_aload_n (npc := 1227) rfl dL_law_1226 rfl ?_
  refine aw_iload_n (npc := 1228) rfl dL_law_1227 rfl ?_
  refine aw_iconst (npc := 1229) (v := 3) (by decide) dL_law_1228 rfl ?_
  refine aw_iaddV (npc := 1230) (v := 3) dL_law_1229 rfl (by decide) ?_
  refine aw_script_ld (npc := 1231) (j := 3) dL_law_1230 rfl ⟨by decide, by decide⟩ rfl ?_
  refine aw_callV (npc := 1234) (N := mX7_lay) (b := 0) (mc := 0) (ms := 0) (A := [.int x1, .int x2, .int x3]) (S := []) (L0 := [some (.ref 0), some (.int x1), some (.int x2), some (.int x3), none, none]) dL_law_1231 rfl km_X7_lay kk_L_150 F7.1 ⟨by decide, rfl⟩ rfl ⟨rfl, by decide⟩ rfl (Nat.le_of_ble_eq_true rfl) (Nat.zero_add _) (Nat.zero_add _) rfl ?_
  refine p_X7_lay F7 (fun h9 fr => ?_)
  have F9 := mv_X8 (fun k hk => fr k hk) F8
  refine aw_aload_n (npc := 1235) rfl dL_law_1234 rfl ?_
  refine aw_aload_n (npc := 1236) rfl dL_law_1235 rfl ?_
  refine aw_iload_n (npc := 1237) rfl dL_law_1236 rfl ?_
  refine aw_iconst (npc := 1238) (v := 1) (by decide) dL_law_1237 rfl ?_
  refine aw_iaddV (npc := 1239) (v := 1) dL_law_1238 rfl (by decide) ?_
  refine aw_script_ld (npc := 1240) (j := 1) dL_law_1239 rfl ⟨by decide, by decide⟩ rfl ?_
  refine aw_aload_n (npc := 1241) rfl dL_law_1240 rfl ?_
  refine aw_iload_n (npc := 1242) rfl dL_law_1241 rfl ?_
  refine aw_iconst (npc := 1243) (v := 2) (by decide) dL_law_1242 rfl ?_
  refine aw_iaddV (npc := 1244) (v := 2) dL_law_1243 rfl (by decide) ?_
  refine aw_script_ld (npc := 1245) (j := 2) dL_law_1244 rfl ⟨by decide, by decide⟩ rfl ?_
  refine aw_aload_n (npc := 1246) rfl dL_law_1245 rfl ?_
  refine aw_iload_n (npc := 1247) rfl dL_law_1246 rfl ?_
  refine aw_iconst (npc := 1248) (v := 3) (by decide) dL_law_1247 rfl ?_
  refine aw_iaddV (npc := 1249) (v := 3) dL_law_1248 rfl (by decide) ?_
  refine aw_script_ld (npc := 1250) (j := 3) dL_law_1249 rfl ⟨by decide, by decide⟩ rfl ?_
  refine aw_callV (npc := 1253) (N := mX8_lay) (b := 69) (mc := 0) (ms := 0) (A := [.int x1, .int x2, .int x3]) (S := [_]) (L0 := [some (.ref 69), some (.int x1), some (.int x2), some (.int x3), none, none]) dL_law_1250 rfl km_X8_lay kk_L_153 F9.1 ⟨by decide, rfl⟩ rfl ⟨rfl, by decide⟩ rfl (Nat.le_of_ble_eq_true rfl) (Nat.zero_add _) (Nat.zero_add _) rfl ?_
  refine p_X8_lay F9 (fun n9 h9 => ?_)
  refine aw_icmp_eq (npc := 1256) (tgt := 1452) dL_law_1253 rfl (by decide) (fun _ => ?_) (fun hc => absurd (rfl) hc)
  exact lw_end
set_option maxHeartbeats 40000000 in
set_option maxRecDepth 100000 in
theorem lw_c34 {x0 x1 x2 x3 x4 x5 : Int32} {d rc rs : Nat} {h : am_H} (F7 : f0_X7 h) (F8 : f0_X8 h) : AW [x0, x1, x2, x3, x4, x5] mLaw (d + 20) rc rs 1258 [some (.ref 1000000), some (.ref 0), some (.ref 69), some (.int 0)] [] 92 h (fun r _ _ => r = some (.int 1)) := by
  refine aw_aload_n (npc := 1259) rfl dL_law_1258 rfl ?_
  refine aw_aload_n (npc := 1260) rfl dL_law_1259 rfl ?_
  refine aw_iload_n (npc := 1261) rfl dL_law_1260 rfl ?_
  refine aw_iconst (npc := 1262) (v := 1) (by decide) dL_law_1261 rfl ?_
  refine aw_iaddV (npc := 1263) (v := 1) dL_law_1262 rfl (by decide) ?_
  refine aw_script_ld (npc := 1264) (j := 1) dL_law_1263 rfl ⟨by decide, by decide⟩ rfl ?_
  refine aw_aload_n (npc := 1265) rfl dL_law_1264 rfl ?_
  refine aw_iload_n (npc := 1266) rfl dL_law_1265 rfl ?_
  refine aw_iconst (npc := 1267) (v := 2) (by decide) dL_law_1266 rfl ?_
  refine aw_iaddV (npc := 1268) (v := 2) dL_law_1267 rfl (by decide) ?_
  refine aw_script_ld (npc := 1269) (j := 2) dL_law_1268 rfl ⟨by decide, by decide⟩ rfl ?_
  refine aw_callV (npc := 1272) (N := mX7_ask) (b := 0) (mc := 0) (ms := 0) (A := [.int x1, .int x2]) (S := []) (L0 := [some (.ref 0), some (.int x1), some (.int x2), none]) dL_law_1269 rfl km_X7_ask kk_L_154 F7.1 ⟨by decide, rfl⟩ rfl ⟨rfl, by decide⟩ rfl (Nat.le_of_ble_eq_true rfl) (Nat.zero_add _) (Nat.zero_add _) rfl ?_
  refine p_X7_ask F7 (fun h9 fr => ?_)
  have F9 := mv_X8 (fun k hk => fr k hk) F8
  refine aw_aload_n (npc := 1273) rfl dL_law_1272 rfl ?_
  refine aw_aload_n (npc := 1274) rfl dL_law_1273 rfl ?_
  refine aw_iload_n (npc := 1275) rfl dL_law_1274 rfl ?_
  refine aw_iconst (npc := 1276) (v := 1) (by decide) dL_law_1275 rfl ?_
  refine aw_iaddV (npc := 1277) (v := 1) dL_law_1276 rfl (by decide) ?_
  refine aw_script_ld (npc := 1278) (j := 1) dL_law_1277 rfl ⟨by decide, by decide⟩ rfl ?_
  refine aw_aload_n (npc := 1279) rfl dL_law_1278 rfl ?_
  refine aw_iload_n (npc := 1280) rfl dL_law_1279 rfl ?_
  refine aw_iconst (npc := 1281) (v := 2) (by decide) dL_law_1280 rfl ?_
  refine aw_iaddV (npc := 1282) (v := 2) dL_law_1281 rfl (by decide) ?_
  refine aw_script_ld (npc := 1283) (j := 2) dL_law_1282 rfl ⟨by decide, by decide⟩ rfl ?_
  refine aw_callV (npc := 1286) (N := mX8_ask) (b := 69) (mc := 0) (ms := 0) (A := [.int x1, .int x2]) (S := [_]) (L0 := [some (.ref 69), some (.int x1), some (.int x2)]) dL_law_1283 rfl km_X8_ask kk_L_157 F9.1 ⟨by decide, rfl⟩ rfl ⟨rfl, by decide⟩ rfl (Nat.le_of_ble_eq_true rfl) (Nat.zero_add _) (Nat.zero_add _) rfl ?_
  refine p_X8_ask F9 (fun n9 h9 => ?_)
  refine aw_icmp_eq (npc := 1289) (tgt := 1452) dL_law_1286 rfl (by decide) (fun _ => ?_) (fun hc => absurd (rfl) hc)
  exact lw_end
set_option maxHeartbeats 40000000 in
set_option maxRecDepth 100000 in
theorem lw_c35 {x0 x1 x2 x3 x4 x5 : Int32} {d rc rs : Nat} {h : am_H} (F7 : f0_X7 h) (F8 : f0_X8 h) : AW [x0, x1, x2, x3, x4, x5] mLaw (d + 20) rc rs 1291 [some (.ref 1000000), some (.ref 0), some (.ref 69), some (.int 0)] [] 92 h (fun r _ _ => r = some (.int 1)) := by
  refine aw_aload_n (npc := 1292) rfl dL_law_1291 rfl ?_
  refine aw_aload_n (npc := 1293) rfl dL_law_1292 rfl ?_
  refine aw_iload_n (npc := 1294) rfl dL_law_1293 rfl ?_
  refine aw_iconst (npc := 1295) (v := 1) (by decide) dL_law_1294 rfl ?_
  refine aw_iaddV (npc := 1296) (v := 1) dL_law_1295 rfl (by decide) ?_
  refine aw_script_ld (npc := 1297) (j := 1) dL_law_1296 rfl ⟨by decide, by decide⟩ rfl ?_
  refine aw_aload_n (npc := 1298) rfl dL_law_1297 rfl ?_
  refine aw_iload_n (npc := 1299) rfl dL_law_1298 rfl ?_
  refine aw_iconst (npc := 1300) (v := 2) (by decide) dL_law_1299 rfl ?_
  refine aw_iaddV (npc := 1301) (v := 2) dL_law_1300 rfl (by decide) ?_
  refine aw_script_ld (npc := 1302) (j := 2) dL_law_1301 rfl ⟨by decide, by decide⟩ rfl ?_
  refine aw_callV (npc := 1305) (N := mX7_item) (b := 0) (mc := 0) (ms := 0) (A := [.int x1, .int x2]) (S := []) (L0 := [some (.ref 0), some (.int x1), some (.int x2), none]) dL_law_1302 rfl km_X7_item kk_L_158 F7.1 ⟨by decide, rfl⟩ rfl ⟨rfl, by decide⟩ rfl (Nat.le_of_ble_eq_true rfl) (Nat.zero_add _) (Nat.zero_add _) rfl ?_
  refine p_X7_item F7 (fun h9 fr => ?_)
  have F9 := mv_X8 (fun k hk => fr k hk) F8
  refine aw_aload_n (npc := 1306) rfl dL_law_1305 rfl ?_
  refine aw_aload_n (npc := 1307) rfl dL_law_1306 rfl ?_
  refine aw_iload_n (npc := 1308) rfl dL_law_1307 rfl ?_
  refine aw_iconst (npc := 1309) (v := 1) (by decide) dL_law_1308 rfl ?_
  refine aw_iaddV (npc := 1310) (v := 1) dL_law_1309 rfl (by decide) ?_
  refine aw_script_ld (npc := 1311) (j := 1) dL_law_1310 rfl ⟨by decide, by decide⟩ rfl ?_
  refine aw_aload_n (npc := 1312) rfl dL_law_1311 rfl ?_
  refine aw_iload_n (npc := 1313) rfl dL_law_1312 rfl ?_
  refine aw_iconst (npc := 1314) (v := 2) (by decide) dL_law_1313 rfl ?_
  refine aw_iaddV (npc := 1315) (v := 2) dL_law_1314 rfl (by decide) ?_
  refine aw_script_ld (npc := 1316) (j := 2) dL_law_1315 rfl ⟨by decide, by decide⟩ rfl ?_
  refine aw_callV (npc := 1319) (N := mX8_item) (b := 69) (mc := 0) (ms := 0) (A := [.int x1, .int x2]) (S := [_]) (L0 := [some (.ref 69), some (.int x1), some (.int x2), none]) dL_law_1316 rfl km_X8_item kk_L_161 F9.1 ⟨by decide, rfl⟩ rfl ⟨rfl, by decide⟩ rfl (Nat.le_of_ble_eq_true rfl) (Nat.zero_add _) (Nat.zero_add _) rfl ?_
  refine p_X8_item F9 (fun n9 h9 => ?_)
  refine aw_icmp_eq (npc := 1322) (tgt := 1452) dL_law_1319 rfl (by decide) (fun _ => ?_) (fun hc => absurd (rfl) hc)
  exact lw_end
set_option maxHeartbeats 40000000 in
set_option maxRecDepth 100000 in
theorem lw_c36 {x0 x1 x2 x3 x4 x5 : Int32} {d rc rs : Nat} {h : am_H} (F7 : f0_X7 h) (F8 : f0_X8 h) : AW [x0, x1, x2, x3, x4, x5] mLaw (d + 20) rc rs 1324 [some (.ref 1000000), some (.ref 0), some (.ref 69), some (.int 0)] [] 92 h (fun r _ _ => r = some (.int 1)) := by
  refine aw_aload_n (npc := 1325) rfl dL_law_1324 rfl ?_
  refine aw_aload_n (npc := 1326) rfl dL_law_1325 rfl ?_
  refine aw_iload_n (npc := 1327) rfl dL_law_1326 rfl ?_
  refine aw_iconst (npc := 1328) (v := 1) (by decide) dL_law_1327 rfl ?_
  refine aw_iaddV (npc := 1329) (v := 1) dL_law_1328 rfl (by decide) ?_
  refine aw_script_ld (npc := 1330) (j := 1) dL_law_1329 rfl ⟨by decide, by decide⟩ rfl ?_
  refine aw_aload_n (npc := 1331) rfl dL_law_1330 rfl ?_
  refine aw_iload_n (npc := 1332) rfl dL_law_1331 rfl ?_
  refine aw_iconst (npc := 1333) (v := 2) (by decide) dL_law_1332 rfl ?_
  refine aw_iaddV (npc := 1334) (v := 2) dL_law_1333 rfl (by decide) ?_
  refine aw_script_ld (npc := 1335) (j := 2) dL_law_1334 rfl ⟨by decide, by decide⟩ rfl ?_
  refine aw_callV (npc := 1338) (N := mX7_rest) (b := 0) (mc := 0) (ms := 0) (A := [.int x1, .int x2]) (S := []) (L0 := [some (.ref 0), some (.int x1), some (.int x2), none]) dL_law_1335 rfl km_X7_rest kk_L_162 F7.1 ⟨by decide, rfl⟩ rfl ⟨rfl, by decide⟩ rfl (Nat.le_of_ble_eq_true rfl) (Nat.zero_add _) (Nat.zero_add _) rfl ?_
  refine p_X7_rest F7 (fun h9 fr => ?_)
  have F9 := mv_X8 (fun k hk => fr k hk) F8
  refine aw_aload_n (npc := 1339) rfl dL_law_1338 rfl ?_
  refine aw_aload_n (npc := 1340) rfl dL_law_1339 rfl ?_
  refine aw_iload_n (npc := 1341) rfl dL_law_1340 rfl ?_
  refine aw_iconst (npc := 1342) (v := 1) (by decide) dL_law_1341 rfl ?_
  refine aw_iaddV (npc := 1343) (v := 1) dL_law_1342 rfl (by decide) ?_
  refine aw_script_ld (npc := 1344) (j := 1) dL_law_1343 rfl ⟨by decide, by decide⟩ rfl ?_
  refine aw_aload_n (npc := 1345) rfl dL_law_1344 rfl ?_
  refine aw_iload_n (npc := 1346) rfl dL_law_1345 rfl ?_
  refine aw_iconst (npc := 1347) (v := 2) (by decide) dL_law_1346 rfl ?_
  refine aw_iaddV (npc := 1348) (v := 2) dL_law_1347 rfl (by decide) ?_
  refine aw_script_ld (npc := 1349) (j := 2) dL_law_1348 rfl ⟨by decide, by decide⟩ rfl ?_
  refine aw_callV (npc := 1352) (N := mX8_rest) (b := 69) (mc := 0) (ms := 0) (A := [.int x1, .int x2]) (S := [_]) (L0 := [some (.ref 69), some (.int x1), some (.int x2)]) dL_law_1349 rfl km_X8_rest kk_L_165 F9.1 ⟨by decide, rfl⟩ rfl ⟨rfl, by decide⟩ rfl (Nat.le_of_ble_eq_true rfl) (Nat.zero_add _) (Nat.zero_add _) rfl ?_
  refine p_X8_rest F9 (fun n9 h9 => ?_)
  refine aw_icmp_eq (npc := 1355) (tgt := 1452) dL_law_1352 rfl (by decide) (fun _ => ?_) (fun hc => absurd (rfl) hc)
  exact lw_end
set_option maxHeartbeats 40000000 in
set_option maxRecDepth 100000 in
theorem lw_c37 {x0 x1 x2 x3 x4 x5 : Int32} {d rc rs : Nat} {h : am_H} (F7 : f0_X7 h) (F8 : f0_X8 h) : AW [x0, x1, x2, x3, x4, x5] mLaw (d + 20) rc rs 1357 [some (.ref 1000000), some (.ref 0), some (.ref 69), some (.int 0)] [] 92 h (fun r _ _ => r = some (.int 1)) := by
  refine aw_aload_n (npc := 1358) rfl dL_law_1357 rfl ?_
  refine aw_aload_n (npc := 1359) rfl dL_law_1358 rfl ?_
  refine aw_iload_n (npc := 1360) rfl dL_law_1359 rfl ?_
  refine aw_iconst (npc := 1361) (v := 1) (by decide) dL_law_1360 rfl ?_
  refine aw_iaddV (npc := 1362) (v := 1) dL_law_1361 rfl (by decide) ?_
  refine aw_script_ld (npc := 1363) (j := 1) dL_law_1362 rfl ⟨by decide, by decide⟩ rfl ?_
  refine aw_callV (npc := 1366) (N := mX7_tell) (b := 0) (mc := 0) (ms := 0) (A := [.int x1]) (S := []) (L0 := [some (.ref 0), some (.int x1)]) dL_law_1363 rfl km_X7_tell kk_L_166 F7.1 ⟨by decide, rfl⟩ rfl ⟨rfl, by decide⟩ rfl (Nat.le_of_ble_eq_true rfl) (Nat.zero_add _) (Nat.zero_add _) rfl ?_
  refine p_X7_tell F7 (fun h9 fr => ?_)
  have F9 := mv_X8 (fun k hk => fr k hk) F8
  refine aw_aload_n (npc := 1367) rfl dL_law_1366 rfl ?_
  refine aw_aload_n (npc := 1368) rfl dL_law_1367 rfl ?_
  refine aw_iload_n (npc := 1369) rfl dL_law_1368 rfl ?_
  refine aw_iconst (npc := 1370) (v := 1) (by decide) dL_law_1369 rfl ?_
  refine aw_iaddV (npc := 1371) (v := 1) dL_law_1370 rfl (by decide) ?_
  refine aw_script_ld (npc := 1372) (j := 1) dL_law_1371 rfl ⟨by decide, by decide⟩ rfl ?_
  refine aw_callV (npc := 1375) (N := mX8_tell) (b := 69) (mc := 0) (ms := 0) (A := [.int x1]) (S := [_]) (L0 := [some (.ref 69), some (.int x1)]) dL_law_1372 rfl km_X8_tell kk_L_169 F9.1 ⟨by decide, rfl⟩ rfl ⟨rfl, by decide⟩ rfl (Nat.le_of_ble_eq_true rfl) (Nat.zero_add _) (Nat.zero_add _) rfl ?_
  refine p_X8_tell F9 (fun n9 h9 => ?_)
  refine aw_icmp_eq (npc := 1378) (tgt := 1452) dL_law_1375 rfl (by decide) (fun _ => ?_) (fun hc => absurd (rfl) hc)
  exact lw_end
set_option maxHeartbeats 40000000 in
set_option maxRecDepth 100000 in
theorem lw_c38 {x0 x1 x2 x3 x4 x5 : Int32} {d rc rs : Nat} {h : am_H} (F7 : f0_X7 h) (F8 : f0_X8 h) : AW [x0, x1, x2, x3, x4, x5] mLaw (d + 20) rc rs 1380 [some (.ref 1000000), some (.ref 0), some (.ref 69), some (.int 0)] [] 92 h (fun r _ _ => r = some (.int 1)) := by
  refine aw_aload_n (npc := 1381) rfl dL_law_1380 rfl ?_
  refine aw_aload_n (npc := 1382) rfl dL_law_1381 rfl ?_
  refine aw_iload_n (npc := 1383) rfl dL_law_1382 rfl ?_
  refine aw_iconst (npc := 1384) (v := 1) (by decide) dL_law_1383 rfl ?_
  refine aw_iaddV (npc := 1385) (v := 1) dL_law_1384 rfl (by decide) ?_
  refine aw_script_ld (npc := 1386) (j := 1) dL_law_1385 rfl ⟨by decide, by decide⟩ rfl ?_
  refine aw_callV (npc := 1389) (N := mX7_check) (b := 0) (mc := 0) (ms := 0) (A := [.int x1]) (S := []) (L0 := [some (.ref 0), some (.int x1), none, none, none, none]) dL_law_1386 rfl km_X7_check kk_L_170 F7.1 ⟨by decide, rfl⟩ rfl ⟨rfl, by decide⟩ rfl (Nat.le_of_ble_eq_true rfl) (Nat.zero_add _) (Nat.zero_add _) rfl ?_
  refine p_X7_check F7 (fun h9 fr => ?_)
  have F9 := mv_X8 (fun k hk => fr k hk) F8
  refine aw_aload_n (npc := 1390) rfl dL_law_1389 rfl ?_
  refine aw_aload_n (npc := 1391) rfl dL_law_1390 rfl ?_
  refine aw_iload_n (npc := 1392) rfl dL_law_1391 rfl ?_
  refine aw_iconst (npc := 1393) (v := 1) (by decide) dL_law_1392 rfl ?_
  refine aw_iaddV (npc := 1394) (v := 1) dL_law_1393 rfl (by decide) ?_
  refine aw_script_ld (npc := 1395) (j := 1) dL_law_1394 rfl ⟨by decide, by decide⟩ rfl ?_
  refine aw_callV (npc := 1398) (N := mX8_check) (b := 69) (mc := 0) (ms := 0) (A := [.int x1]) (S := [_]) (L0 := [some (.ref 69), some (.int x1), none, none, none, none]) dL_law_1395 rfl km_X8_check kk_L_173 F9.1 ⟨by decide, rfl⟩ rfl ⟨rfl, by decide⟩ rfl (Nat.le_of_ble_eq_true rfl) (Nat.zero_add _) (Nat.zero_add _) rfl ?_
  refine p_X8_check F9 (fun n9 h9 => ?_)
  refine aw_icmp_eq (npc := 1401) (tgt := 1452) dL_law_1398 rfl (by decide) (fun _ => ?_) (fun hc => absurd (rfl) hc)
  exact lw_end
set_option maxHeartbeats 40000000 in
set_option maxRecDepth 100000 in
theorem lw_c39 {x0 x1 x2 x3 x4 x5 : Int32} {d rc rs : Nat} {h : am_H} (F7 : f0_X7 h) (F8 : f0_X8 h) : AW [x0, x1, x2, x3, x4, x5] mLaw (d + 20) rc rs 1403 [some (.ref 1000000), some (.ref 0), some (.ref 69), some (.int 0)] [] 92 h (fun r _ _ => r = some (.int 1)) := by
  refine aw_aload_n (npc := 1404) rfl dL_law_1403 rfl ?_
  refine aw_callV (npc := 1407) (N := mX7_keep) (b := 0) (mc := 0) (ms := 0) (A := []) (S := []) (L0 := [some (.ref 0)]) dL_law_1404 rfl km_X7_keep kk_L_174 F7.1 ⟨by decide, rfl⟩ rfl ⟨rfl, by decide⟩ rfl (Nat.le_of_ble_eq_true rfl) (Nat.zero_add _) (Nat.zero_add _) rfl ?_
  refine p_X7_keep F7 (fun h9 fr => ?_)
  have F9 := mv_X8 (fun k hk => fr k hk) F8
  refine aw_aload_n (npc := 1408) rfl dL_law_1407 rfl ?_
  refine aw_callV (npc := 1411) (N := mX8_keep) (b := 69) (mc := 0) (ms := 0) (A := []) (S := [_]) (L0 := [some (.ref 69)]) dL_law_1408 rfl km_X8_keep kk_L_177 F9.1 ⟨by decide, rfl⟩ rfl ⟨rfl, by decide⟩ rfl (Nat.le_of_ble_eq_true rfl) (Nat.zero_add _) (Nat.zero_add _) rfl ?_
  refine p_X8_keep F9 (fun n9 h9 => ?_)
  refine aw_icmp_eq (npc := 1414) (tgt := 1452) dL_law_1411 rfl (by decide) (fun _ => ?_) (fun hc => absurd (rfl) hc)
  exact lw_end
set_option maxHeartbeats 40000000 in
set_option maxRecDepth 100000 in
theorem lw_c40 {x0 x1 x2 x3 x4 x5 : Int32} {d rc rs : Nat} {h : am_H} (F7 : f0_X7 h) (F8 : f0_X8 h) : AW [x0, x1, x2, x3, x4, x5] mLaw (d + 20) rc rs 1416 [some (.ref 1000000), some (.ref 0), some (.ref 69), some (.int 0)] [] 92 h (fun r _ _ => r = some (.int 1)) := by
  refine aw_aload_n (npc := 1417) rfl dL_law_1416 rfl ?_
  refine aw_callV (npc := 1420) (N := mX7_back) (b := 0) (mc := 0) (ms := 0) (A := []) (S := []) (L0 := [some (.ref 0)]) dL_law_1417 rfl km_X7_back kk_L_178 F7.1 ⟨by decide, rfl⟩ rfl ⟨rfl, by decide⟩ rfl (Nat.le_of_ble_eq_true rfl) (Nat.zero_add _) (Nat.zero_add _) rfl ?_
  refine p_X7_back F7 (fun h9 fr => ?_)
  have F9 := mv_X8 (fun k hk => fr k hk) F8
  refine aw_aload_n (npc := 1421) rfl dL_law_1420 rfl ?_
  refine aw_callV (npc := 1424) (N := mX8_back) (b := 69) (mc := 0) (ms := 0) (A := []) (S := [_]) (L0 := [some (.ref 69)]) dL_law_1421 rfl km_X8_back kk_L_181 F9.1 ⟨by decide, rfl⟩ rfl ⟨rfl, by decide⟩ rfl (Nat.le_of_ble_eq_true rfl) (Nat.zero_add _) (Nat.zero_add _) rfl ?_
  refine p_X8_back F9 (fun n9 h9 => ?_)
  refine aw_icmp_eq (npc := 1427) (tgt := 1452) dL_law_1424 rfl (by decide) (fun _ => ?_) (fun hc => absurd (rfl) hc)
  exact lw_end
set_option maxHeartbeats 40000000 in
set_option maxRecDepth 100000 in
theorem lw_c41 {x0 x1 x2 x3 x4 x5 : Int32} {d rc rs : Nat} {h : am_H} (F7 : f0_X7 h) (F8 : f0_X8 h) : AW [x0, x1, x2, x3, x4, x5] mLaw (d + 20) rc rs 1429 [some (.ref 1000000), some (.ref 0), some (.ref 69), some (.int 0)] [] 92 h (fun r _ _ => r = some (.int 1)) := by
  refine aw_aload_n (npc := 1430) rfl dL_law_1429 rfl ?_
  refine aw_aload_n (npc := 1431) rfl dL_law_1430 rfl ?_
  refine aw_iload_n (npc := 1432) rfl dL_law_1431 rfl ?_
  refine aw_iconst (npc := 1433) (v := 1) (by decide) dL_law_1432 rfl ?_
  refine aw_iaddV (npc := 1434) (v := 1) dL_law_1433 rfl (by decide) ?_
  refine aw_script_ld (npc := 1435) (j := 1) dL_law_1434 rfl ⟨by decide, by decide⟩ rfl ?_
  refine aw_callV (npc := 1438) (N := mX7_count) (b := 0) (mc := 0) (ms := 0) (A := [.int x1]) (S := []) (L0 := [some (.ref 0), some (.int x1)]) dL_law_1435 rfl km_X7_count kk_L_182 F7.1 ⟨by decide, rfl⟩ rfl ⟨rfl, by decide⟩ rfl (Nat.le_of_ble_eq_true rfl) (Nat.zero_add _) (Nat.zero_add _) rfl ?_
  refine p_X7_count F7 (fun h9 fr => ?_)
  have F9 := mv_X8 (fun k hk => fr k hk) F8
  refine aw_aload_n (npc := 1439) rfl dL_law_1438 rfl ?_
  refine aw_aload_n (npc := 1440) rfl dL_law_1439 rfl ?_
  refine aw_iload_n (npc := 1441) rfl dL_law_1440 rfl ?_
  refine aw_iconst (npc := 1442) (v := 1) (by decide) dL_law_1441 rfl ?_
  refine aw_iaddV (npc := 1443) (v := 1) dL_law_1442 rfl (by decide) ?_
  refine aw_script_ld (npc := 1444) (j := 1) dL_law_1443 rfl ⟨by decide, by decide⟩ rfl ?_
  refine aw_callV (npc := 1447) (N := mX8_count) (b := 69) (mc := 0) (ms := 0) (A := [.int x1]) (S := [_]) (L0 := [some (.ref 69), some (.int x1)]) dL_law_1444 rfl km_X8_count kk_L_185 F9.1 ⟨by decide, rfl⟩ rfl ⟨rfl, by decide⟩ rfl (Nat.le_of_ble_eq_true rfl) (Nat.zero_add _) (Nat.zero_add _) rfl ?_
  refine p_X8_count F9 (fun n9 h9 => ?_)
  refine aw_icmp_eq (npc := 1450) (tgt := 1452) dL_law_1447 rfl (by decide) (fun _ => ?_) (fun hc => absurd (rfl) hc)
  exact lw_end
set_option maxHeartbeats 40000000 in
set_option maxRecDepth 100000 in
theorem lw_six {x0 x1 x2 x3 x4 x5 : Int32} {d rc rs : Nat} {h : am_H} (F7 : f0_X7 h) (F8 : f0_X8 h) : AW [x0, x1, x2, x3, x4, x5] mLaw (d + 20) rc rs 18 [some (.ref 1000000), some (.ref 0), some (.ref 69), some (.int 0)] [] 92 h (fun r _ _ => r = some (.int 1)) := by
  refine aw_iload_n (npc := 19) rfl dL_law_18 rfl ?_
  refine aw_aload_n (npc := 20) rfl dL_law_19 rfl ?_
  refine aw_script_len (npc := 21) (v := 6) dL_law_20 rfl rfl ?_
  refine aw_bipush (npc := 23) (v := 6) (by decide) dL_law_21 rfl ?_
  refine aw_isubV (npc := 24) (v := 0) dL_law_23 rfl (by decide) ?_
  refine aw_icmp_gt (npc := 27) (tgt := 1458) dL_law_24 rfl (by decide) (fun hc => absurd hc (by decide)) (fun _ => ?_)
  refine aw_aload_n (npc := 28) rfl dL_law_27 rfl ?_
  refine aw_iload_n (npc := 29) rfl dL_law_28 rfl ?_
  refine aw_script_ld (npc := 30) (j := 0) dL_law_29 rfl ⟨by decide, by decide⟩ rfl ?_
  refine aw_bipush (npc := 32) (v := 63) (by decide) dL_law_30 rfl ?_
  refine aw_iand (npc := 33) dL_law_32 rfl ?_
  obtain ⟨j, hj, ej⟩ := pk_andE x0 (m := 63) 6 (by decide)
  refine aw_top ej ?_
  clear ej
  rcases (show j = 0 ∨ j = 1 ∨ j = 2 ∨ j = 3 ∨ j = 4 ∨ j = 5 ∨ j = 6 ∨ j = 7 ∨ j = 8 ∨ j = 9 ∨ j = 10 ∨ j = 11 ∨ j = 12 ∨ j = 13 ∨ j = 14 ∨ j = 15 ∨ j = 16 ∨ j = 17 ∨ j = 18 ∨ j = 19 ∨ j = 20 ∨ j = 21 ∨ j = 22 ∨ j = 23 ∨ j = 24 ∨ j = 25 ∨ j = 26 ∨ j = 27 ∨ j = 28 ∨ j = 29 ∨ j = 30 ∨ j = 31 ∨ j = 32 ∨ j = 33 ∨ j = 34 ∨ j = 35 ∨ j = 36 ∨ j = 37 ∨ j = 38 ∨ j = 39 ∨ j = 40 ∨ j = 41 ∨ 42 ≤ j by omega) with rfl | rfl | rfl | rfl | rfl | rfl | rfl | rfl | rfl | rfl | rfl | rfl | rfl | rfl | rfl | rfl | rfl | rfl | rfl | rfl | rfl | rfl | rfl | rfl | rfl | rfl | rfl | rfl | rfl | rfl | rfl | rfl | rfl | rfl | rfl | rfl | rfl | rfl | rfl | rfl | rfl | rfl | hj2
  · exact aw_tableIn (npc := 216) dL_law_33 (by decide) (by decide) rfl (by decide) (lw_c0 F7 F8)
  · exact aw_tableIn (npc := 259) dL_law_33 (by decide) (by decide) rfl (by decide) (lw_c1 F7 F8)
  · exact aw_tableIn (npc := 292) dL_law_33 (by decide) (by decide) rfl (by decide) (lw_c2 F7 F8)
  · exact aw_tableIn (npc := 325) dL_law_33 (by decide) (by decide) rfl (by decide) (lw_c3 F7 F8)
  · exact aw_tableIn (npc := 358) dL_law_33 (by decide) (by decide) rfl (by decide) (lw_c4 F7 F8)
  · exact aw_tableIn (npc := 401) dL_law_33 (by decide) (by decide) rfl (by decide) (lw_c5 F7 F8)
  · exact aw_tableIn (npc := 434) dL_law_33 (by decide) (by decide) rfl (by decide) (lw_c6 F7 F8)
  · exact aw_tableIn (npc := 477) dL_law_33 (by decide) (by decide) rfl (by decide) (lw_c7 F7 F8)
  · exact aw_tableIn (npc := 510) dL_law_33 (by decide) (by decide) rfl (by decide) (lw_c8 F7 F8)
  · exact aw_tableIn (npc := 543) dL_law_33 (by decide) (by decide) rfl (by decide) (lw_c9 F7 F8)
  · exact aw_tableIn (npc := 566) dL_law_33 (by decide) (by decide) rfl (by decide) (lw_c10 F7 F8)
  · exact aw_tableIn (npc := 589) dL_law_33 (by decide) (by decide) rfl (by decide) (lw_c11 F7 F8)
  · exact aw_tableIn (npc := 612) dL_law_33 (by decide) (by decide) rfl (by decide) (lw_c12 F7 F8)
  · exact aw_tableIn (npc := 635) dL_law_33 (by decide) (by decide) rfl (by decide) (lw_c13 F7 F8)
  · exact aw_tableIn (npc := 648) dL_law_33 (by decide) (by decide) rfl (by decide) (lw_c14 F7 F8)
  · exact aw_tableIn (npc := 671) dL_law_33 (by decide) (by decide) rfl (by decide) (lw_c15 F7 F8)
  · exact aw_tableIn (npc := 704) dL_law_33 (by decide) (by decide) rfl (by decide) (lw_c16 F7 F8)
  · exact aw_tableIn (npc := 727) dL_law_33 (by decide) (by decide) rfl (by decide) (lw_c17 F7 F8)
  · exact aw_tableIn (npc := 750) dL_law_33 (by decide) (by decide) rfl (by decide) (lw_c18 F7 F8)
  · exact aw_tableIn (npc := 773) dL_law_33 (by decide) (by decide) rfl (by decide) (lw_c19 F7 F8)
  · exact aw_tableIn (npc := 806) dL_law_33 (by decide) (by decide) rfl (by decide) (lw_c20 F7 F8)
  · exact aw_tableIn (npc := 849) dL_law_33 (by decide) (by decide) rfl (by decide) (lw_c21 F7 F8)
  · exact aw_tableIn (npc := 862) dL_law_33 (by decide) (by decide) rfl (by decide) (lw_c22 F7 F8)
  · exact aw_tableIn (npc := 885) dL_law_33 (by decide) (by decide) rfl (by decide) (lw_c23 F7 F8)
  · exact aw_tableIn (npc := 928) dL_law_33 (by decide) (by decide) rfl (by decide) (lw_c24 F7 F8)
  · exact aw_tableIn (npc := 951) dL_law_33 (by decide) (by decide) rfl (by decide) (lw_c25 F7 F8)
  · exact aw_tableIn (npc := 964) dL_law_33 (by decide) (by decide) rfl (by decide) (lw_c26 F7 F8)
  · exact aw_tableIn (npc := 997) dL_law_33 (by decide) (by decide) rfl (by decide) (lw_c27 F7 F8)
  · exact aw_tableIn (npc := 1020) dL_law_33 (by decide) (by decide) rfl (by decide) (lw_c28 F7 F8)
  · exact aw_tableIn (npc := 1063) dL_law_33 (by decide) (by decide) rfl (by decide) (lw_c29 F7 F8)
  · exact aw_tableIn (npc := 1106) dL_law_33 (by decide) (by decide) rfl (by decide) (lw_c30 F7 F8)
  · exact aw_tableIn (npc := 1129) dL_law_33 (by decide) (by decide) rfl (by decide) (lw_c31 F7 F8)
  · exact aw_tableIn (npc := 1152) dL_law_33 (by decide) (by decide) rfl (by decide) (lw_c32 F7 F8)
  · exact aw_tableIn (npc := 1215) dL_law_33 (by decide) (by decide) rfl (by decide) (lw_c33 F7 F8)
  · exact aw_tableIn (npc := 1258) dL_law_33 (by decide) (by decide) rfl (by decide) (lw_c34 F7 F8)
  · exact aw_tableIn (npc := 1291) dL_law_33 (by decide) (by decide) rfl (by decide) (lw_c35 F7 F8)
  · exact aw_tableIn (npc := 1324) dL_law_33 (by decide) (by decide) rfl (by decide) (lw_c36 F7 F8)
  · exact aw_tableIn (npc := 1357) dL_law_33 (by decide) (by decide) rfl (by decide) (lw_c37 F7 F8)
  · exact aw_tableIn (npc := 1380) dL_law_33 (by decide) (by decide) rfl (by decide) (lw_c38 F7 F8)
  · exact aw_tableIn (npc := 1403) dL_law_33 (by decide) (by decide) rfl (by decide) (lw_c39 F7 F8)
  · exact aw_tableIn (npc := 1416) dL_law_33 (by decide) (by decide) rfl (by decide) (lw_c40 F7 F8)
  · exact aw_tableIn (npc := 1429) dL_law_33 (by decide) (by decide) rfl (by decide) (lw_c41 F7 F8)
  · exact aw_tableOut (npc := 1452) dL_law_33 (Or.inr (by rw [nI_toInt (by omega)]; omega)) (by decide) lw_end
set_option maxHeartbeats 40000000 in
set_option maxRecDepth 100000 in
theorem lw_few0 {d rc rs n : Nat} {h : am_H} : AW [] mLaw d rc rs 18 [some (.ref 1000000), some (.ref 0), some (.ref 69), some (.int 0)] [] n h (fun r _ _ => r = some (.int 1)) := by
  refine aw_iload_n (npc := 19) rfl dL_law_18 rfl ?_
  refine aw_aload_n (npc := 20) rfl dL_law_19 rfl ?_
  refine aw_script_len (npc := 21) (v := 0) dL_law_20 rfl rfl ?_
  refine aw_bipush (npc := 23) (v := 6) (by decide) dL_law_21 rfl ?_
  refine aw_isubV (npc := 24) (v := -6) dL_law_23 rfl (by decide) ?_
  refine aw_icmp_gt (npc := 27) (tgt := 1458) dL_law_24 rfl (by decide) (fun _ => ?_) (fun hc => absurd (by decide) hc)
  refine aw_iconst (npc := 1459) (v := 1) (by decide) dL_law_1458 rfl ?_
  refine aw_zret rfl rfl dL_law_1459 ?_
  rfl
set_option maxHeartbeats 40000000 in
set_option maxRecDepth 100000 in
theorem lw_few1 {d rc rs n : Nat} {h : am_H} {x0 : Int32} : AW [x0] mLaw d rc rs 18 [some (.ref 1000000), some (.ref 0), some (.ref 69), some (.int 0)] [] n h (fun r _ _ => r = some (.int 1)) := by
  refine aw_iload_n (npc := 19) rfl dL_law_18 rfl ?_
  refine aw_aload_n (npc := 20) rfl dL_law_19 rfl ?_
  refine aw_script_len (npc := 21) (v := 1) dL_law_20 rfl rfl ?_
  refine aw_bipush (npc := 23) (v := 6) (by decide) dL_law_21 rfl ?_
  refine aw_isubV (npc := 24) (v := -5) dL_law_23 rfl (by decide) ?_
  refine aw_icmp_gt (npc := 27) (tgt := 1458) dL_law_24 rfl (by decide) (fun _ => ?_) (fun hc => absurd (by decide) hc)
  refine aw_iconst (npc := 1459) (v := 1) (by decide) dL_law_1458 rfl ?_
  refine aw_zret rfl rfl dL_law_1459 ?_
  rfl
set_option maxHeartbeats 40000000 in
set_option maxRecDepth 100000 in
theorem lw_few2 {d rc rs n : Nat} {h : am_H} {x0 : Int32} {x1 : Int32} : AW [x0, x1] mLaw d rc rs 18 [some (.ref 1000000), some (.ref 0), some (.ref 69), some (.int 0)] [] n h (fun r _ _ => r = some (.int 1)) := by
  refine aw_iload_n (npc := 19) rfl dL_law_18 rfl ?_
  refine aw_aload_n (npc := 20) rfl dL_law_19 rfl ?_
  refine aw_script_len (npc := 21) (v := 2) dL_law_20 rfl rfl ?_
  refine aw_bipush (npc := 23) (v := 6) (by decide) dL_law_21 rfl ?_
  refine aw_isubV (npc := 24) (v := -4) dL_law_23 rfl (by decide) ?_
  refine aw_icmp_gt (npc := 27) (tgt := 1458) dL_law_24 rfl (by decide) (fun _ => ?_) (fun hc => absurd (by decide) hc)
  refine aw_iconst (npc := 1459) (v := 1) (by decide) dL_law_1458 rfl ?_
  refine aw_zret rfl rfl dL_law_1459 ?_
  rfl
set_option maxHeartbeats 40000000 in
set_option maxRecDepth 100000 in
theorem lw_few3 {d rc rs n : Nat} {h : am_H} {x0 : Int32} {x1 : Int32} {x2 : Int32} : AW [x0, x1, x2] mLaw d rc rs 18 [some (.ref 1000000), some (.ref 0), some (.ref 69), some (.int 0)] [] n h (fun r _ _ => r = some (.int 1)) := by
  refine aw_iload_n (npc := 19) rfl dL_law_18 rfl ?_
  refine aw_aload_n (npc := 20) rfl dL_law_19 rfl ?_
  refine aw_script_len (npc := 21) (v := 3) dL_law_20 rfl rfl ?_
  refine aw_bipush (npc := 23) (v := 6) (by decide) dL_law_21 rfl ?_
  refine aw_isubV (npc := 24) (v := -3) dL_law_23 rfl (by decide) ?_
  refine aw_icmp_gt (npc := 27) (tgt := 1458) dL_law_24 rfl (by decide) (fun _ => ?_) (fun hc => absurd (by decide) hc)
  refine aw_iconst (npc := 1459) (v := 1) (by decide) dL_law_1458 rfl ?_
  refine aw_zret rfl rfl dL_law_1459 ?_
  rfl
set_option maxHeartbeats 40000000 in
set_option maxRecDepth 100000 in
theorem lw_few4 {d rc rs n : Nat} {h : am_H} {x0 : Int32} {x1 : Int32} {x2 : Int32} {x3 : Int32} : AW [x0, x1, x2, x3] mLaw d rc rs 18 [some (.ref 1000000), some (.ref 0), some (.ref 69), some (.int 0)] [] n h (fun r _ _ => r = some (.int 1)) := by
  refine aw_iload_n (npc := 19) rfl dL_law_18 rfl ?_
  refine aw_aload_n (npc := 20) rfl dL_law_19 rfl ?_
  refine aw_script_len (npc := 21) (v := 4) dL_law_20 rfl rfl ?_
  refine aw_bipush (npc := 23) (v := 6) (by decide) dL_law_21 rfl ?_
  refine aw_isubV (npc := 24) (v := -2) dL_law_23 rfl (by decide) ?_
  refine aw_icmp_gt (npc := 27) (tgt := 1458) dL_law_24 rfl (by decide) (fun _ => ?_) (fun hc => absurd (by decide) hc)
  refine aw_iconst (npc := 1459) (v := 1) (by decide) dL_law_1458 rfl ?_
  refine aw_zret rfl rfl dL_law_1459 ?_
  rfl
set_option maxHeartbeats 40000000 in
set_option maxRecDepth 100000 in
theorem lw_few5 {d rc rs n : Nat} {h : am_H} {x0 : Int32} {x1 : Int32} {x2 : Int32} {x3 : Int32} {x4 : Int32} : AW [x0, x1, x2, x3, x4] mLaw d rc rs 18 [some (.ref 1000000), some (.ref 0), some (.ref 69), some (.int 0)] [] n h (fun r _ _ => r = some (.int 1)) := by
  refine aw_iload_n (npc := 19) rfl dL_law_18 rfl ?_
  refine aw_aload_n (npc := 20) rfl dL_law_19 rfl ?_
  refine aw_script_len (npc := 21) (v := 5) dL_law_20 rfl rfl ?_
  refine aw_bipush (npc := 23) (v := 6) (by decide) dL_law_21 rfl ?_
  refine aw_isubV (npc := 24) (v := -1) dL_law_23 rfl (by decide) ?_
  refine aw_icmp_gt (npc := 27) (tgt := 1458) dL_law_24 rfl (by decide) (fun _ => ?_) (fun hc => absurd (by decide) hc)
  refine aw_iconst (npc := 1459) (v := 1) (by decide) dL_law_1458 rfl ?_
  refine aw_zret rfl rfl dL_law_1459 ?_
  rfl
set_option maxHeartbeats 40000000 in
set_option maxRecDepth 100000 in
theorem lw_entry {X : List Int32} (hk : ∀ h, f0_X7 h → f0_X8 h → AW X mLaw 1000 599908 7296267 18 [some (.ref 1000000), some (.ref 0), some (.ref 69), some (.int 0)] [] 92 h (fun r _ _ => r = some (.int 1))) : AW X mLaw 1000 600000 7302249 0 (am_pad [.ref 1000000] 4) [] 0 (fun _ => none) (fun r _ _ => r = some (.int 1)) := by
  refine aw_locs (L' := [some (.ref 1000000), none, none, none]) rfl ?_
  refine aw_new (npc := 3) dL_law_0 rfl kn_L_7 (by decide) rfl rfl rfl ?_
  refine aw_nn (n' := 1) rfl ?_
  refine aw_dup (npc := 4) rfl dL_law_3 rfl ?_
  refine aw_callI (npc := 7) (b := 0) (mc := 68) (ms := 831) (A := []) (S := [.ref 0]) (L0 := [some (.ref 0), none]) (rc' := 599931) (rs' := 7301407) dL_law_4 rfl km_X7_init kk_L_9 rfl ⟨rfl, by decide⟩ rfl (Nat.le_of_ble_eq_true rfl) rfl rfl rfl ?_
  refine c_X7_init (fun h1 G7 fr1 => ?_)
  refine aw_astore_n (npc := 8) (L' := [some (.ref 1000000), some (.ref 0), none, none]) dL_law_7 rfl (by decide) rfl rfl ?_
  refine aw_new (npc := 11) dL_law_8 rfl kn_L_10 (by decide) rfl rfl rfl ?_
  refine aw_nn (n' := 70) rfl ?_
  refine aw_dup (npc := 12) rfl dL_law_11 rfl ?_
  refine aw_callI (npc := 15) (b := 69) (mc := 22) (ms := 5104) (A := []) (S := [.ref 69]) (L0 := [some (.ref 69), none]) (rc' := 599908) (rs' := 7296267) dL_law_12 rfl km_X8_init kk_L_12 rfl ⟨rfl, by decide⟩ rfl (Nat.le_of_ble_eq_true rfl) rfl rfl rfl ?_
  refine c_X8_init (fun h2 F8 fr2 => ?_)
  have F7 := mv_X7 (h9 := h2) (fun k hk => fr2 k (by omega) (Or.inl hk)) G7
  refine aw_astore_n (npc := 16) (L' := [some (.ref 1000000), some (.ref 0), some (.ref 69), none]) dL_law_15 rfl (by decide) rfl rfl ?_
  refine aw_iconst (npc := 17) (v := 0) (by decide) dL_law_16 rfl ?_
  refine aw_istore_n (npc := 18) (L' := [some (.ref 1000000), some (.ref 0), some (.ref 69), some (.int 0)]) dL_law_17 rfl (by decide) rfl rfl ?_
  exact hk h2 F7 F8
theorem lw_all (X : List Int32) (hX : X.length ≤ 6) : AW X mLaw 1000 600000 7302249 0 (am_pad [.ref 1000000] 4) [] 0 (fun _ => none) (fun r _ _ => r = some (.int 1)) := by
  refine lw_entry (fun h F7 F8 => ?_)
  match X, hX with
  | [], _ => exact lw_few0
  | [_], _ => exact lw_few1
  | [_, _], _ => exact lw_few2
  | [_, _, _], _ => exact lw_few3
  | [_, _, _, _], _ => exact lw_few4
  | [_, _, _, _, _], _ => exact lw_few5
  | [_, _, _, _, _, _], _ => exact lw_six F7 F8
  | _ :: _ :: _ :: _ :: _ :: _ :: _ :: _, h => exact absurd h (by simp only [List.length_cons]; omega)
