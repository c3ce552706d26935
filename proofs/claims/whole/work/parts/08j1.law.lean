/-! the law, case by case: the class answers, then the reference, the same: 0 .. 8 -/
set_option maxHeartbeats 4000000 in
theorem lw_c0 {X : XT} {c9 s9 : Nat} {I : MI} {L : ML} {R : MR} {F : State → Prop} {Ls : Int} {sc : Int → Int} {i m : Int} {w5 w6 : Option AV} (hS : ScX X Ls sc) (hi : 0 ≤ i ∧ i + 6 ≤ Ls) (hm : 0 ≤ m ∧ m ≤ 900000) (hJ : Jb I L R m)
    (k : ∀ c' s' w5' w6' I' L' R', c' ≤ c9 + 1 → s' ≤ s9 + 6 → Jb I' L' R' (m + 8) → V X M_L_law (c', s', 161) 1428 [some (vq 3 0), some (vr 0), some (vr 138), some (vr 160), some (vi i), w5', w6'] [] I' L' R' F) : V X M_L_law (c9, s9, 161) 236 [some (vq 3 0), some (vr 0), some (vr 138), some (vr 160), some (vi i), w5, w6] [] I L R F := by
  have hsr := hS.r
  obtain ⟨bt, n, ft, pl, w, HP, r, s, a, U, D, K, P, P', hT, hC, hM, hN⟩ := hJ
  have hr := hC.hr
  have hul := hC.ul
  refine s_aload_n 237 dL_law_236 rfl rfl ?_
  refine s_aloadq_n 238 dL_law_237 rfl rfl ?_
  refine s_iload 240 dL_law_238 rfl rfl ?_
  refine s_iconst 241 dL_law_240 rfl ?_
  refine s_iadd 242 dL_law_241 rfl ?_
  refine s_sld 243 dL_law_242 rfl hS (by omega) ?_
  refine s_aloadq_n 244 dL_law_243 rfl rfl ?_
  refine s_iload 246 dL_law_244 rfl rfl ?_
  refine s_iconst 247 dL_law_246 rfl ?_
  refine s_iadd 248 dL_law_247 rfl ?_
  refine s_sld 249 dL_law_248 rfl hS (by omega) ?_
  refine s_aloadq_n 250 dL_law_249 rfl rfl ?_
  refine s_iload 252 dL_law_250 rfl rfl ?_
  refine s_iconst 253 dL_law_252 rfl ?_
  refine s_iadd 254 dL_law_253 rfl ?_
  refine s_sld 255 dL_law_254 rfl hS (by omega) ?_
  refine s_aloadq_n 256 dL_law_255 rfl rfl ?_
  refine s_iload 258 dL_law_256 rfl rfl ?_
  refine s_iconst 259 dL_law_258 rfl ?_
  refine s_iadd 260 dL_law_259 rfl ?_
  refine s_sld 261 dL_law_260 rfl hS (by omega) ?_
  refine s_aloadq_n 262 dL_law_261 rfl rfl ?_
  refine s_iload 264 dL_law_262 rfl rfl ?_
  refine s_iconst 265 dL_law_264 rfl ?_
  refine s_iadd 266 dL_law_265 rfl ?_
  refine s_sld 267 dL_law_266 rfl hS (by omega) ?_
  refine s_callV0 (M' := M_X11_feed) (as := [_, _, _, _, _]) 270 dL_law_267 rfl cw_L_19 rfl rfl sh_0 rfl (by decide) q0 (Nat.le_of_ble_eq_true rfl) (Nat.le_of_ble_eq_true rfl) (Nat.le_of_ble_eq_true rfl) ⟨rfl, rfl, rfl⟩ ?_
  refine c_X11_feed hT hC (hsr _) (hsr _) (hsr _) (hsr _) (hsr _) ⟨fun hb => ?_, fun hb I1 g1 g2 => ?_⟩
  skip
  · show V X M_L_law (c9, s9, 161) 270 [some (vq 3 0), some (vr 0), some (vr 138), some (vr 160), some (vi i), w5, w6] [vi (-1)] I L R F
    refine s_aload_n 271 dL_law_270 rfl rfl ?_
    refine s_aloadq_n 272 dL_law_271 rfl rfl ?_
    refine s_iload 274 dL_law_272 rfl rfl ?_
    refine s_iconst 275 dL_law_274 rfl ?_
    refine s_iadd 276 dL_law_275 rfl ?_
    refine s_sld 277 dL_law_276 rfl hS (by omega) ?_
    refine s_aloadq_n 278 dL_law_277 rfl rfl ?_
    refine s_iload 280 dL_law_278 rfl rfl ?_
    refine s_iconst 281 dL_law_280 rfl ?_
    refine s_iadd 282 dL_law_281 rfl ?_
    refine s_sld 283 dL_law_282 rfl hS (by omega) ?_
    refine s_aloadq_n 284 dL_law_283 rfl rfl ?_
    refine s_iload 286 dL_law_284 rfl rfl ?_
    refine s_iconst 287 dL_law_286 rfl ?_
    refine s_iadd 288 dL_law_287 rfl ?_
    refine s_sld 289 dL_law_288 rfl hS (by omega) ?_
    refine s_aloadq_n 290 dL_law_289 rfl rfl ?_
    refine s_iload 292 dL_law_290 rfl rfl ?_
    refine s_iconst 293 dL_law_292 rfl ?_
    refine s_iadd 294 dL_law_293 rfl ?_
    refine s_sld 295 dL_law_294 rfl hS (by omega) ?_
    refine s_aloadq_n 296 dL_law_295 rfl rfl ?_
    refine s_iload 298 dL_law_296 rfl rfl ?_
    refine s_iconst 299 dL_law_298 rfl ?_
    refine s_iadd 300 dL_law_299 rfl ?_
    refine s_sld 301 dL_law_300 rfl hS (by omega) ?_
    refine s_callV0 (M' := M_X12_feed) (as := [_, _, _, _, _]) 304 dL_law_301 rfl cw_L_23 rfl rfl sh_138 rfl (by decide) q138 (Nat.le_of_ble_eq_true rfl) (Nat.le_of_ble_eq_true rfl) (Nat.le_of_ble_eq_true rfl) ⟨rfl, rfl, rfl⟩ ?_
    refine c_X12_feed hT hM hC.nn (hsr _) (hsr _) (hsr _) (hsr _) (hsr _) ⟨fun _ => ?_, fun z => absurd z (by omega)⟩
    refine s_icmp_same 1428 dL_law_304 rfl ?_
    exact k _ _ _ _ _ _ _ (by omega) (by omega) ⟨_, _, _, _, _, _, _, _, _, _, _, _, _, _,  hT, (hC.mo (by omega)).lo Lo.tz0, hM.tz0, hN⟩
  · show V X M_L_law (c9, s9, 161) 270 [some (vq 3 0), some (vr 0), some (vr 138), some (vr 160), some (vi i), w5, w6] [vi (n + 20)] I1 L R F
    refine s_aload_n 271 dL_law_270 rfl rfl ?_
    refine s_aloadq_n 272 dL_law_271 rfl rfl ?_
    refine s_iload 274 dL_law_272 rfl rfl ?_
    refine s_iconst 275 dL_law_274 rfl ?_
    refine s_iadd 276 dL_law_275 rfl ?_
    refine s_sld 277 dL_law_276 rfl hS (by omega) ?_
    refine s_aloadq_n 278 dL_law_277 rfl rfl ?_
    refine s_iload 280 dL_law_278 rfl rfl ?_
    refine s_iconst 281 dL_law_280 rfl ?_
    refine s_iadd 282 dL_law_281 rfl ?_
    refine s_sld 283 dL_law_282 rfl hS (by omega) ?_
    refine s_aloadq_n 284 dL_law_283 rfl rfl ?_
    refine s_iload 286 dL_law_284 rfl rfl ?_
    refine s_iconst 287 dL_law_286 rfl ?_
    refine s_iadd 288 dL_law_287 rfl ?_
    refine s_sld 289 dL_law_288 rfl hS (by omega) ?_
    refine s_aloadq_n 290 dL_law_289 rfl rfl ?_
    refine s_iload 292 dL_law_290 rfl rfl ?_
    refine s_iconst 293 dL_law_292 rfl ?_
    refine s_iadd 294 dL_law_293 rfl ?_
    refine s_sld 295 dL_law_294 rfl hS (by omega) ?_
    refine s_aloadq_n 296 dL_law_295 rfl rfl ?_
    refine s_iload 298 dL_law_296 rfl rfl ?_
    refine s_iconst 299 dL_law_298 rfl ?_
    refine s_iadd 300 dL_law_299 rfl ?_
    refine s_sld 301 dL_law_300 rfl hS (by omega) ?_
    refine s_callV0 (M' := M_X12_feed) (as := [_, _, _, _, _]) 304 dL_law_301 rfl cw_L_23 rfl rfl sh_138 rfl (by decide) q138 (Nat.le_of_ble_eq_true rfl) (Nat.le_of_ble_eq_true rfl) (Nat.le_of_ble_eq_true rfl) ⟨rfl, rfl, rfl⟩ ?_
    refine c_X12_feed hT (hM.hi g1) hC.nn (hsr _) (hsr _) (hsr _) (hsr _) (hsr _) ⟨fun z => absurd z (by omega), fun _ I2 b1 b2 => ?_⟩
    refine s_icmp_same 1428 dL_law_304 rfl ?_
    exact k _ _ _ _ _ _ _ (by omega) (by omega) ⟨_, _, _, _, _, _, _, _, _, _, _, _, _, _,  hT, (g2.mo (by omega)).lo b1, b2, fdT_N hN ⟨hC.nn.1, hb⟩⟩
set_option maxHeartbeats 4000000 in
theorem lw_c1 {X : XT} {c9 s9 : Nat} {I : MI} {L : ML} {R : MR} {F : State → Prop} {Ls : Int} {sc : Int → Int} {i m : Int} {w5 w6 : Option AV} (hS : ScX X Ls sc) (hi : 0 ≤ i ∧ i + 6 ≤ Ls) (hm : 0 ≤ m ∧ m ≤ 900000) (hJ : Jb I L R m)
    (k : ∀ c' s' w5' w6' I' L' R', c' ≤ c9 + 1 → s' ≤ s9 + 6 → Jb I' L' R' (m + 8) → V X M_L_law (c', s', 161) 1428 [some (vq 3 0), some (vr 0), some (vr 138), some (vr 160), some (vi i), w5', w6'] [] I' L' R' F) : V X M_L_law (c9, s9, 161) 309 [some (vq 3 0), some (vr 0), some (vr 138), some (vr 160), some (vi i), w5, w6] [] I L R F := by
  have hsr := hS.r
  obtain ⟨bt, n, ft, pl, w, HP, r, s, a, U, D, K, P, P', hT, hC, hM, hN⟩ := hJ
  have hr := hC.hr
  have hul := hC.ul
  refine s_aload_n 310 dL_law_309 rfl rfl ?_
  refine s_aloadq_n 311 dL_law_310 rfl rfl ?_
  refine s_iload 313 dL_law_311 rfl rfl ?_
  refine s_iconst 314 dL_law_313 rfl ?_
  refine s_iadd 315 dL_law_314 rfl ?_
  refine s_sld 316 dL_law_315 rfl hS (by omega) ?_
  refine s_callV0 (M' := M_X11_piece) (as := [_]) 319 dL_law_316 rfl cw_L_24 rfl rfl sh_0 rfl (by decide) q0 (Nat.le_of_ble_eq_true rfl) (Nat.le_of_ble_eq_true rfl) (Nat.le_of_ble_eq_true rfl) ⟨rfl, rfl, rfl⟩ ?_
  refine c_X11_piece hT hC hN hm (hsr _) ⟨fun z I1 g1 g2 => ?_, fun z q e I1 L1 R1 g0 g1 g2 => ?_, fun z r1 e c B I1 L1 R1 pl1 g0 g1 g2 g3 => ?_⟩
  skip
  · show V X M_L_law (c9, s9, 161) 319 [some (vq 3 0), some (vr 0), some (vr 138), some (vr 160), some (vi i), w5, w6] [vi (-1)] I1 L R F
    refine s_aload_n 320 dL_law_319 rfl rfl ?_
    refine s_aloadq_n 321 dL_law_320 rfl rfl ?_
    refine s_iload 323 dL_law_321 rfl rfl ?_
    refine s_iconst 324 dL_law_323 rfl ?_
    refine s_iadd 325 dL_law_324 rfl ?_
    refine s_sld 326 dL_law_325 rfl hS (by omega) ?_
    refine s_callV0 (M' := M_X12_piece) (as := [_]) 329 dL_law_326 rfl cw_L_28 rfl rfl sh_138 rfl (by decide) q138 (Nat.le_of_ble_eq_true rfl) (Nat.le_of_ble_eq_true rfl) (Nat.le_of_ble_eq_true rfl) ⟨rfl, rfl, rfl⟩ ?_
    refine c_X12_piece hT (hM.hi g1) hC.nn hN (hsr _) ⟨fun _ I2 b1 b2 => ?_, fun y => absurd y z, fun y => absurd y z⟩
    refine s_icmp_same 1428 dL_law_329 rfl ?_
    exact k _ _ _ _ _ _ _ (by omega) (by omega) ⟨_, _, _, _, _, _, _, _, _, _, _, _, _, _,  hT, g2.lo b1, b2, hN⟩
  · show V X M_L_law (c9, s9, 161) 319 [some (vq 3 0), some (vr 0), some (vr 138), some (vr 160), some (vi i), w5, w6] [vi (-1)] I1 L1 R1 F
    refine s_aload_n 320 dL_law_319 rfl rfl ?_
    refine s_aloadq_n 321 dL_law_320 rfl rfl ?_
    refine s_iload 323 dL_law_321 rfl rfl ?_
    refine s_iconst 324 dL_law_323 rfl ?_
    refine s_iadd 325 dL_law_324 rfl ?_
    refine s_sld 326 dL_law_325 rfl hS (by omega) ?_
    refine s_callV0 (M' := M_X12_piece) (as := [_]) 329 dL_law_326 rfl cw_L_28 rfl rfl sh_138 rfl (by decide) q138 (Nat.le_of_ble_eq_true rfl) (Nat.le_of_ble_eq_true rfl) (Nat.le_of_ble_eq_true rfl) ⟨rfl, rfl, rfl⟩ ?_
    refine c_X12_piece g0 (hM.hi g1) hC.nn hN (hsr _) ⟨fun y => absurd z y, fun _ q2 e2 I2 b1 b2 => ?_, (fun _ r2 e2 => (by rw [e] at e2; cases e2))⟩
    cases e.symm.trans e2
    refine s_icmp_same 1428 dL_law_329 rfl ?_
    exact k _ _ _ _ _ _ _ (by omega) (by omega) ⟨_, _, _, _, _, _, _, _, _, _, _, _, _, _,  g0, g2.lo b1, b2, hN⟩
  · show V X M_L_law (c9, s9, 161) 319 [some (vq 3 0), some (vr 0), some (vr 138), some (vr 160), some (vi i), w5, w6] [vi (r1 7)] I1 L1 R1 F
    refine s_aload_n 320 dL_law_319 rfl rfl ?_
    refine s_aloadq_n 321 dL_law_320 rfl rfl ?_
    refine s_iload 323 dL_law_321 rfl rfl ?_
    refine s_iconst 324 dL_law_323 rfl ?_
    refine s_iadd 325 dL_law_324 rfl ?_
    refine s_sld 326 dL_law_325 rfl hS (by omega) ?_
    refine s_callV0 (M' := M_X12_piece) (as := [_]) 329 dL_law_326 rfl cw_L_28 rfl rfl sh_138 rfl (by decide) q138 (Nat.le_of_ble_eq_true rfl) (Nat.le_of_ble_eq_true rfl) (Nat.le_of_ble_eq_true rfl) ⟨rfl, rfl, rfl⟩ ?_
    refine c_X12_piece g0 (hM.hi g1) hC.nn hN (hsr _) ⟨fun y => absurd z y, (fun _ q2 e2 => (by rw [e] at e2; cases e2)), fun _ r2 e2 c2 B2 s2 I2 b1 b2 b3 b4 b5 => ?_⟩
    cases e.symm.trans e2
    cases g2.symm.trans b2
    refine s_icmp_same 1428 dL_law_329 rfl ?_
    exact k _ _ _ _ _ _ _ (by omega) (by omega) ⟨_, _, _, _, _, _, _, _, _, _, _, _, _, _,  g0, ((g3 s2 b3 b4).pl (by decide)).lo b1, b5, hN⟩
set_option maxHeartbeats 4000000 in
theorem lw_c2 {X : XT} {c9 s9 : Nat} {I : MI} {L : ML} {R : MR} {F : State → Prop} {Ls : Int} {sc : Int → Int} {i m : Int} {w5 w6 : Option AV} (hS : ScX X Ls sc) (hi : 0 ≤ i ∧ i + 6 ≤ Ls) (hm : 0 ≤ m ∧ m ≤ 900000) (hJ : Jb I L R m)
    (k : ∀ c' s' w5' w6' I' L' R', c' ≤ c9 + 1 → s' ≤ s9 + 6 → Jb I' L' R' (m + 8) → V X M_L_law (c', s', 161) 1428 [some (vq 3 0), some (vr 0), some (vr 138), some (vr 160), some (vi i), w5', w6'] [] I' L' R' F) : V X M_L_law (c9, s9, 161) 334 [some (vq 3 0), some (vr 0), some (vr 138), some (vr 160), some (vi i), w5, w6] [] I L R F := by
  have hsr := hS.r
  obtain ⟨bt, n, ft, pl, w, HP, r, s, a, U, D, K, P, P', hT, hC, hM, hN⟩ := hJ
  have hr := hC.hr
  have hul := hC.ul
  refine s_aload_n 335 dL_law_334 rfl rfl ?_
  refine s_callV0 (M' := M_X11_fault) (as := []) 338 dL_law_335 rfl cw_L_29 rfl rfl sh_0 rfl (by decide) q0 (Nat.le_of_ble_eq_true rfl) (Nat.le_of_ble_eq_true rfl) (Nat.le_of_ble_eq_true rfl) ⟨rfl, rfl, rfl⟩ ?_
  refine c_X11_fault hC ?_
  refine s_aload_n 339 dL_law_338 rfl rfl ?_
  refine s_callV0 (M' := M_X12_fault) (as := []) 342 dL_law_339 rfl cw_L_33 rfl rfl sh_138 rfl (by decide) q138 (Nat.le_of_ble_eq_true rfl) (Nat.le_of_ble_eq_true rfl) (Nat.le_of_ble_eq_true rfl) ⟨rfl, rfl, rfl⟩ ?_
  refine c_X12_fault hM ?_
  refine s_icmp_same 1428 dL_law_342 rfl ?_
  exact k _ _ _ _ _ _ _ (by omega) (by omega) ⟨_, _, _, _, _, _, _, _, _, _, _, _, _, _,  hT, (hC.mo (by omega)).lo Lo.tz0, hM.tz0, hN⟩
set_option maxHeartbeats 4000000 in
theorem lw_c3 {X : XT} {c9 s9 : Nat} {I : MI} {L : ML} {R : MR} {F : State → Prop} {Ls : Int} {sc : Int → Int} {i m : Int} {w5 w6 : Option AV} (hS : ScX X Ls sc) (hi : 0 ≤ i ∧ i + 6 ≤ Ls) (hm : 0 ≤ m ∧ m ≤ 900000) (hJ : Jb I L R m)
    (k : ∀ c' s' w5' w6' I' L' R', c' ≤ c9 + 1 → s' ≤ s9 + 6 → Jb I' L' R' (m + 8) → V X M_L_law (c', s', 161) 1428 [some (vq 3 0), some (vr 0), some (vr 138), some (vr 160), some (vi i), w5', w6'] [] I' L' R' F) : V X M_L_law (c9, s9, 161) 347 [some (vq 3 0), some (vr 0), some (vr 138), some (vr 160), some (vi i), w5, w6] [] I L R F := by
  have hsr := hS.r
  obtain ⟨bt, n, ft, pl, w, HP, r, s, a, U, D, K, P, P', hT, hC, hM, hN⟩ := hJ
  have hr := hC.hr
  have hul := hC.ul
  refine s_aload_n 348 dL_law_347 rfl rfl ?_
  refine s_callV0 (M' := M_X11_where) (as := []) 351 dL_law_348 rfl cw_L_34 rfl rfl sh_0 rfl (by decide) q0 (Nat.le_of_ble_eq_true rfl) (Nat.le_of_ble_eq_true rfl) (Nat.le_of_ble_eq_true rfl) ⟨rfl, rfl, rfl⟩ ?_
  refine c_X11_where hC ?_
  refine s_aload_n 352 dL_law_351 rfl rfl ?_
  refine s_callV0 (M' := M_X12_where) (as := []) 355 dL_law_352 rfl cw_L_37 rfl rfl sh_138 rfl (by decide) q138 (Nat.le_of_ble_eq_true rfl) (Nat.le_of_ble_eq_true rfl) (Nat.le_of_ble_eq_true rfl) ⟨rfl, rfl, rfl⟩ ?_
  refine c_X12_where hM ?_
  refine s_icmp_same 1428 dL_law_355 rfl ?_
  exact k _ _ _ _ _ _ _ (by omega) (by omega) ⟨_, _, _, _, _, _, _, _, _, _, _, _, _, _,  hT, (hC.mo (by omega)).lo Lo.tz0, hM.tz0, hN⟩
set_option maxHeartbeats 4000000 in
theorem lw_c4 {X : XT} {c9 s9 : Nat} {I : MI} {L : ML} {R : MR} {F : State → Prop} {Ls : Int} {sc : Int → Int} {i m : Int} {w5 w6 : Option AV} (hS : ScX X Ls sc) (hi : 0 ≤ i ∧ i + 6 ≤ Ls) (hm : 0 ≤ m ∧ m ≤ 900000) (hJ : Jb I L R m)
    (k : ∀ c' s' w5' w6' I' L' R', c' ≤ c9 + 1 → s' ≤ s9 + 6 → Jb I' L' R' (m + 8) → V X M_L_law (c', s', 161) 1428 [some (vq 3 0), some (vr 0), some (vr 138), some (vr 160), some (vi i), w5', w6'] [] I' L' R' F) : V X M_L_law (c9, s9, 161) 360 [some (vq 3 0), some (vr 0), some (vr 138), some (vr 160), some (vi i), w5, w6] [] I L R F := by
  have hsr := hS.r
  obtain ⟨bt, n, ft, pl, w, HP, r, s, a, U, D, K, P, P', hT, hC, hM, hN⟩ := hJ
  have hr := hC.hr
  have hul := hC.ul
  refine s_aload_n 361 dL_law_360 rfl rfl ?_
  refine s_callV0 (M' := M_X11_orders) (as := []) 364 dL_law_361 rfl cw_L_38 rfl rfl sh_0 rfl (by decide) q0 (Nat.le_of_ble_eq_true rfl) (Nat.le_of_ble_eq_true rfl) (Nat.le_of_ble_eq_true rfl) ⟨rfl, rfl, rfl⟩ ?_
  refine c_X11_orders hT hC hm (fun I1 g1 g2 => ?_)
  refine s_aload_n 365 dL_law_364 rfl rfl ?_
  refine s_callV0 (M' := M_X12_orders) (as := []) 368 dL_law_365 rfl cw_L_41 rfl rfl sh_138 rfl (by decide) q138 (Nat.le_of_ble_eq_true rfl) (Nat.le_of_ble_eq_true rfl) (Nat.le_of_ble_eq_true rfl) ⟨rfl, rfl, rfl⟩ ?_
  obtain ⟨er, es, erd, ehp⟩ := (hM.hi g1).ers
  refine c_X12_orders hT er es erd ehp hr (fun I2 e2 => ?_)
  refine s_icmp_same 1428 dL_law_368 rfl ?_
  exact k _ _ _ _ _ _ _ (by omega) (by omega) (Jb.q hT hN g2 (hM.hi g1) e2 (by omega))
set_option maxHeartbeats 4000000 in
theorem lw_c5 {X : XT} {c9 s9 : Nat} {I : MI} {L : ML} {R : MR} {F : State → Prop} {Ls : Int} {sc : Int → Int} {i m : Int} {w5 w6 : Option AV} (hS : ScX X Ls sc) (hi : 0 ≤ i ∧ i + 6 ≤ Ls) (hm : 0 ≤ m ∧ m ≤ 900000) (hJ : Jb I L R m)
    (k : ∀ c' s' w5' w6' I' L' R', c' ≤ c9 + 1 → s' ≤ s9 + 6 → Jb I' L' R' (m + 8) → V X M_L_law (c', s', 161) 1428 [some (vq 3 0), some (vr 0), some (vr 138), some (vr 160), some (vi i), w5', w6'] [] I' L' R' F) : V X M_L_law (c9, s9, 161) 373 [some (vq 3 0), some (vr 0), some (vr 138), some (vr 160), some (vi i), w5, w6] [] I L R F := by
  have hsr := hS.r
  obtain ⟨bt, n, ft, pl, w, HP, r, s, a, U, D, K, P, P', hT, hC, hM, hN⟩ := hJ
  have hr := hC.hr
  have hul := hC.ul
  refine s_aload_n 374 dL_law_373 rfl rfl ?_
  refine s_aloadq_n 375 dL_law_374 rfl rfl ?_
  refine s_iload 377 dL_law_375 rfl rfl ?_
  refine s_iconst 378 dL_law_377 rfl ?_
  refine s_iadd 379 dL_law_378 rfl ?_
  refine s_sld 380 dL_law_379 rfl hS (by omega) ?_
  refine s_callV0 (M' := M_X11_scene) (as := [_]) 383 dL_law_380 rfl cw_L_42 rfl rfl sh_0 rfl (by decide) q0 (Nat.le_of_ble_eq_true rfl) (Nat.le_of_ble_eq_true rfl) (Nat.le_of_ble_eq_true rfl) ⟨rfl, rfl, rfl⟩ ?_
  refine c_X11_scene hT hC hm (hsr _) (fun I1 g1 g2 => ?_)
  refine s_aload_n 384 dL_law_383 rfl rfl ?_
  refine s_aloadq_n 385 dL_law_384 rfl rfl ?_
  refine s_iload 387 dL_law_385 rfl rfl ?_
  refine s_iconst 388 dL_law_387 rfl ?_
  refine s_iadd 389 dL_law_388 rfl ?_
  refine s_sld 390 dL_law_389 rfl hS (by omega) ?_
  refine s_callV0 (M' := M_X12_scene) (as := [_]) 393 dL_law_390 rfl cw_L_45 rfl rfl sh_138 rfl (by decide) q138 (Nat.le_of_ble_eq_true rfl) (Nat.le_of_ble_eq_true rfl) (Nat.le_of_ble_eq_true rfl) ⟨rfl, rfl, rfl⟩ ?_
  obtain ⟨er, es, erd, ehp⟩ := (hM.hi g1).ers
  refine c_X12_scene hT er es erd ehp hr (hsr _) (fun I2 e2 => ?_)
  refine s_icmp_same 1428 dL_law_393 rfl ?_
  exact k _ _ _ _ _ _ _ (by omega) (by omega) (Jb.q hT hN g2 (hM.hi g1) e2 (by omega))
set_option maxHeartbeats 4000000 in
theorem lw_c6 {X : XT} {c9 s9 : Nat} {I : MI} {L : ML} {R : MR} {F : State → Prop} {Ls : Int} {sc : Int → Int} {i m : Int} {w5 w6 : Option AV} (hS : ScX X Ls sc) (hi : 0 ≤ i ∧ i + 6 ≤ Ls) (hm : 0 ≤ m ∧ m ≤ 900000) (hJ : Jb I L R m)
    (k : ∀ c' s' w5' w6' I' L' R', c' ≤ c9 + 1 → s' ≤ s9 + 6 → Jb I' L' R' (m + 8) → V X M_L_law (c', s', 161) 1428 [some (vq 3 0), some (vr 0), some (vr 138), some (vr 160), some (vi i), w5', w6'] [] I' L' R' F) : V X M_L_law (c9, s9, 161) 398 [some (vq 3 0), some (vr 0), some (vr 138), some (vr 160), some (vi i), w5, w6] [] I L R F := by
  have hsr := hS.r
  obtain ⟨bt, n, ft, pl, w, HP, r, s, a, U, D, K, P, P', hT, hC, hM, hN⟩ := hJ
  have hr := hC.hr
  have hul := hC.ul
  by_cases hB : sc (i + 2) = 0
  · skip
    refine s_aload_n 399 dL_law_398 rfl rfl ?_
    refine s_aloadq_n 400 dL_law_399 rfl rfl ?_
    refine s_iload 402 dL_law_400 rfl rfl ?_
    refine s_iconst 403 dL_law_402 rfl ?_
    refine s_iadd 404 dL_law_403 rfl ?_
    refine s_sld 405 dL_law_404 rfl hS (by omega) ?_
    refine s_aloadq_n 406 dL_law_405 rfl rfl ?_
    refine s_iload 408 dL_law_406 rfl rfl ?_
    refine s_iconst 409 dL_law_408 rfl ?_
    refine s_iadd 410 dL_law_409 rfl ?_
    refine s_sld 411 dL_law_410 rfl hS (by omega) ?_
    refine s_if_eq 418 414 dL_law_411 rfl rfl (hsr _) (fun h_411 => ?_) (fun h_411 => by exfalso; exact h_411 hB)
    refine s_iconst 419 dL_law_418 rfl ?_
    refine s_callV0 (M' := M_X11_begins) (as := [_, _]) 422 dL_law_419 rfl cw_L_46 rfl rfl sh_0 rfl (by decide) q0 (Nat.le_of_ble_eq_true rfl) (Nat.le_of_ble_eq_true rfl) (Nat.le_of_ble_eq_true rfl) ⟨rfl, rfl, rfl⟩ ?_
    refine ct_eq (c_X11_begins (B := sc (i + 2) ≠ 0) hT hC hm (hsr _) (fun I1 g1 g2 => ?_)) (by rw [bI_f (fun z => z hB)])
    refine s_aload_n 423 dL_law_422 rfl rfl ?_
    refine s_aloadq_n 424 dL_law_423 rfl rfl ?_
    refine s_iload 426 dL_law_424 rfl rfl ?_
    refine s_iconst 427 dL_law_426 rfl ?_
    refine s_iadd 428 dL_law_427 rfl ?_
    refine s_sld 429 dL_law_428 rfl hS (by omega) ?_
    refine s_aloadq_n 430 dL_law_429 rfl rfl ?_
    refine s_iload 432 dL_law_430 rfl rfl ?_
    refine s_iconst 433 dL_law_432 rfl ?_
    refine s_iadd 434 dL_law_433 rfl ?_
    refine s_sld 435 dL_law_434 rfl hS (by omega) ?_
    refine s_if_eq 442 438 dL_law_435 rfl rfl (hsr _) (fun h_435 => ?_) (fun h_435 => by exfalso; exact h_435 hB)
    refine s_iconst 443 dL_law_442 rfl ?_
    refine s_callV0 (M' := M_X12_begins_) (as := [_, _]) 446 dL_law_443 rfl cw_L_50 rfl rfl sh_138 rfl (by decide) q138 (Nat.le_of_ble_eq_true rfl) (Nat.le_of_ble_eq_true rfl) (Nat.le_of_ble_eq_true rfl) ⟨rfl, rfl, rfl⟩ ?_
    obtain ⟨er, es, erd, ehp⟩ := (hM.hi g1).ers
    refine ct_eq (c_X12_begins_ (P := sc (i + 2) ≠ 0) hT er es erd ehp hr (hsr _) (fun I2 e2 => ?_)) (by rw [bI_f (fun z => z hB)])
    refine s_icmp_same 1428 dL_law_446 rfl ?_
    exact k _ _ _ _ _ _ _ (by omega) (by omega) (Jb.q hT hN g2 (hM.hi g1) e2 (by omega))
  · skip
    refine s_aload_n 399 dL_law_398 rfl rfl ?_
    refine s_aloadq_n 400 dL_law_399 rfl rfl ?_
    refine s_iload 402 dL_law_400 rfl rfl ?_
    refine s_iconst 403 dL_law_402 rfl ?_
    refine s_iadd 404 dL_law_403 rfl ?_
    refine s_sld 405 dL_law_404 rfl hS (by omega) ?_
    refine s_aloadq_n 406 dL_law_405 rfl rfl ?_
    refine s_iload 408 dL_law_406 rfl rfl ?_
    refine s_iconst 409 dL_law_408 rfl ?_
    refine s_iadd 410 dL_law_409 rfl ?_
    refine s_sld 411 dL_law_410 rfl hS (by omega) ?_
    refine s_if_eq 418 414 dL_law_411 rfl rfl (hsr _) (fun h_411 => by exfalso; exact hB h_411) (fun h_411 => ?_)
    refine s_iconst 415 dL_law_414 rfl ?_
    refine s_goto 419 dL_law_415 rfl ?_
    refine s_callV0 (M' := M_X11_begins) (as := [_, _]) 422 dL_law_419 rfl cw_L_46 rfl rfl sh_0 rfl (by decide) q0 (Nat.le_of_ble_eq_true rfl) (Nat.le_of_ble_eq_true rfl) (Nat.le_of_ble_eq_true rfl) ⟨rfl, rfl, rfl⟩ ?_
    refine ct_eq (c_X11_begins (B := sc (i + 2) ≠ 0) hT hC hm (hsr _) (fun I1 g1 g2 => ?_)) (by rw [bI_t hB])
    refine s_aload_n 423 dL_law_422 rfl rfl ?_
    refine s_aloadq_n 424 dL_law_423 rfl rfl ?_
    refine s_iload 426 dL_law_424 rfl rfl ?_
    refine s_iconst 427 dL_law_426 rfl ?_
    refine s_iadd 428 dL_law_427 rfl ?_
    refine s_sld 429 dL_law_428 rfl hS (by omega) ?_
    refine s_aloadq_n 430 dL_law_429 rfl rfl ?_
    refine s_iload 432 dL_law_430 rfl rfl ?_
    refine s_iconst 433 dL_law_432 rfl ?_
    refine s_iadd 434 dL_law_433 rfl ?_
    refine s_sld 435 dL_law_434 rfl hS (by omega) ?_
    refine s_if_eq 442 438 dL_law_435 rfl rfl (hsr _) (fun h_435 => by exfalso; exact hB h_435) (fun h_435 => ?_)
    refine s_iconst 439 dL_law_438 rfl ?_
    refine s_goto 443 dL_law_439 rfl ?_
    refine s_callV0 (M' := M_X12_begins_) (as := [_, _]) 446 dL_law_443 rfl cw_L_50 rfl rfl sh_138 rfl (by decide) q138 (Nat.le_of_ble_eq_true rfl) (Nat.le_of_ble_eq_true rfl) (Nat.le_of_ble_eq_true rfl) ⟨rfl, rfl, rfl⟩ ?_
    obtain ⟨er, es, erd, ehp⟩ := (hM.hi g1).ers
    refine ct_eq (c_X12_begins_ (P := sc (i + 2) ≠ 0) hT er es erd ehp hr (hsr _) (fun I2 e2 => ?_)) (by rw [bI_t hB])
    refine s_icmp_same 1428 dL_law_446 rfl ?_
    exact k _ _ _ _ _ _ _ (by omega) (by omega) (Jb.q hT hN g2 (hM.hi g1) e2 (by omega))
set_option maxHeartbeats 4000000 in
theorem lw_c7 {X : XT} {c9 s9 : Nat} {I : MI} {L : ML} {R : MR} {F : State → Prop} {Ls : Int} {sc : Int → Int} {i m : Int} {w5 w6 : Option AV} (hS : ScX X Ls sc) (hi : 0 ≤ i ∧ i + 6 ≤ Ls) (hm : 0 ≤ m ∧ m ≤ 900000) (hJ : Jb I L R m)
    (k : ∀ c' s' w5' w6' I' L' R', c' ≤ c9 + 1 → s' ≤ s9 + 6 → Jb I' L' R' (m + 8) → V X M_L_law (c', s', 161) 1428 [some (vq 3 0), some (vr 0), some (vr 138), some (vr 160), some (vi i), w5', w6'] [] I' L' R' F) : V X M_L_law (c9, s9, 161) 451 [some (vq 3 0), some (vr 0), some (vr 138), some (vr 160), some (vi i), w5, w6] [] I L R F := by
  have hsr := hS.r
  obtain ⟨bt, n, ft, pl, w, HP, r, s, a, U, D, K, P, P', hT, hC, hM, hN⟩ := hJ
  have hr := hC.hr
  have hul := hC.ul
  by_cases hB : sc (i + 2) = 0
  · skip
    refine s_aload_n 452 dL_law_451 rfl rfl ?_
    refine s_aloadq_n 453 dL_law_452 rfl rfl ?_
    refine s_iload 455 dL_law_453 rfl rfl ?_
    refine s_iconst 456 dL_law_455 rfl ?_
    refine s_iadd 457 dL_law_456 rfl ?_
    refine s_sld 458 dL_law_457 rfl hS (by omega) ?_
    refine s_aloadq_n 459 dL_law_458 rfl rfl ?_
    refine s_iload 461 dL_law_459 rfl rfl ?_
    refine s_iconst 462 dL_law_461 rfl ?_
    refine s_iadd 463 dL_law_462 rfl ?_
    refine s_sld 464 dL_law_463 rfl hS (by omega) ?_
    refine s_if_eq 471 467 dL_law_464 rfl rfl (hsr _) (fun h_464 => ?_) (fun h_464 => by exfalso; exact h_464 hB)
    refine s_iconst 472 dL_law_471 rfl ?_
    refine s_callV0 (M' := M_X11_seen) (as := [_, _]) 475 dL_law_472 rfl cw_L_51 rfl rfl sh_0 rfl (by decide) q0 (Nat.le_of_ble_eq_true rfl) (Nat.le_of_ble_eq_true rfl) (Nat.le_of_ble_eq_true rfl) ⟨rfl, rfl, rfl⟩ ?_
    refine ct_eq (c_X11_seen (B := sc (i + 2) ≠ 0) hT hC hm (hsr _) (fun I1 g1 g2 => ?_)) (by rw [bI_f (fun z => z hB)])
    refine s_aload_n 476 dL_law_475 rfl rfl ?_
    refine s_aloadq_n 477 dL_law_476 rfl rfl ?_
    refine s_iload 479 dL_law_477 rfl rfl ?_
    refine s_iconst 480 dL_law_479 rfl ?_
    refine s_iadd 481 dL_law_480 rfl ?_
    refine s_sld 482 dL_law_481 rfl hS (by omega) ?_
    refine s_aloadq_n 483 dL_law_482 rfl rfl ?_
    refine s_iload 485 dL_law_483 rfl rfl ?_
    refine s_iconst 486 dL_law_485 rfl ?_
    refine s_iadd 487 dL_law_486 rfl ?_
    refine s_sld 488 dL_law_487 rfl hS (by omega) ?_
    refine s_if_eq 495 491 dL_law_488 rfl rfl (hsr _) (fun h_488 => ?_) (fun h_488 => by exfalso; exact h_488 hB)
    refine s_iconst 496 dL_law_495 rfl ?_
    refine s_callV0 (M' := M_X12_seen) (as := [_, _]) 499 dL_law_496 rfl cw_L_54 rfl rfl sh_138 rfl (by decide) q138 (Nat.le_of_ble_eq_true rfl) (Nat.le_of_ble_eq_true rfl) (Nat.le_of_ble_eq_true rfl) ⟨rfl, rfl, rfl⟩ ?_
    obtain ⟨er, es, erd, ehp⟩ := (hM.hi g1).ers
    refine ct_eq (c_X12_seen (P := sc (i + 2) ≠ 0) hT er es erd ehp hr (hsr _) (fun I2 e2 => ?_)) (by rw [bI_f (fun z => z hB)])
    refine s_icmp_same 1428 dL_law_499 rfl ?_
    exact k _ _ _ _ _ _ _ (by omega) (by omega) (Jb.q hT hN g2 (hM.hi g1) e2 (by omega))
  · skip
    refine s_aload_n 452 dL_law_451 rfl rfl ?_
    refine s_aloadq_n 453 dL_law_452 rfl rfl ?_
    refine s_iload 455 dL_law_453 rfl rfl ?_
    refine s_iconst 456 dL_law_455 rfl ?_
    refine s_iadd 457 dL_law_456 rfl ?_
    refine s_sld 458 dL_law_457 rfl hS (by omega) ?_
    refine s_aloadq_n 459 dL_law_458 rfl rfl ?_
    refine s_iload 461 dL_law_459 rfl rfl ?_
    refine s_iconst 462 dL_law_461 rfl ?_
    refine s_iadd 463 dL_law_462 rfl ?_
    refine s_sld 464 dL_law_463 rfl hS (by omega) ?_
    refine s_if_eq 471 467 dL_law_464 rfl rfl (hsr _) (fun h_464 => by exfalso; exact hB h_464) (fun h_464 => ?_)
    refine s_iconst 468 dL_law_467 rfl ?_
    refine s_goto 472 dL_law_468 rfl ?_
    refine s_callV0 (M' := M_X11_seen) (as := [_, _]) 475 dL_law_472 rfl cw_L_51 rfl rfl sh_0 rfl (by decide) q0 (Nat.le_of_ble_eq_true rfl) (Nat.le_of_ble_eq_true rfl) (Nat.le_of_ble_eq_true rfl) ⟨rfl, rfl, rfl⟩ ?_
    refine ct_eq (c_X11_seen (B := sc (i + 2) ≠ 0) hT hC hm (hsr _) (fun I1 g1 g2 => ?_)) (by rw [bI_t hB])
    refine s_aload_n 476 dL_law_475 rfl rfl ?_
    refine s_aloadq_n 477 dL_law_476 rfl rfl ?_
    refine s_iload 479 dL_law_477 rfl rfl ?_
    refine s_iconst 480 dL_law_479 rfl ?_
    refine s_iadd 481 dL_law_480 rfl ?_
    refine s_sld 482 dL_law_481 rfl hS (by omega) ?_
    refine s_aloadq_n 483 dL_law_482 rfl rfl ?_
    refine s_iload 485 dL_law_483 rfl rfl ?_
    refine s_iconst 486 dL_law_485 rfl ?_
    refine s_iadd 487 dL_law_486 rfl ?_
    refine s_sld 488 dL_law_487 rfl hS (by omega) ?_
    refine s_if_eq 495 491 dL_law_488 rfl rfl (hsr _) (fun h_488 => by exfalso; exact hB h_488) (fun h_488 => ?_)
    refine s_iconst 492 dL_law_491 rfl ?_
    refine s_goto 496 dL_law_492 rfl ?_
    refine s_callV0 (M' := M_X12_seen) (as := [_, _]) 499 dL_law_496 rfl cw_L_54 rfl rfl sh_138 rfl (by decide) q138 (Nat.le_of_ble_eq_true rfl) (Nat.le_of_ble_eq_true rfl) (Nat.le_of_ble_eq_true rfl) ⟨rfl, rfl, rfl⟩ ?_
    obtain ⟨er, es, erd, ehp⟩ := (hM.hi g1).ers
    refine ct_eq (c_X12_seen (P := sc (i + 2) ≠ 0) hT er es erd ehp hr (hsr _) (fun I2 e2 => ?_)) (by rw [bI_t hB])
    refine s_icmp_same 1428 dL_law_499 rfl ?_
    exact k _ _ _ _ _ _ _ (by omega) (by omega) (Jb.q hT hN g2 (hM.hi g1) e2 (by omega))
set_option maxHeartbeats 4000000 in
theorem lw_c8 {X : XT} {c9 s9 : Nat} {I : MI} {L : ML} {R : MR} {F : State → Prop} {Ls : Int} {sc : Int → Int} {i m : Int} {w5 w6 : Option AV} (hS : ScX X Ls sc) (hi : 0 ≤ i ∧ i + 6 ≤ Ls) (hm : 0 ≤ m ∧ m ≤ 900000) (hJ : Jb I L R m)
    (k : ∀ c' s' w5' w6' I' L' R', c' ≤ c9 + 1 → s' ≤ s9 + 6 → Jb I' L' R' (m + 8) → V X M_L_law (c', s', 161) 1428 [some (vq 3 0), some (vr 0), some (vr 138), some (vr 160), some (vi i), w5', w6'] [] I' L' R' F) : V X M_L_law (c9, s9, 161) 504 [some (vq 3 0), some (vr 0), some (vr 138), some (vr 160), some (vi i), w5, w6] [] I L R F := by
  have hsr := hS.r
  obtain ⟨bt, n, ft, pl, w, HP, r, s, a, U, D, K, P, P', hT, hC, hM, hN⟩ := hJ
  have hr := hC.hr
  have hul := hC.ul
  refine s_aload_n 505 dL_law_504 rfl rfl ?_
  refine s_aloadq_n 506 dL_law_505 rfl rfl ?_
  refine s_iload 508 dL_law_506 rfl rfl ?_
  refine s_iconst 509 dL_law_508 rfl ?_
  refine s_iadd 510 dL_law_509 rfl ?_
  refine s_sld 511 dL_law_510 rfl hS (by omega) ?_
  refine s_aloadq_n 512 dL_law_511 rfl rfl ?_
  refine s_iload 514 dL_law_512 rfl rfl ?_
  refine s_iconst 515 dL_law_514 rfl ?_
  refine s_iadd 516 dL_law_515 rfl ?_
  refine s_sld 517 dL_law_516 rfl hS (by omega) ?_
  refine s_callV0 (M' := M_X11_change) (as := [_, _]) 520 dL_law_517 rfl cw_L_55 rfl rfl sh_0 rfl (by decide) q0 (Nat.le_of_ble_eq_true rfl) (Nat.le_of_ble_eq_true rfl) (Nat.le_of_ble_eq_true rfl) ⟨rfl, rfl, rfl⟩ ?_
  refine c_X11_change hT hC hm (hsr _) (hsr _) (fun I1 g1 g2 => ?_)
  refine s_aload_n 521 dL_law_520 rfl rfl ?_
  refine s_aloadq_n 522 dL_law_521 rfl rfl ?_
  refine s_iload 524 dL_law_522 rfl rfl ?_
  refine s_iconst 525 dL_law_524 rfl ?_
  refine s_iadd 526 dL_law_525 rfl ?_
  refine s_sld 527 dL_law_526 rfl hS (by omega) ?_
  refine s_aloadq_n 528 dL_law_527 rfl rfl ?_
  refine s_iload 530 dL_law_528 rfl rfl ?_
  refine s_iconst 531 dL_law_530 rfl ?_
  refine s_iadd 532 dL_law_531 rfl ?_
  refine s_sld 533 dL_law_532 rfl hS (by omega) ?_
  refine s_callV0 (M' := M_X12_change) (as := [_, _]) 536 dL_law_533 rfl cw_L_58 rfl rfl sh_138 rfl (by decide) q138 (Nat.le_of_ble_eq_true rfl) (Nat.le_of_ble_eq_true rfl) (Nat.le_of_ble_eq_true rfl) ⟨rfl, rfl, rfl⟩ ?_
  obtain ⟨er, es, erd, ehp⟩ := (hM.hi g1).ers
  refine c_X12_change hT er es erd ehp hr (hsr _) (hsr _) (fun I2 e2 => ?_)
  refine s_icmp_same 1428 dL_law_536 rfl ?_
  exact k _ _ _ _ _ _ _ (by omega) (by omega) (Jb.q hT hN g2 (hM.hi g1) e2 (by omega))
