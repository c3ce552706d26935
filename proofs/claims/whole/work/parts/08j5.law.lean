/-! the law, case by case: the class answers, then the reference, the same: 36 .. 44 -/
theorem Lo.tq {I I' : MI} {v : Int} (h : Eqo MS (tz I v) I') : Lo I I' := fun c hc => by
  rw [h c (fun z => by have z9 : ∀ c ∈ MS, 138 ≤ c := by decide
                       have := z9 c z
                       omega)]
  exact up_ne (by omega)
theorem MV.tq {I I' : MI} {bt : F1} {n ft pl w v : Int} {HP : Prop} {r s : F1} {U D K : List (List Int)} (h : MV I bt n ft pl w HP r s U D K) (e : Eqo MS (tz I v) I') : MV I' bt n ft pl w HP r s U D K := by
  have h9 := MV.tz0 (v := v) h
  unfold MV at *
  rw [e 138 (by decide), e 139 (by decide), e 141 (by decide), e 143 (by decide), e 145 (by decide), e 146 (by decide), e 147 (by decide)]
  exact h9
set_option maxHeartbeats 4000000 in
theorem lw_c36 {X : XT} {c9 s9 : Nat} {I : MI} {L : ML} {R : MR} {F : State → Prop} {Ls : Int} {sc : Int → Int} {i m : Int} {w5 w6 : Option AV} (hS : ScX X Ls sc) (hi : 0 ≤ i ∧ i + 6 ≤ Ls) (hm : 0 ≤ m ∧ m ≤ 900000) (hJ : Jb I L R m)
    (k : ∀ c' s' w5' w6' I' L' R', c' ≤ c9 + 1 → s' ≤ s9 + 6 → Jb I' L' R' (m + 8) → V X M_L_law (c', s', 161) 1428 [some (vq 3 0), some (vr 0), some (vr 138), some (vr 160), some (vi i), w5', w6'] [] I' L' R' F) : V X M_L_law (c9, s9, 161) 1184 [some (vq 3 0), some (vr 0), some (vr 138), some (vr 160), some (vi i), w5, w6] [] I L R F := by
  have hsr := hS.r
  obtain ⟨bt, n, ft, pl, w, HP, r, s, a, U, D, K, P, P', hT, hC, hM, hN⟩ := hJ
  have hr := hC.hr
  have hul := hC.ul
  refine s_aload_n 1185 dL_law_1184 rfl rfl ?_
  refine s_callV0 (M' := M_X11_undo) (as := []) 1188 dL_law_1185 rfl cw_L_169 rfl rfl sh_0 rfl (by decide) q0 (Nat.le_of_ble_eq_true rfl) (Nat.le_of_ble_eq_true rfl) (Nat.le_of_ble_eq_true rfl) ⟨rfl, rfl, rfl⟩ ?_
  refine c_X11_undo hT hC hm (fun C1 u1 I1 L1 a1 g1 g2 => ?_)
  refine s_aload_n 1189 dL_law_1188 rfl rfl ?_
  refine s_callV0 (M' := M_X12_undo) (as := []) 1192 dL_law_1189 rfl cw_L_173 rfl rfl sh_138 rfl (by decide) q138 (Nat.le_of_ble_eq_true rfl) (Nat.le_of_ble_eq_true rfl) (Nat.le_of_ble_eq_true rfl) ⟨rfl, rfl, rfl⟩ ?_
  refine c_X12_undo hT (hM.hi g1) (by omega) (by omega) (fun D1 v1 I2 b => ?_)
  obtain ⟨b1, b2⟩ := b
  obtain rfl : D1 = C1 := v1.trans u1.symm
  refine s_icmp_same 1428 dL_law_1192 rfl ?_
  exact k _ _ _ _ _ _ _ (by omega) (by omega) ⟨_, _, _, _, _, _, _, _, _, _, _, _, _, _,  hT, g2.lo b1, b2, hN⟩
set_option maxHeartbeats 4000000 in
theorem lw_c37 {X : XT} {c9 s9 : Nat} {I : MI} {L : ML} {R : MR} {F : State → Prop} {Ls : Int} {sc : Int → Int} {i m : Int} {w5 w6 : Option AV} (hS : ScX X Ls sc) (hi : 0 ≤ i ∧ i + 6 ≤ Ls) (hm : 0 ≤ m ∧ m ≤ 900000) (hJ : Jb I L R m)
    (k : ∀ c' s' w5' w6' I' L' R', c' ≤ c9 + 1 → s' ≤ s9 + 6 → Jb I' L' R' (m + 8) → V X M_L_law (c', s', 161) 1428 [some (vq 3 0), some (vr 0), some (vr 138), some (vr 160), some (vi i), w5', w6'] [] I' L' R' F) : V X M_L_law (c9, s9, 161) 1197 [some (vq 3 0), some (vr 0), some (vr 138), some (vr 160), some (vi i), w5, w6] [] I L R F := by
  have hsr := hS.r
  obtain ⟨bt, n, ft, pl, w, HP, r, s, a, U, D, K, P, P', hT, hC, hM, hN⟩ := hJ
  have hr := hC.hr
  have hul := hC.ul
  refine s_aload_n 1198 dL_law_1197 rfl rfl ?_
  refine s_callV0 (M' := M_X11_redo) (as := []) 1201 dL_law_1198 rfl cw_L_174 rfl rfl sh_0 rfl (by decide) q0 (Nat.le_of_ble_eq_true rfl) (Nat.le_of_ble_eq_true rfl) (Nat.le_of_ble_eq_true rfl) ⟨rfl, rfl, rfl⟩ ?_
  refine c_X11_redo hT hC hm (fun C1 u1 I1 L1 a1 g1 g2 => ?_)
  refine s_aload_n 1202 dL_law_1201 rfl rfl ?_
  refine s_callV0 (M' := M_X12_redo) (as := []) 1205 dL_law_1202 rfl cw_L_177 rfl rfl sh_138 rfl (by decide) q138 (Nat.le_of_ble_eq_true rfl) (Nat.le_of_ble_eq_true rfl) (Nat.le_of_ble_eq_true rfl) ⟨rfl, rfl, rfl⟩ ?_
  refine c_X12_redo hT (hM.hi g1) (by omega) (by omega) (fun D1 v1 I2 b => ?_)
  obtain ⟨b1, b2⟩ := b
  obtain rfl : D1 = C1 := v1.trans u1.symm
  refine s_icmp_same 1428 dL_law_1205 rfl ?_
  exact k _ _ _ _ _ _ _ (by omega) (by omega) ⟨_, _, _, _, _, _, _, _, _, _, _, _, _, _,  hT, g2.lo b1, b2, hN⟩
set_option maxHeartbeats 4000000 in
theorem lw_c38 {X : XT} {c9 s9 : Nat} {I : MI} {L : ML} {R : MR} {F : State → Prop} {Ls : Int} {sc : Int → Int} {i m : Int} {w5 w6 : Option AV} (hS : ScX X Ls sc) (hi : 0 ≤ i ∧ i + 6 ≤ Ls) (hm : 0 ≤ m ∧ m ≤ 900000) (hJ : Jb I L R m)
    (k : ∀ c' s' w5' w6' I' L' R', c' ≤ c9 + 1 → s' ≤ s9 + 6 → Jb I' L' R' (m + 8) → V X M_L_law (c', s', 161) 1428 [some (vq 3 0), some (vr 0), some (vr 138), some (vr 160), some (vi i), w5', w6'] [] I' L' R' F) : V X M_L_law (c9, s9, 161) 1210 [some (vq 3 0), some (vr 0), some (vr 138), some (vr 160), some (vi i), w5, w6] [] I L R F := by
  have hsr := hS.r
  obtain ⟨bt, n, ft, pl, w, HP, r, s, a, U, D, K, P, P', hT, hC, hM, hN⟩ := hJ
  have hr := hC.hr
  have hul := hC.ul
  refine s_aload_n 1211 dL_law_1210 rfl rfl ?_
  refine s_callV0 (M' := M_X11_image) (as := []) 1214 dL_law_1211 rfl cw_L_178 rfl rfl sh_0 rfl (by decide) q0 (Nat.le_of_ble_eq_true rfl) (Nat.le_of_ble_eq_true rfl) (Nat.le_of_ble_eq_true rfl) ⟨rfl, rfl, rfl⟩ ?_
  refine c_X11_image hT hC hm (fun C1 u1 I1 L1 g1 g2 => ?_)
  refine s_aload_n 1215 dL_law_1214 rfl rfl ?_
  refine s_callV0 (M' := M_X12_image) (as := []) 1218 dL_law_1215 rfl cw_L_181 rfl rfl sh_138 rfl (by decide) q138 (Nat.le_of_ble_eq_true rfl) (Nat.le_of_ble_eq_true rfl) (Nat.le_of_ble_eq_true rfl) ⟨rfl, rfl, rfl⟩ ?_
  refine c_X12_image hT (hM.hi g1) (by omega) (fun D1 v1 I2 b => ?_)
  obtain ⟨b1, b2⟩ := b
  obtain rfl : D1 = C1 := v1.trans u1.symm
  refine s_icmp_same 1428 dL_law_1218 rfl ?_
  exact k _ _ _ _ _ _ _ (by omega) (by omega) ⟨_, _, _, _, _, _, _, _, _, _, _, _, _, _,  hT, g2.lo b1, b2, hN⟩
set_option maxHeartbeats 4000000 in
theorem lw_c39 {X : XT} {c9 s9 : Nat} {I : MI} {L : ML} {R : MR} {F : State → Prop} {Ls : Int} {sc : Int → Int} {i m : Int} {w5 w6 : Option AV} (hS : ScX X Ls sc) (hi : 0 ≤ i ∧ i + 6 ≤ Ls) (hm : 0 ≤ m ∧ m ≤ 900000) (hJ : Jb I L R m)
    (k : ∀ c' s' w5' w6' I' L' R', c' ≤ c9 + 1 → s' ≤ s9 + 6 → Jb I' L' R' (m + 8) → V X M_L_law (c', s', 161) 1428 [some (vq 3 0), some (vr 0), some (vr 138), some (vr 160), some (vi i), w5', w6'] [] I' L' R' F) : V X M_L_law (c9, s9, 161) 1223 [some (vq 3 0), some (vr 0), some (vr 138), some (vr 160), some (vi i), w5, w6] [] I L R F := by
  have hsr := hS.r
  obtain ⟨bt, n, ft, pl, w, HP, r, s, a, U, D, K, P, P', hT, hC, hM, hN⟩ := hJ
  have hr := hC.hr
  have hul := hC.ul
  refine s_aload_n 1224 dL_law_1223 rfl rfl ?_
  refine s_aloadq_n 1225 dL_law_1224 rfl rfl ?_
  refine s_iload 1227 dL_law_1225 rfl rfl ?_
  refine s_iconst 1228 dL_law_1227 rfl ?_
  refine s_iadd 1229 dL_law_1228 rfl ?_
  refine s_sld 1230 dL_law_1229 rfl hS (by omega) ?_
  refine s_callV0 (M' := M_X11_back) (as := [_]) 1233 dL_law_1230 rfl cw_L_182 rfl rfl sh_0 rfl (by decide) q0 (Nat.le_of_ble_eq_true rfl) (Nat.le_of_ble_eq_true rfl) (Nat.le_of_ble_eq_true rfl) ⟨rfl, rfl, rfl⟩ ?_
  refine c_X11_back hT hC hm (hsr _) (fun C1 u1 I1 L1 a1 g1 g2 => ?_)
  refine s_aload_n 1234 dL_law_1233 rfl rfl ?_
  refine s_aloadq_n 1235 dL_law_1234 rfl rfl ?_
  refine s_iload 1237 dL_law_1235 rfl rfl ?_
  refine s_iconst 1238 dL_law_1237 rfl ?_
  refine s_iadd 1239 dL_law_1238 rfl ?_
  refine s_sld 1240 dL_law_1239 rfl hS (by omega) ?_
  refine s_callV0 (M' := M_X12_back) (as := [_]) 1243 dL_law_1240 rfl cw_L_186 rfl rfl sh_138 rfl (by decide) q138 (Nat.le_of_ble_eq_true rfl) (Nat.le_of_ble_eq_true rfl) (Nat.le_of_ble_eq_true rfl) ⟨rfl, rfl, rfl⟩ ?_
  refine c_X12_back hT (hM.hi g1) (by omega) (hsr _) (fun D1 v1 I2 b => ?_)
  obtain ⟨b1, b2⟩ := b
  obtain rfl : D1 = C1 := v1.trans u1.symm
  refine s_icmp_same 1428 dL_law_1243 rfl ?_
  exact k _ _ _ _ _ _ _ (by omega) (by omega) ⟨_, _, _, _, _, _, _, _, _, _, _, _, _, _,  hT, g2.lo b1, b2, hN⟩
set_option maxHeartbeats 4000000 in
theorem lw_c40 {X : XT} {c9 s9 : Nat} {I : MI} {L : ML} {R : MR} {F : State → Prop} {Ls : Int} {sc : Int → Int} {i m : Int} {w5 w6 : Option AV} (hS : ScX X Ls sc) (hi : 0 ≤ i ∧ i + 6 ≤ Ls) (hm : 0 ≤ m ∧ m ≤ 900000) (hJ : Jb I L R m)
    (k : ∀ c' s' w5' w6' I' L' R', c' ≤ c9 + 1 → s' ≤ s9 + 6 → Jb I' L' R' (m + 8) → V X M_L_law (c', s', 161) 1428 [some (vq 3 0), some (vr 0), some (vr 138), some (vr 160), some (vi i), w5', w6'] [] I' L' R' F) : V X M_L_law (c9, s9, 161) 1248 [some (vq 3 0), some (vr 0), some (vr 138), some (vr 160), some (vi i), w5, w6] [] I L R F := by
  have hsr := hS.r
  obtain ⟨bt, n, ft, pl, w, HP, r, s, a, U, D, K, P, P', hT, hC, hM, hN⟩ := hJ
  have hr := hC.hr
  have hul := hC.ul
  refine s_aload_n 1249 dL_law_1248 rfl rfl ?_
  refine s_aloadq_n 1250 dL_law_1249 rfl rfl ?_
  refine s_iload 1252 dL_law_1250 rfl rfl ?_
  refine s_iconst 1253 dL_law_1252 rfl ?_
  refine s_iadd 1254 dL_law_1253 rfl ?_
  refine s_sld 1255 dL_law_1254 rfl hS (by omega) ?_
  refine s_aloadq_n 1256 dL_law_1255 rfl rfl ?_
  refine s_iload 1258 dL_law_1256 rfl rfl ?_
  refine s_iconst 1259 dL_law_1258 rfl ?_
  refine s_iadd 1260 dL_law_1259 rfl ?_
  refine s_sld 1261 dL_law_1260 rfl hS (by omega) ?_
  refine s_callV0 (M' := M_X11_part) (as := [_, _]) 1264 dL_law_1261 rfl cw_L_187 rfl rfl sh_0 rfl (by decide) q0 (Nat.le_of_ble_eq_true rfl) (Nat.le_of_ble_eq_true rfl) (Nat.le_of_ble_eq_true rfl) ⟨rfl, rfl, rfl⟩ ?_
  refine c_X11_part hT hC hm (hsr _) (hsr _) (fun I1 g1 g2 => ?_)
  refine s_aload_n 1265 dL_law_1264 rfl rfl ?_
  refine s_aloadq_n 1266 dL_law_1265 rfl rfl ?_
  refine s_iload 1268 dL_law_1266 rfl rfl ?_
  refine s_iconst 1269 dL_law_1268 rfl ?_
  refine s_iadd 1270 dL_law_1269 rfl ?_
  refine s_sld 1271 dL_law_1270 rfl hS (by omega) ?_
  refine s_aloadq_n 1272 dL_law_1271 rfl rfl ?_
  refine s_iload 1274 dL_law_1272 rfl rfl ?_
  refine s_iconst 1275 dL_law_1274 rfl ?_
  refine s_iadd 1276 dL_law_1275 rfl ?_
  refine s_sld 1277 dL_law_1276 rfl hS (by omega) ?_
  refine s_callV0 (M' := M_X12_part) (as := [_, _]) 1280 dL_law_1277 rfl cw_L_190 rfl rfl sh_138 rfl (by decide) q138 (Nat.le_of_ble_eq_true rfl) (Nat.le_of_ble_eq_true rfl) (Nat.le_of_ble_eq_true rfl) ⟨rfl, rfl, rfl⟩ ?_
  obtain ⟨er, es, erd, ehp⟩ := (hM.hi g1).ers
  refine c_X12_part hT er es erd ehp hr (hsr _) (hsr _) (fun I2 e2 => ?_)
  refine s_icmp_same 1428 dL_law_1280 rfl ?_
  exact k _ _ _ _ _ _ _ (by omega) (by omega) (Jb.q hT hN g2 (hM.hi g1) e2 (by omega))
set_option maxHeartbeats 4000000 in
theorem lw_c41 {X : XT} {c9 s9 : Nat} {I : MI} {L : ML} {R : MR} {F : State → Prop} {Ls : Int} {sc : Int → Int} {i m : Int} {w5 w6 : Option AV} (hS : ScX X Ls sc) (hi : 0 ≤ i ∧ i + 6 ≤ Ls) (hm : 0 ≤ m ∧ m ≤ 900000) (hJ : Jb I L R m)
    (k : ∀ c' s' w5' w6' I' L' R', c' ≤ c9 + 1 → s' ≤ s9 + 6 → Jb I' L' R' (m + 8) → V X M_L_law (c', s', 161) 1428 [some (vq 3 0), some (vr 0), some (vr 138), some (vr 160), some (vi i), w5', w6'] [] I' L' R' F) : V X M_L_law (c9, s9, 161) 1285 [some (vq 3 0), some (vr 0), some (vr 138), some (vr 160), some (vi i), w5, w6] [] I L R F := by
  have hsr := hS.r
  obtain ⟨bt, n, ft, pl, w, HP, r, s, a, U, D, K, P, P', hT, hC, hM, hN⟩ := hJ
  have hr := hC.hr
  have hul := hC.ul
  refine s_aload_n 1286 dL_law_1285 rfl rfl ?_
  refine s_aloadq_n 1287 dL_law_1286 rfl rfl ?_
  refine s_iload 1289 dL_law_1287 rfl rfl ?_
  refine s_iconst 1290 dL_law_1289 rfl ?_
  refine s_iadd 1291 dL_law_1290 rfl ?_
  refine s_sld 1292 dL_law_1291 rfl hS (by omega) ?_
  refine s_aloadq_n 1293 dL_law_1292 rfl rfl ?_
  refine s_iload 1295 dL_law_1293 rfl rfl ?_
  refine s_iconst 1296 dL_law_1295 rfl ?_
  refine s_iadd 1297 dL_law_1296 rfl ?_
  refine s_sld 1298 dL_law_1297 rfl hS (by omega) ?_
  refine s_callV0 (M' := M_X11_on) (as := [_, _]) 1301 dL_law_1298 rfl cw_L_191 rfl rfl sh_0 rfl (by decide) q0 (Nat.le_of_ble_eq_true rfl) (Nat.le_of_ble_eq_true rfl) (Nat.le_of_ble_eq_true rfl) ⟨rfl, rfl, rfl⟩ ?_
  refine c_X11_on hT hC hm (hsr _) (hsr _) (fun I1 g1 g2 => ?_)
  refine s_aload_n 1302 dL_law_1301 rfl rfl ?_
  refine s_aloadq_n 1303 dL_law_1302 rfl rfl ?_
  refine s_iload 1305 dL_law_1303 rfl rfl ?_
  refine s_iconst 1306 dL_law_1305 rfl ?_
  refine s_iadd 1307 dL_law_1306 rfl ?_
  refine s_sld 1308 dL_law_1307 rfl hS (by omega) ?_
  refine s_aloadq_n 1309 dL_law_1308 rfl rfl ?_
  refine s_iload 1311 dL_law_1309 rfl rfl ?_
  refine s_iconst 1312 dL_law_1311 rfl ?_
  refine s_iadd 1313 dL_law_1312 rfl ?_
  refine s_sld 1314 dL_law_1313 rfl hS (by omega) ?_
  refine s_callV0 (M' := M_X12_on) (as := [_, _]) 1317 dL_law_1314 rfl cw_L_194 rfl rfl sh_138 rfl (by decide) q138 (Nat.le_of_ble_eq_true rfl) (Nat.le_of_ble_eq_true rfl) (Nat.le_of_ble_eq_true rfl) ⟨rfl, rfl, rfl⟩ ?_
  obtain ⟨er, es, erd, ehp⟩ := (hM.hi g1).ers
  refine c_X12_on hT er es erd ehp hr (hsr _) (hsr _) (fun I2 e2 => ?_)
  refine s_icmp_same 1428 dL_law_1317 rfl ?_
  exact k _ _ _ _ _ _ _ (by omega) (by omega) (Jb.q hT hN g2 (hM.hi g1) e2 (by omega))
set_option maxHeartbeats 4000000 in
theorem lw_c42 {X : XT} {c9 s9 : Nat} {I : MI} {L : ML} {R : MR} {F : State → Prop} {Ls : Int} {sc : Int → Int} {i m : Int} {w5 w6 : Option AV} (hS : ScX X Ls sc) (hi : 0 ≤ i ∧ i + 6 ≤ Ls) (hm : 0 ≤ m ∧ m ≤ 900000) (hJ : Jb I L R m) (hKT : KT (xG X) (xs X)) (hfl : (xl X).stackTraces = false) (hz1 : c9 + 1 ≤ 601024) (hz2 : s9 + 6 ≤ 7293034)
    (k : ∀ c' s' w5' w6' I' L' R', c' ≤ c9 + 1 → s' ≤ s9 + 6 → Jb I' L' R' (m + 8) → V X M_L_law (c', s', 161) 1428 [some (vq 3 0), some (vr 0), some (vr 138), some (vr 160), some (vi i), w5', w6'] [] I' L' R' F) : V X M_L_law (c9, s9, 161) 1322 [some (vq 3 0), some (vr 0), some (vr 138), some (vr 160), some (vi i), w5, w6] [] I L R F := by
  have hsr := hS.r
  obtain ⟨bt, n, ft, pl, w, HP, r, s, a, U, D, K, P, P', hT, hC, hM, hN⟩ := hJ
  have hr := hC.hr
  have hul := hC.ul
  refine s_aload_n 1323 dL_law_1322 rfl rfl ?_
  refine s_aloadq_n 1324 dL_law_1323 rfl rfl ?_
  refine s_iload 1326 dL_law_1324 rfl rfl ?_
  refine s_iconst 1327 dL_law_1326 rfl ?_
  refine s_iadd 1328 dL_law_1327 rfl ?_
  refine s_sld 1329 dL_law_1328 rfl hS (by omega) ?_
  refine s_aloadq_n 1330 dL_law_1329 rfl rfl ?_
  refine s_iload 1332 dL_law_1330 rfl rfl ?_
  refine s_iconst 1333 dL_law_1332 rfl ?_
  refine s_iadd 1334 dL_law_1333 rfl ?_
  refine s_sld 1335 dL_law_1334 rfl hS (by omega) ?_
  refine s_aload_n 1336 dL_law_1335 rfl rfl ?_
  refine s_callL hKT hz1 hz2 ?_
  refine c_L_led hfl hT hC hm (hsr _) (hsr _) (fun x t I1 g1 g2 g3 g4 => ⟨fun e => ?_, fun e => ?_⟩)
  · show V X M_L_law (c9 + 1, s9 + 6, 161) 1339 [some (vq 3 0), some (vr 0), some (vr 138), some (vr 160), some (vi i), w5, w6] [vi 0] I1 (up L 160 0 (iI x).toInt64) R F
    refine s_istore (ls' := [_, _, _, _, _, _, _]) 1341 dL_law_1339 rfl (Nat.le_of_ble_eq_true rfl) rfl rfl ?_
    refine s_aload_n 1342 dL_law_1341 rfl rfl ?_
    refine s_aloadq_n 1343 dL_law_1342 rfl rfl ?_
    refine s_iload 1345 dL_law_1343 rfl rfl ?_
    refine s_iconst 1346 dL_law_1345 rfl ?_
    refine s_iadd 1347 dL_law_1346 rfl ?_
    refine s_sld 1348 dL_law_1347 rfl hS (by omega) ?_
    refine s_aloadq_n 1349 dL_law_1348 rfl rfl ?_
    refine s_iload 1351 dL_law_1349 rfl rfl ?_
    refine s_iconst 1352 dL_law_1351 rfl ?_
    refine s_iadd 1353 dL_law_1352 rfl ?_
    refine s_sld 1354 dL_law_1353 rfl hS (by omega) ?_
    refine s_callV0 (M' := M_X12_led) (as := [_, _]) 1357 dL_law_1354 rfl cw_L_200 rfl rfl sh_138 rfl (by decide) q138 (Nat.le_of_ble_eq_true rfl) (Nat.le_of_ble_eq_true rfl) (Nat.le_of_ble_eq_true rfl) ⟨rfl, rfl, rfl⟩ ?_
    obtain ⟨er, es, erd, ehp⟩ := (hM.hi g1).ers
    refine c_X12_led hT er es erd ehp hr (hsr _) (hsr _) (fun x2 t2 I2 e2 b3 b4 => ?_)
    have hxt : x = x2 ∧ t = t2 := by
      by_cases hY : HP ∧ 0 ≤ sc (i + 1) ∧ sc (i + 1) < 7
      · exact LedV.uq (g3 hY) (b3 hY)
      · exact ⟨(g4 hY).1.trans (b4 hY).1.symm, (g4 hY).2.trans (b4 hY).2.symm⟩
    obtain ⟨rfl, rfl⟩ := hxt
    have et : I2 138 0 = t := by rw [e2 138 (by decide)]; exact ups
    refine s_istore (ls' := [_, _, _, _, _, _, _]) 1359 dL_law_1357 rfl (Nat.le_of_ble_eq_true rfl) rfl rfl ?_
    refine s_aload_n 1360 dL_law_1359 rfl rfl ?_
    refine s_callV0 (M' := M_X12_thrown) (as := []) 1363 dL_law_1360 rfl cw_L_201 rfl rfl sh_138 rfl (by decide) q138 (Nat.le_of_ble_eq_true rfl) (Nat.le_of_ble_eq_true rfl) (Nat.le_of_ble_eq_true rfl) ⟨rfl, rfl, rfl⟩ ?_
    refine c_X12_thrown et ?_
    rw [e]
    refine s_iload 1365 dL_law_1363 rfl rfl ?_
    refine s_icmp_same 1370 dL_law_1365 rfl ?_
    refine s_iload 1372 dL_law_1370 rfl rfl ?_
    refine s_if_ne 1387 1375 dL_law_1372 rfl rfl (by first | omega | exact bI_r _ | exact iI_r _) (fun h_1372 => by exfalso; exact h_1372 rfl) (fun h_1372 => ?_)
    refine s_aload_n 1376 dL_law_1375 rfl rfl ?_
    refine s_iconst 1377 dL_law_1376 rfl ?_
    refine s_lald 1378 dL_law_1377 rfl sh_160 q160 (by omega) (by omega) ?_
    rw [upsL]
    refine s_iload 1380 dL_law_1378 rfl rfl ?_
    refine s_i2l 1381 dL_law_1380 rfl ?_
    refine s_lcmp 1382 dL_law_1381 rfl ?_
    rw [lgc_self]
    refine s_if_eq 1387 1385 dL_law_1382 rfl rfl (by first | omega | exact bI_r _ | exact iI_r _) (fun h_1382 => ?_) (fun h_1382 => by exfalso; exact h_1382 rfl)
    refine s_goto 1428 dL_law_1387 rfl ?_
    exact k _ _ _ _ _ _ _ (by omega) (by omega) ⟨_, _, _, _, _, _, _, _, _, _, _, _, _, _,  hT, (g2.l160.lo (Lo.tq e2)), (hM.hi g1).tq e2, hN⟩
  · show V X M_L_law (c9 + 1, s9 + 6, 161) 1339 [some (vq 3 0), some (vr 0), some (vr 138), some (vr 160), some (vi i), w5, w6] [vi 1] I1 L R F
    refine s_istore (ls' := [_, _, _, _, _, _, _]) 1341 dL_law_1339 rfl (Nat.le_of_ble_eq_true rfl) rfl rfl ?_
    refine s_aload_n 1342 dL_law_1341 rfl rfl ?_
    refine s_aloadq_n 1343 dL_law_1342 rfl rfl ?_
    refine s_iload 1345 dL_law_1343 rfl rfl ?_
    refine s_iconst 1346 dL_law_1345 rfl ?_
    refine s_iadd 1347 dL_law_1346 rfl ?_
    refine s_sld 1348 dL_law_1347 rfl hS (by omega) ?_
    refine s_aloadq_n 1349 dL_law_1348 rfl rfl ?_
    refine s_iload 1351 dL_law_1349 rfl rfl ?_
    refine s_iconst 1352 dL_law_1351 rfl ?_
    refine s_iadd 1353 dL_law_1352 rfl ?_
    refine s_sld 1354 dL_law_1353 rfl hS (by omega) ?_
    refine s_callV0 (M' := M_X12_led) (as := [_, _]) 1357 dL_law_1354 rfl cw_L_200 rfl rfl sh_138 rfl (by decide) q138 (Nat.le_of_ble_eq_true rfl) (Nat.le_of_ble_eq_true rfl) (Nat.le_of_ble_eq_true rfl) ⟨rfl, rfl, rfl⟩ ?_
    obtain ⟨er, es, erd, ehp⟩ := (hM.hi g1).ers
    refine c_X12_led hT er es erd ehp hr (hsr _) (hsr _) (fun x2 t2 I2 e2 b3 b4 => ?_)
    have hxt : x = x2 ∧ t = t2 := by
      by_cases hY : HP ∧ 0 ≤ sc (i + 1) ∧ sc (i + 1) < 7
      · exact LedV.uq (g3 hY) (b3 hY)
      · exact ⟨(g4 hY).1.trans (b4 hY).1.symm, (g4 hY).2.trans (b4 hY).2.symm⟩
    obtain ⟨rfl, rfl⟩ := hxt
    have et : I2 138 0 = t := by rw [e2 138 (by decide)]; exact ups
    refine s_istore (ls' := [_, _, _, _, _, _, _]) 1359 dL_law_1357 rfl (Nat.le_of_ble_eq_true rfl) rfl rfl ?_
    refine s_aload_n 1360 dL_law_1359 rfl rfl ?_
    refine s_callV0 (M' := M_X12_thrown) (as := []) 1363 dL_law_1360 rfl cw_L_201 rfl rfl sh_138 rfl (by decide) q138 (Nat.le_of_ble_eq_true rfl) (Nat.le_of_ble_eq_true rfl) (Nat.le_of_ble_eq_true rfl) ⟨rfl, rfl, rfl⟩ ?_
    refine c_X12_thrown et ?_
    rw [e]
    refine s_iload 1365 dL_law_1363 rfl rfl ?_
    refine s_icmp_same 1370 dL_law_1365 rfl ?_
    refine s_iload 1372 dL_law_1370 rfl rfl ?_
    refine s_if_ne 1387 1375 dL_law_1372 rfl rfl (by first | omega | exact bI_r _ | exact iI_r _) (fun h_1372 => ?_) (fun h_1372 => by exfalso; omega)
    refine s_goto 1428 dL_law_1387 rfl ?_
    exact k _ _ _ _ _ _ _ (by omega) (by omega) ⟨_, _, _, _, _, _, _, _, _, _, _, _, _, _,  hT, (g2.lo (Lo.tq e2)), (hM.hi g1).tq e2, hN⟩
set_option maxHeartbeats 4000000 in
theorem lw_c43 {X : XT} {c9 s9 : Nat} {I : MI} {L : ML} {R : MR} {F : State → Prop} {Ls : Int} {sc : Int → Int} {i m : Int} {w5 w6 : Option AV} (hS : ScX X Ls sc) (hi : 0 ≤ i ∧ i + 6 ≤ Ls) (hm : 0 ≤ m ∧ m ≤ 900000) (hJ : Jb I L R m)
    (k : ∀ c' s' w5' w6' I' L' R', c' ≤ c9 + 1 → s' ≤ s9 + 6 → Jb I' L' R' (m + 8) → V X M_L_law (c', s', 161) 1428 [some (vq 3 0), some (vr 0), some (vr 138), some (vr 160), some (vi i), w5', w6'] [] I' L' R' F) : V X M_L_law (c9, s9, 161) 1390 [some (vq 3 0), some (vr 0), some (vr 138), some (vr 160), some (vi i), w5, w6] [] I L R F := by
  have hsr := hS.r
  obtain ⟨bt, n, ft, pl, w, HP, r, s, a, U, D, K, P, P', hT, hC, hM, hN⟩ := hJ
  have hr := hC.hr
  have hul := hC.ul
  refine s_aload_n 1391 dL_law_1390 rfl rfl ?_
  refine s_aloadq_n 1392 dL_law_1391 rfl rfl ?_
  refine s_iload 1394 dL_law_1392 rfl rfl ?_
  refine s_iconst 1395 dL_law_1394 rfl ?_
  refine s_iadd 1396 dL_law_1395 rfl ?_
  refine s_sld 1397 dL_law_1396 rfl hS (by omega) ?_
  refine s_callV0 (M' := M_X11_size) (as := [_]) 1400 dL_law_1397 rfl cw_L_204 rfl rfl sh_0 rfl (by decide) q0 (Nat.le_of_ble_eq_true rfl) (Nat.le_of_ble_eq_true rfl) (Nat.le_of_ble_eq_true rfl) ⟨rfl, rfl, rfl⟩ ?_
  refine c_X11_size hT hC (hsr _) ?_
  refine s_aload_n 1401 dL_law_1400 rfl rfl ?_
  refine s_aloadq_n 1402 dL_law_1401 rfl rfl ?_
  refine s_iload 1404 dL_law_1402 rfl rfl ?_
  refine s_iconst 1405 dL_law_1404 rfl ?_
  refine s_iadd 1406 dL_law_1405 rfl ?_
  refine s_sld 1407 dL_law_1406 rfl hS (by omega) ?_
  refine s_callV0 (M' := M_X12_size) (as := [_]) 1410 dL_law_1407 rfl cw_L_207 rfl rfl sh_138 rfl (by decide) q138 (Nat.le_of_ble_eq_true rfl) (Nat.le_of_ble_eq_true rfl) (Nat.le_of_ble_eq_true rfl) ⟨rfl, rfl, rfl⟩ ?_
  refine c_X12_size hT hM (hsr _) ?_
  refine s_icmp_same 1428 dL_law_1410 rfl ?_
  exact k _ _ _ _ _ _ _ (by omega) (by omega) ⟨_, _, _, _, _, _, _, _, _, _, _, _, _, _,  hT, (hC.mo (by omega)).lo Lo.tz0, hM.tz0, hN⟩
set_option maxHeartbeats 4000000 in
theorem lw_c44 {X : XT} {c9 s9 : Nat} {I : MI} {L : ML} {R : MR} {F : State → Prop} {Ls : Int} {sc : Int → Int} {i m : Int} {w5 w6 : Option AV} (hS : ScX X Ls sc) (hi : 0 ≤ i ∧ i + 6 ≤ Ls) (hm : 0 ≤ m ∧ m ≤ 900000) (hJ : Jb I L R m)
    (k : ∀ c' s' w5' w6' I' L' R', c' ≤ c9 + 1 → s' ≤ s9 + 6 → Jb I' L' R' (m + 8) → V X M_L_law (c', s', 161) 1428 [some (vq 3 0), some (vr 0), some (vr 138), some (vr 160), some (vi i), w5', w6'] [] I' L' R' F) : V X M_L_law (c9, s9, 161) 1415 [some (vq 3 0), some (vr 0), some (vr 138), some (vr 160), some (vi i), w5, w6] [] I L R F := by
  have hsr := hS.r
  obtain ⟨bt, n, ft, pl, w, HP, r, s, a, U, D, K, P, P', hT, hC, hM, hN⟩ := hJ
  have hr := hC.hr
  have hul := hC.ul
  refine s_aload_n 1416 dL_law_1415 rfl rfl ?_
  refine s_callV0 (M' := M_X11_trouble) (as := []) 1419 dL_law_1416 rfl cw_L_208 rfl rfl sh_0 rfl (by decide) q0 (Nat.le_of_ble_eq_true rfl) (Nat.le_of_ble_eq_true rfl) (Nat.le_of_ble_eq_true rfl) ⟨rfl, rfl, rfl⟩ ?_
  refine c_X11_trouble hC ?_
  refine s_aload_n 1420 dL_law_1419 rfl rfl ?_
  refine s_callV0 (M' := M_X12_trouble) (as := []) 1423 dL_law_1420 rfl cw_L_211 rfl rfl sh_138 rfl (by decide) q138 (Nat.le_of_ble_eq_true rfl) (Nat.le_of_ble_eq_true rfl) (Nat.le_of_ble_eq_true rfl) ⟨rfl, rfl, rfl⟩ ?_
  refine c_X12_trouble hM ?_
  refine s_icmp_same 1428 dL_law_1423 rfl ?_
  exact k _ _ _ _ _ _ _ (by omega) (by omega) ⟨_, _, _, _, _, _, _, _, _, _, _, _, _, _,  hT, (hC.mo (by omega)).lo Lo.tz0, hM.tz0, hN⟩
