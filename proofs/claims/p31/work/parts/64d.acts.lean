theorem fc_kd58 {v v1 : fa_V} {r r1 : fa_R} {x a : Int32} (h : x = a ∧ ((¬ (0 ≤ a ∨ a = (-6 : Int32)) ∧ v1 = v ∧ r1 = r) ∨ ((0 ≤ a ∨ a = (-6 : Int32)) ∧ fa_kd v r v1 r1))) : r1 58 = r 58 := by
  rcases h.2 with ⟨-, -, e⟩ | ⟨-, k⟩
  · rw [e]
  · rcases k with ⟨m, -, -, -, e⟩ | ⟨-, -, -, -, e⟩
    · rw [e]
    · exact e 58 (by decide)
set_option maxHeartbeats 4000000 in
set_option maxRecDepth 100000 in
theorem g_add5 (l : Launch) (G : fa_G) (n : Nat) (hn : 397 ≤ n) (v : fa_V) (r : fa_R) (hC : fa_CI v r) (a1 : Int32) (a2 : Int32) : fa_MI l G n yX6_add cX6_add 3 (some .int) 6 [.ref (fa_B G + (0)), .int (a1), .int (a2)] v r (fun x w => ((w.2 58 = r 58) ∧ ∀ A H, fb_CV v r A H → x = (fb_addA A a1 a2).1 ∧ fb_CV w.1 w.2 (fb_addA A a1 a2).2 (fb_rec H A (fb_addA A a1 a2).1)) ∧ (fa_CI w.1 w.2) ∧ (fa_fr 1 395 v w.1) ∧ (∀ k, 395 ≤ k → w.2 k = r k)) := by
  refine fa_startI (by decide +kernel) (Nat.le_of_ble_eq_true rfl) (fun p e s m args below meth c ls Q CX hl HX RET => ?_)
  have hl : lv_has ls 3 [(0, .ref (fa_B G + (0))), (1, .int (a1)), (2, .int (a2))] := hl
  have hx := CX.1.1
  have hb := CX.1.2.1
  have hB : (1 : Nat) ∈ fa_bs := by decide
  refine lv_aload_n hx hb dX6_add_0 rfl (lv_at hl 0 rfl) ?_
  refine fa_getr (k := 0) (j := 113) CX HX fl_X6_22 (by omega) rfl rfl (fa_CI.A hC).2.2.1 dX6_add_1 ?_
  refine lv_aload_n hx hb dX6_add_4 rfl (lv_at hl 0 rfl) ?_
  refine fa_getr (k := 0) (j := 1) CX HX fl_X6_10 (by omega) rfl rfl (fa_CI.A hC).1 dX6_add_5 ?_
  refine fa_callVvu (As := [.ref (fa_B G + (1))]) (rest := []) CX HX (g_draft l G n hn v r hC ) ln_X6_33 (by omega) rfl rfl rfl rfl (Nat.le_of_ble_eq_true rfl) hl.1 ⟨Nat.le_of_ble_eq_true rfl, Nat.le_of_ble_eq_true rfl⟩ ⟨Nat.le_refl _, Nat.le_refl _⟩ dX6_add_8 (fun v1235 H locs h1234 HX1236 => ?_)
  have hC_v1235 := h1234.1.2
  have h_draft := h1234.1.1
  refine lv_aload_n hx hb dX6_add_11 rfl (lv_at hl 0 rfl) ?_
  refine lv_aload_n hx hb dX6_add_12 rfl (lv_at hl 0 rfl) ?_
  refine fa_getr (k := 0) (j := 1) CX HX1236 fl_X6_10 (by omega) rfl rfl (fa_CI.A hC_v1235).1 dX6_add_13 ?_
  refine lv_iload_n hx hb dX6_add_16 rfl (lv_at hl 1 rfl) ?_
  refine lv_iload_n hx hb dX6_add_17 rfl (lv_at hl 2 rfl) ?_
  refine fa_callViu (As := [.int (a1), .int (a2)]) (rest := [.ref (fa_B G + (0))]) CX HX1236 (g_addFile l G n hn v1235 r 1 (by decide) (fa_CI.S hC_v1235 1 (by decide)).1 (fa_CI.S hC_v1235 1 (by decide)).2 (a1) (a2) ) ln_X6_37 (fa_lt (by decide) 0 (by decide) hn) (fa_s0 (by decide)) rfl rfl rfl (Nat.le_of_ble_eq_true rfl) hl.1 ⟨Nat.le_of_ble_eq_true rfl, Nat.le_of_ble_eq_true rfl⟩ ⟨Nat.le_refl _, Nat.le_refl _⟩ dX6_add_18 (fun x1238 v1239 H locs h1237 HX1240 => ?_)
  have h_addFile := h1237.1
  have hIS_v1239 : fa_IS v1239 1 := h1237.1.2
  have hC_v1239 : fa_CI v1239 r := fa_CI.st hC_v1235 (by decide) hIS_v1239 (fa_CI.S hC_v1235 1 (by decide)).1 (fa_fr.wide h1237.2 (by omega) (by omega)) (fun _ _ => rfl)
  refine fa_callVi (As := [.int (x1238)]) (rest := []) CX HX1240 (g_recorded l G n hn v1239 r hC_v1239 (x1238)) ln_X6_41 (by omega) rfl rfl rfl rfl (Nat.le_of_ble_eq_true rfl) hl.1 ⟨Nat.le_of_ble_eq_true rfl, Nat.le_of_ble_eq_true rfl⟩ ⟨Nat.le_refl _, Nat.le_refl _⟩ dX6_add_21 (fun x1242 v1243 r1244 H locs h1241 HX1245 => ?_)
  dsimp only at h1241
  have hC_v1243 := h1241.2.1
  have h_recorded := h1241.1
  exact RET _ _ _ _ _ _ _ HX1245 dX6_add_24 (⟨⟨(fc_kd58 h_recorded), (fun A H hV => fb_face hC hV h_draft h1237.2 (fun _ _ => rfl) (fun hc => h_addFile.1 A hV.1 hc) (hV.1.add a1 a2) h_recorded)⟩, hC_v1243, (fa_fr.tr (fa_fr.tr (fa_fr.tr fa_fr.rf (fa_fr.wide h1234.2 (by omega) (by omega))) (fa_fr.wide h1237.2 (by omega) (by omega))) (fa_fr.wide h1241.2.2.1 (by omega) (by omega))), (fun k hk => ((h1241.2.2.2 k hk).trans rfl))⟩)
set_option maxHeartbeats 4000000 in
set_option maxRecDepth 100000 in
theorem g_ask5 (l : Launch) (G : fa_G) (n : Nat) (hn : 397 ≤ n) (v : fa_V) (r : fa_R) (hC : fa_CI v r) (a1 : Int32) : fa_MI l G n yX6_ask cX6_ask 2 (some .int) 6 [.ref (fa_B G + (0)), .int (a1)] v r (fun x w => ((w.2 58 = r 58) ∧ ∀ A H, fb_CV v r A H → x = (fb_askA A a1).1 ∧ fb_CV w.1 w.2 (fb_askA A a1).2 (fb_rec H A (fb_askA A a1).1)) ∧ (fa_CI w.1 w.2) ∧ (fa_fr 1 395 v w.1) ∧ (∀ k, 395 ≤ k → w.2 k = r k)) := by
  refine fa_startI (by decide +kernel) (Nat.le_of_ble_eq_true rfl) (fun p e s m args below meth c ls Q CX hl HX RET => ?_)
  have hl : lv_has ls 2 [(0, .ref (fa_B G + (0))), (1, .int (a1))] := hl
  have hx := CX.1.1
  have hb := CX.1.2.1
  have hB : (1 : Nat) ∈ fa_bs := by decide
  refine lv_aload_n hx hb dX6_ask_0 rfl (lv_at hl 0 rfl) ?_
  refine fa_getr (k := 0) (j := 113) CX HX fl_X6_22 (by omega) rfl rfl (fa_CI.A hC).2.2.1 dX6_ask_1 ?_
  refine lv_aload_n hx hb dX6_ask_4 rfl (lv_at hl 0 rfl) ?_
  refine fa_getr (k := 0) (j := 1) CX HX fl_X6_10 (by omega) rfl rfl (fa_CI.A hC).1 dX6_ask_5 ?_
  refine fa_callVvu (As := [.ref (fa_B G + (1))]) (rest := []) CX HX (g_draft l G n hn v r hC ) ln_X6_33 (by omega) rfl rfl rfl rfl (Nat.le_of_ble_eq_true rfl) hl.1 ⟨Nat.le_of_ble_eq_true rfl, Nat.le_of_ble_eq_true rfl⟩ ⟨Nat.le_refl _, Nat.le_refl _⟩ dX6_ask_8 (fun v1247 H locs h1246 HX1248 => ?_)
  have hC_v1247 := h1246.1.2
  have h_draft := h1246.1.1
  refine lv_aload_n hx hb dX6_ask_11 rfl (lv_at hl 0 rfl) ?_
  refine lv_aload_n hx hb dX6_ask_12 rfl (lv_at hl 0 rfl) ?_
  refine fa_getr (k := 0) (j := 1) CX HX1248 fl_X6_10 (by omega) rfl rfl (fa_CI.A hC_v1247).1 dX6_ask_13 ?_
  refine lv_iload_n hx hb dX6_ask_16 rfl (lv_at hl 1 rfl) ?_
  refine fa_callViu (As := [.int (a1)]) (rest := [.ref (fa_B G + (0))]) CX HX1248 (g_askFor l G n hn v1247 r 1 (by decide) (fa_CI.S hC_v1247 1 (by decide)).1 (fa_CI.S hC_v1247 1 (by decide)).2 (a1) ) ln_X6_45 (fa_lt (by decide) 0 (by decide) hn) (fa_s0 (by decide)) rfl rfl rfl (Nat.le_of_ble_eq_true rfl) hl.1 ⟨Nat.le_of_ble_eq_true rfl, Nat.le_of_ble_eq_true rfl⟩ ⟨Nat.le_refl _, Nat.le_refl _⟩ dX6_ask_17 (fun x1250 v1251 H locs h1249 HX1252 => ?_)
  have h_askFor := h1249.1
  have hIS_v1251 : fa_IS v1251 1 := h1249.1.2
  have hC_v1251 : fa_CI v1251 r := fa_CI.st hC_v1247 (by decide) hIS_v1251 (fa_CI.S hC_v1247 1 (by decide)).1 (fa_fr.wide h1249.2 (by omega) (by omega)) (fun _ _ => rfl)
  refine fa_callVi (As := [.int (x1250)]) (rest := []) CX HX1252 (g_recorded l G n hn v1251 r hC_v1251 (x1250)) ln_X6_41 (by omega) rfl rfl rfl rfl (Nat.le_of_ble_eq_true rfl) hl.1 ⟨Nat.le_of_ble_eq_true rfl, Nat.le_of_ble_eq_true rfl⟩ ⟨Nat.le_refl _, Nat.le_refl _⟩ dX6_ask_20 (fun x1254 v1255 r1256 H locs h1253 HX1257 => ?_)
  dsimp only at h1253
  have hC_v1255 := h1253.2.1
  have h_recorded := h1253.1
  exact RET _ _ _ _ _ _ _ HX1257 dX6_ask_23 (⟨⟨(fc_kd58 h_recorded), (fun A H hV => fb_face hC hV h_draft h1249.2 (fun _ _ => rfl) (fun hc => h_askFor.1 A hV.1 hc) (hV.1.ask a1) h_recorded)⟩, hC_v1255, (fa_fr.tr (fa_fr.tr (fa_fr.tr fa_fr.rf (fa_fr.wide h1246.2 (by omega) (by omega))) (fa_fr.wide h1249.2 (by omega) (by omega))) (fa_fr.wide h1253.2.2.1 (by omega) (by omega))), (fun k hk => ((h1253.2.2.2 k hk).trans rfl))⟩)
set_option maxHeartbeats 4000000 in
set_option maxRecDepth 100000 in
theorem g_seal5 (l : Launch) (G : fa_G) (n : Nat) (hn : 397 ≤ n) (v : fa_V) (r : fa_R) (hC : fa_CI v r) (a1 : Int32) (a2 : Int32) (a3 : Int32) : fa_MI l G n yX6_seal cX6_seal 4 (some .int) 6 [.ref (fa_B G + (0)), .int (a1), .int (a2), .int (a3)] v r (fun x w => ((w.2 58 = r 58) ∧ ∀ A H, fb_CV v r A H → x = (fb_sealA A a1 a2 a3).1 ∧ fb_CV w.1 w.2 (fb_sealA A a1 a2 a3).2 (fb_rec H A (fb_sealA A a1 a2 a3).1)) ∧ (fa_CI w.1 w.2) ∧ (fa_fr 1 395 v w.1) ∧ (∀ k, 395 ≤ k → w.2 k = r k)) := by
  refine fa_startI (by decide +kernel) (Nat.le_of_ble_eq_true rfl) (fun p e s m args below meth c ls Q CX hl HX RET => ?_)
  have hl : lv_has ls 4 [(0, .ref (fa_B G + (0))), (1, .int (a1)), (2, .int (a2)), (3, .int (a3))] := hl
  have hx := CX.1.1
  have hb := CX.1.2.1
  have hB : (1 : Nat) ∈ fa_bs := by decide
  refine lv_aload_n hx hb dX6_seal_0 rfl (lv_at hl 0 rfl) ?_
  refine fa_getr (k := 0) (j := 113) CX HX fl_X6_22 (by omega) rfl rfl (fa_CI.A hC).2.2.1 dX6_seal_1 ?_
  refine lv_aload_n hx hb dX6_seal_4 rfl (lv_at hl 0 rfl) ?_
  refine fa_getr (k := 0) (j := 1) CX HX fl_X6_10 (by omega) rfl rfl (fa_CI.A hC).1 dX6_seal_5 ?_
  refine fa_callVvu (As := [.ref (fa_B G + (1))]) (rest := []) CX HX (g_draft l G n hn v r hC ) ln_X6_33 (by omega) rfl rfl rfl rfl (Nat.le_of_ble_eq_true rfl) hl.1 ⟨Nat.le_of_ble_eq_true rfl, Nat.le_of_ble_eq_true rfl⟩ ⟨Nat.le_refl _, Nat.le_refl _⟩ dX6_seal_8 (fun v1259 H locs h1258 HX1260 => ?_)
  have hC_v1259 := h1258.1.2
  have h_draft := h1258.1.1
  refine lv_aload_n hx hb dX6_seal_11 rfl (lv_at hl 0 rfl) ?_
  refine lv_aload_n hx hb dX6_seal_12 rfl (lv_at hl 0 rfl) ?_
  refine fa_getr (k := 0) (j := 1) CX HX1260 fl_X6_10 (by omega) rfl rfl (fa_CI.A hC_v1259).1 dX6_seal_13 ?_
  refine lv_iload_n hx hb dX6_seal_16 rfl (lv_at hl 1 rfl) ?_
  refine lv_iload_n hx hb dX6_seal_17 rfl (lv_at hl 2 rfl) ?_
  refine lv_iload_n hx hb dX6_seal_18 rfl (lv_at hl 3 rfl) ?_
  refine fa_callViu (As := [.int (a1), .int (a2), .int (a3)]) (rest := [.ref (fa_B G + (0))]) CX HX1260 (g_putSeal l G n hn v1259 r 1 (by decide) (fa_CI.S hC_v1259 1 (by decide)).1 (fa_CI.S hC_v1259 1 (by decide)).2 (a1) (a2) (a3) ) ln_X6_48 (fa_lt (by decide) 0 (by decide) hn) (fa_s0 (by decide)) rfl rfl rfl (Nat.le_of_ble_eq_true rfl) hl.1 ⟨Nat.le_of_ble_eq_true rfl, Nat.le_of_ble_eq_true rfl⟩ ⟨Nat.le_refl _, Nat.le_refl _⟩ dX6_seal_19 (fun x1262 v1263 H locs h1261 HX1264 => ?_)
  have h_putSeal := h1261.1
  have hIS_v1263 : fa_IS v1263 1 := h1261.1.2
  have hC_v1263 : fa_CI v1263 r := fa_CI.st hC_v1259 (by decide) hIS_v1263 (fa_CI.S hC_v1259 1 (by decide)).1 (fa_fr.wide h1261.2 (by omega) (by omega)) (fun _ _ => rfl)
  refine fa_callVi (As := [.int (x1262)]) (rest := []) CX HX1264 (g_recorded l G n hn v1263 r hC_v1263 (x1262)) ln_X6_41 (by omega) rfl rfl rfl rfl (Nat.le_of_ble_eq_true rfl) hl.1 ⟨Nat.le_of_ble_eq_true rfl, Nat.le_of_ble_eq_true rfl⟩ ⟨Nat.le_refl _, Nat.le_refl _⟩ dX6_seal_22 (fun x1266 v1267 r1268 H locs h1265 HX1269 => ?_)
  dsimp only at h1265
  have hC_v1267 := h1265.2.1
  have h_recorded := h1265.1
  exact RET _ _ _ _ _ _ _ HX1269 dX6_seal_25 (⟨⟨(fc_kd58 h_recorded), (fun A H hV => fb_face hC hV h_draft h1261.2 (fun _ _ => rfl) (fun hc => h_putSeal.1 A hV.1 hc) (hV.1.sealA a1 a2 a3) h_recorded)⟩, hC_v1267, (fa_fr.tr (fa_fr.tr (fa_fr.tr fa_fr.rf (fa_fr.wide h1258.2 (by omega) (by omega))) (fa_fr.wide h1261.2 (by omega) (by omega))) (fa_fr.wide h1265.2.2.1 (by omega) (by omega))), (fun k hk => ((h1265.2.2.2 k hk).trans rfl))⟩)
set_option maxHeartbeats 4000000 in
set_option maxRecDepth 100000 in
theorem g_lift5 (l : Launch) (G : fa_G) (n : Nat) (hn : 397 ≤ n) (v : fa_V) (r : fa_R) (hC : fa_CI v r) (a1 : Int32) (a2 : Int32) : fa_MI l G n yX6_lift cX6_lift 3 (some .int) 6 [.ref (fa_B G + (0)), .int (a1), .int (a2)] v r (fun x w => ((w.2 58 = r 58) ∧ ∀ A H, fb_CV v r A H → x = (fb_liftA A a1 a2).1 ∧ fb_CV w.1 w.2 (fb_liftA A a1 a2).2 (fb_rec H A (fb_liftA A a1 a2).1)) ∧ (fa_CI w.1 w.2) ∧ (fa_fr 1 395 v w.1) ∧ (∀ k, 395 ≤ k → w.2 k = r k)) := by
  refine fa_startI (by decide +kernel) (Nat.le_of_ble_eq_true rfl) (fun p e s m args below meth c ls Q CX hl HX RET => ?_)
  have hl : lv_has ls 3 [(0, .ref (fa_B G + (0))), (1, .int (a1)), (2, .int (a2))] := hl
  have hx := CX.1.1
  have hb := CX.1.2.1
  have hB : (1 : Nat) ∈ fa_bs := by decide
  refine lv_aload_n hx hb dX6_lift_0 rfl (lv_at hl 0 rfl) ?_
  refine fa_getr (k := 0) (j := 113) CX HX fl_X6_22 (by omega) rfl rfl (fa_CI.A hC).2.2.1 dX6_lift_1 ?_
  refine lv_aload_n hx hb dX6_lift_4 rfl (lv_at hl 0 rfl) ?_
  refine fa_getr (k := 0) (j := 1) CX HX fl_X6_10 (by omega) rfl rfl (fa_CI.A hC).1 dX6_lift_5 ?_
  refine fa_callVvu (As := [.ref (fa_B G + (1))]) (rest := []) CX HX (g_draft l G n hn v r hC ) ln_X6_33 (by omega) rfl rfl rfl rfl (Nat.le_of_ble_eq_true rfl) hl.1 ⟨Nat.le_of_ble_eq_true rfl, Nat.le_of_ble_eq_true rfl⟩ ⟨Nat.le_refl _, Nat.le_refl _⟩ dX6_lift_8 (fun v1271 H locs h1270 HX1272 => ?_)
  have hC_v1271 := h1270.1.2
  have h_draft := h1270.1.1
  refine lv_aload_n hx hb dX6_lift_11 rfl (lv_at hl 0 rfl) ?_
  refine lv_aload_n hx hb dX6_lift_12 rfl (lv_at hl 0 rfl) ?_
  refine fa_getr (k := 0) (j := 1) CX HX1272 fl_X6_10 (by omega) rfl rfl (fa_CI.A hC_v1271).1 dX6_lift_13 ?_
  refine lv_iload_n hx hb dX6_lift_16 rfl (lv_at hl 1 rfl) ?_
  refine lv_iload_n hx hb dX6_lift_17 rfl (lv_at hl 2 rfl) ?_
  refine fa_callViu (As := [.int (a1), .int (a2)]) (rest := [.ref (fa_B G + (0))]) CX HX1272 (g_takeSeal l G n hn v1271 r 1 (by decide) (fa_CI.S hC_v1271 1 (by decide)).1 (fa_CI.S hC_v1271 1 (by decide)).2 (a1) (a2) ) ln_X6_52 (fa_lt (by decide) 0 (by decide) hn) (fa_s0 (by decide)) rfl rfl rfl (Nat.le_of_ble_eq_true rfl) hl.1 ⟨Nat.le_of_ble_eq_true rfl, Nat.le_of_ble_eq_true rfl⟩ ⟨Nat.le_refl _, Nat.le_refl _⟩ dX6_lift_18 (fun x1274 v1275 H locs h1273 HX1276 => ?_)
  have h_takeSeal := h1273.1
  have hIS_v1275 : fa_IS v1275 1 := h1273.1.2
  have hC_v1275 : fa_CI v1275 r := fa_CI.st hC_v1271 (by decide) hIS_v1275 (fa_CI.S hC_v1271 1 (by decide)).1 (fa_fr.wide h1273.2 (by omega) (by omega)) (fun _ _ => rfl)
  refine fa_callVi (As := [.int (x1274)]) (rest := []) CX HX1276 (g_recorded l G n hn v1275 r hC_v1275 (x1274)) ln_X6_41 (by omega) rfl rfl rfl rfl (Nat.le_of_ble_eq_true rfl) hl.1 ⟨Nat.le_of_ble_eq_true rfl, Nat.le_of_ble_eq_true rfl⟩ ⟨Nat.le_refl _, Nat.le_refl _⟩ dX6_lift_21 (fun x1278 v1279 r1280 H locs h1277 HX1281 => ?_)
  dsimp only at h1277
  have hC_v1279 := h1277.2.1
  have h_recorded := h1277.1
  exact RET _ _ _ _ _ _ _ HX1281 dX6_lift_24 (⟨⟨(fc_kd58 h_recorded), (fun A H hV => fb_face hC hV h_draft h1273.2 (fun _ _ => rfl) (fun hc => h_takeSeal.1 A hV.1 hc) (hV.1.liftA a1 a2) h_recorded)⟩, hC_v1279, (fa_fr.tr (fa_fr.tr (fa_fr.tr fa_fr.rf (fa_fr.wide h1270.2 (by omega) (by omega))) (fa_fr.wide h1273.2 (by omega) (by omega))) (fa_fr.wide h1277.2.2.1 (by omega) (by omega))), (fun k hk => ((h1277.2.2.2 k hk).trans rfl))⟩)
set_option maxHeartbeats 4000000 in
set_option maxRecDepth 100000 in
theorem g_refer5 (l : Launch) (G : fa_G) (n : Nat) (hn : 397 ≤ n) (v : fa_V) (r : fa_R) (hC : fa_CI v r) (a1 : Int32) (a2 : Int32) : fa_MI l G n yX6_refer cX6_refer 3 (some .int) 6 [.ref (fa_B G + (0)), .int (a1), .int (a2)] v r (fun x w => ((w.2 58 = r 58) ∧ ∀ A H, fb_CV v r A H → x = (fb_refA A a1 a2).1 ∧ fb_CV w.1 w.2 (fb_refA A a1 a2).2 (fb_rec H A (fb_refA A a1 a2).1)) ∧ (fa_CI w.1 w.2) ∧ (fa_fr 1 395 v w.1) ∧ (∀ k, 395 ≤ k → w.2 k = r k)) := by
  refine fa_startI (by decide +kernel) (Nat.le_of_ble_eq_true rfl) (fun p e s m args below meth c ls Q CX hl HX RET => ?_)
  have hl : lv_has ls 3 [(0, .ref (fa_B G + (0))), (1, .int (a1)), (2, .int (a2))] := hl
  have hx := CX.1.1
  have hb := CX.1.2.1
  have hB : (1 : Nat) ∈ fa_bs := by decide
  refine lv_aload_n hx hb dX6_refer_0 rfl (lv_at hl 0 rfl) ?_
  refine fa_getr (k := 0) (j := 113) CX HX fl_X6_22 (by omega) rfl rfl (fa_CI.A hC).2.2.1 dX6_refer_1 ?_
  refine lv_aload_n hx hb dX6_refer_4 rfl (lv_at hl 0 rfl) ?_
  refine fa_getr (k := 0) (j := 1) CX HX fl_X6_10 (by omega) rfl rfl (fa_CI.A hC).1 dX6_refer_5 ?_
  refine fa_callVvu (As := [.ref (fa_B G + (1))]) (rest := []) CX HX (g_draft l G n hn v r hC ) ln_X6_33 (by omega) rfl rfl rfl rfl (Nat.le_of_ble_eq_true rfl) hl.1 ⟨Nat.le_of_ble_eq_true rfl, Nat.le_of_ble_eq_true rfl⟩ ⟨Nat.le_refl _, Nat.le_refl _⟩ dX6_refer_8 (fun v1283 H locs h1282 HX1284 => ?_)
  have hC_v1283 := h1282.1.2
  have h_draft := h1282.1.1
  refine lv_aload_n hx hb dX6_refer_11 rfl (lv_at hl 0 rfl) ?_
  refine lv_aload_n hx hb dX6_refer_12 rfl (lv_at hl 0 rfl) ?_
  refine fa_getr (k := 0) (j := 1) CX HX1284 fl_X6_10 (by omega) rfl rfl (fa_CI.A hC_v1283).1 dX6_refer_13 ?_
  refine lv_iload_n hx hb dX6_refer_16 rfl (lv_at hl 1 rfl) ?_
  refine lv_iload_n hx hb dX6_refer_17 rfl (lv_at hl 2 rfl) ?_
  refine fa_callViu (As := [.int (a1), .int (a2)]) (rest := [.ref (fa_B G + (0))]) CX HX1284 (g_putReference l G n hn v1283 r 1 (by decide) (fa_CI.S hC_v1283 1 (by decide)).1 (fa_CI.S hC_v1283 1 (by decide)).2 (a1) (a2) ) ln_X6_55 (fa_lt (by decide) 0 (by decide) hn) (fa_s0 (by decide)) rfl rfl rfl (Nat.le_of_ble_eq_true rfl) hl.1 ⟨Nat.le_of_ble_eq_true rfl, Nat.le_of_ble_eq_true rfl⟩ ⟨Nat.le_refl _, Nat.le_refl _⟩ dX6_refer_18 (fun x1286 v1287 H locs h1285 HX1288 => ?_)
  have h_putReference := h1285.1
  have hIS_v1287 : fa_IS v1287 1 := h1285.1.2
  have hC_v1287 : fa_CI v1287 r := fa_CI.st hC_v1283 (by decide) hIS_v1287 (fa_CI.S hC_v1283 1 (by decide)).1 (fa_fr.wide h1285.2 (by omega) (by omega)) (fun _ _ => rfl)
  refine fa_callVi (As := [.int (x1286)]) (rest := []) CX HX1288 (g_recorded l G n hn v1287 r hC_v1287 (x1286)) ln_X6_41 (by omega) rfl rfl rfl rfl (Nat.le_of_ble_eq_true rfl) hl.1 ⟨Nat.le_of_ble_eq_true rfl, Nat.le_of_ble_eq_true rfl⟩ ⟨Nat.le_refl _, Nat.le_refl _⟩ dX6_refer_21 (fun x1290 v1291 r1292 H locs h1289 HX1293 => ?_)
  dsimp only at h1289
  have hC_v1291 := h1289.2.1
  have h_recorded := h1289.1
  exact RET _ _ _ _ _ _ _ HX1293 dX6_refer_24 (⟨⟨(fc_kd58 h_recorded), (fun A H hV => fb_face hC hV h_draft h1285.2 (fun _ _ => rfl) (fun hc => h_putReference.1 A hV.1 hc) (hV.1.refA a1 a2) h_recorded)⟩, hC_v1291, (fa_fr.tr (fa_fr.tr (fa_fr.tr fa_fr.rf (fa_fr.wide h1282.2 (by omega) (by omega))) (fa_fr.wide h1285.2 (by omega) (by omega))) (fa_fr.wide h1289.2.2.1 (by omega) (by omega))), (fun k hk => ((h1289.2.2.2 k hk).trans rfl))⟩)
set_option maxHeartbeats 4000000 in
set_option maxRecDepth 100000 in
theorem g_reserve5 (l : Launch) (G : fa_G) (n : Nat) (hn : 397 ≤ n) (v : fa_V) (r : fa_R) (hC : fa_CI v r) (a1 : Int32) (a2 : Int32) : fa_MI l G n yX6_reserve cX6_reserve 3 (some .int) 6 [.ref (fa_B G + (0)), .int (a1), .int (a2)] v r (fun x w => ((w.2 58 = r 58) ∧ ∀ A H, fb_CV v r A H → x = (fb_resA A a1 a2).1 ∧ fb_CV w.1 w.2 (fb_resA A a1 a2).2 (fb_rec H A (fb_resA A a1 a2).1)) ∧ (fa_CI w.1 w.2) ∧ (fa_fr 1 395 v w.1) ∧ (∀ k, 395 ≤ k → w.2 k = r k)) := by
  refine fa_startI (by decide +kernel) (Nat.le_of_ble_eq_true rfl) (fun p e s m args below meth c ls Q CX hl HX RET => ?_)
  have hl : lv_has ls 3 [(0, .ref (fa_B G + (0))), (1, .int (a1)), (2, .int (a2))] := hl
  have hx := CX.1.1
  have hb := CX.1.2.1
  have hB : (1 : Nat) ∈ fa_bs := by decide
  refine lv_aload_n hx hb dX6_reserve_0 rfl (lv_at hl 0 rfl) ?_
  refine fa_getr (k := 0) (j := 113) CX HX fl_X6_22 (by omega) rfl rfl (fa_CI.A hC).2.2.1 dX6_reserve_1 ?_
  refine lv_aload_n hx hb dX6_reserve_4 rfl (lv_at hl 0 rfl) ?_
  refine fa_getr (k := 0) (j := 1) CX HX fl_X6_10 (by omega) rfl rfl (fa_CI.A hC).1 dX6_reserve_5 ?_
  refine fa_callVvu (As := [.ref (fa_B G + (1))]) (rest := []) CX HX (g_draft l G n hn v r hC ) ln_X6_33 (by omega) rfl rfl rfl rfl (Nat.le_of_ble_eq_true rfl) hl.1 ⟨Nat.le_of_ble_eq_true rfl, Nat.le_of_ble_eq_true rfl⟩ ⟨Nat.le_refl _, Nat.le_refl _⟩ dX6_reserve_8 (fun v1295 H locs h1294 HX1296 => ?_)
  have hC_v1295 := h1294.1.2
  have h_draft := h1294.1.1
  refine lv_aload_n hx hb dX6_reserve_11 rfl (lv_at hl 0 rfl) ?_
  refine lv_aload_n hx hb dX6_reserve_12 rfl (lv_at hl 0 rfl) ?_
  refine fa_getr (k := 0) (j := 1) CX HX1296 fl_X6_10 (by omega) rfl rfl (fa_CI.A hC_v1295).1 dX6_reserve_13 ?_
  refine lv_iload_n hx hb dX6_reserve_16 rfl (lv_at hl 1 rfl) ?_
  refine lv_iload_n hx hb dX6_reserve_17 rfl (lv_at hl 2 rfl) ?_
  refine fa_callViu (As := [.int (a1), .int (a2)]) (rest := [.ref (fa_B G + (0))]) CX HX1296 (g_putReservation l G n hn v1295 r 1 (by decide) (fa_CI.S hC_v1295 1 (by decide)).1 (fa_CI.S hC_v1295 1 (by decide)).2 (a1) (a2) ) ln_X6_58 (fa_lt (by decide) 0 (by decide) hn) (fa_s0 (by decide)) rfl rfl rfl (Nat.le_of_ble_eq_true rfl) hl.1 ⟨Nat.le_of_ble_eq_true rfl, Nat.le_of_ble_eq_true rfl⟩ ⟨Nat.le_refl _, Nat.le_refl _⟩ dX6_reserve_18 (fun x1298 v1299 H locs h1297 HX1300 => ?_)
  have h_putReservation := h1297.1
  have hIS_v1299 : fa_IS v1299 1 := h1297.1.2
  have hC_v1299 : fa_CI v1299 r := fa_CI.st hC_v1295 (by decide) hIS_v1299 (fa_CI.S hC_v1295 1 (by decide)).1 (fa_fr.wide h1297.2 (by omega) (by omega)) (fun _ _ => rfl)
  refine fa_callVi (As := [.int (x1298)]) (rest := []) CX HX1300 (g_recorded l G n hn v1299 r hC_v1299 (x1298)) ln_X6_41 (by omega) rfl rfl rfl rfl (Nat.le_of_ble_eq_true rfl) hl.1 ⟨Nat.le_of_ble_eq_true rfl, Nat.le_of_ble_eq_true rfl⟩ ⟨Nat.le_refl _, Nat.le_refl _⟩ dX6_reserve_21 (fun x1302 v1303 r1304 H locs h1301 HX1305 => ?_)
  dsimp only at h1301
  have hC_v1303 := h1301.2.1
  have h_recorded := h1301.1
  exact RET _ _ _ _ _ _ _ HX1305 dX6_reserve_24 (⟨⟨(fc_kd58 h_recorded), (fun A H hV => fb_face hC hV h_draft h1297.2 (fun _ _ => rfl) (fun hc => h_putReservation.1 A hV.1 hc) (hV.1.resA a1 a2) h_recorded)⟩, hC_v1303, (fa_fr.tr (fa_fr.tr (fa_fr.tr fa_fr.rf (fa_fr.wide h1294.2 (by omega) (by omega))) (fa_fr.wide h1297.2 (by omega) (by omega))) (fa_fr.wide h1301.2.2.1 (by omega) (by omega))), (fun k hk => ((h1301.2.2.2 k hk).trans rfl))⟩)
set_option maxHeartbeats 4000000 in
set_option maxRecDepth 100000 in
theorem g_cancel5 (l : Launch) (G : fa_G) (n : Nat) (hn : 397 ≤ n) (v : fa_V) (r : fa_R) (hC : fa_CI v r) (a1 : Int32) (a2 : Int32) : fa_MI l G n yX6_cancel cX6_cancel 3 (some .int) 6 [.ref (fa_B G + (0)), .int (a1), .int (a2)] v r (fun x w => ((w.2 58 = r 58) ∧ ∀ A H, fb_CV v r A H → x = (fb_canA A a1 a2).1 ∧ fb_CV w.1 w.2 (fb_canA A a1 a2).2 (fb_rec H A (fb_canA A a1 a2).1)) ∧ (fa_CI w.1 w.2) ∧ (fa_fr 1 395 v w.1) ∧ (∀ k, 395 ≤ k → w.2 k = r k)) := by
  refine fa_startI (by decide +kernel) (Nat.le_of_ble_eq_true rfl) (fun p e s m args below meth c ls Q CX hl HX RET => ?_)
  have hl : lv_has ls 3 [(0, .ref (fa_B G + (0))), (1, .int (a1)), (2, .int (a2))] := hl
  have hx := CX.1.1
  have hb := CX.1.2.1
  have hB : (1 : Nat) ∈ fa_bs := by decide
  refine lv_aload_n hx hb dX6_cancel_0 rfl (lv_at hl 0 rfl) ?_
  refine fa_getr (k := 0) (j := 113) CX HX fl_X6_22 (by omega) rfl rfl (fa_CI.A hC).2.2.1 dX6_cancel_1 ?_
  refine lv_aload_n hx hb dX6_cancel_4 rfl (lv_at hl 0 rfl) ?_
  refine fa_getr (k := 0) (j := 1) CX HX fl_X6_10 (by omega) rfl rfl (fa_CI.A hC).1 dX6_cancel_5 ?_
  refine fa_callVvu (As := [.ref (fa_B G + (1))]) (rest := []) CX HX (g_draft l G n hn v r hC ) ln_X6_33 (by omega) rfl rfl rfl rfl (Nat.le_of_ble_eq_true rfl) hl.1 ⟨Nat.le_of_ble_eq_true rfl, Nat.le_of_ble_eq_true rfl⟩ ⟨Nat.le_refl _, Nat.le_refl _⟩ dX6_cancel_8 (fun v1307 H locs h1306 HX1308 => ?_)
  have hC_v1307 := h1306.1.2
  have h_draft := h1306.1.1
  refine lv_aload_n hx hb dX6_cancel_11 rfl (lv_at hl 0 rfl) ?_
  refine lv_aload_n hx hb dX6_cancel_12 rfl (lv_at hl 0 rfl) ?_
  refine fa_getr (k := 0) (j := 1) CX HX1308 fl_X6_10 (by omega) rfl rfl (fa_CI.A hC_v1307).1 dX6_cancel_13 ?_
  refine lv_iload_n hx hb dX6_cancel_16 rfl (lv_at hl 1 rfl) ?_
  refine lv_iload_n hx hb dX6_cancel_17 rfl (lv_at hl 2 rfl) ?_
  refine fa_callViu (As := [.int (a1), .int (a2)]) (rest := [.ref (fa_B G + (0))]) CX HX1308 (g_takeReservation l G n hn v1307 r 1 (by decide) (fa_CI.S hC_v1307 1 (by decide)).1 (fa_CI.S hC_v1307 1 (by decide)).2 (a1) (a2) ) ln_X6_61 (fa_lt (by decide) 0 (by decide) hn) (fa_s0 (by decide)) rfl rfl rfl (Nat.le_of_ble_eq_true rfl) hl.1 ⟨Nat.le_of_ble_eq_true rfl, Nat.le_of_ble_eq_true rfl⟩ ⟨Nat.le_refl _, Nat.le_refl _⟩ dX6_cancel_18 (fun x1310 v1311 H locs h1309 HX1312 => ?_)
  have h_takeReservation := h1309.1
  have hIS_v1311 : fa_IS v1311 1 := h1309.1.2
  have hC_v1311 : fa_CI v1311 r := fa_CI.st hC_v1307 (by decide) hIS_v1311 (fa_CI.S hC_v1307 1 (by decide)).1 (fa_fr.wide h1309.2 (by omega) (by omega)) (fun _ _ => rfl)
  refine fa_callVi (As := [.int (x1310)]) (rest := []) CX HX1312 (g_recorded l G n hn v1311 r hC_v1311 (x1310)) ln_X6_41 (by omega) rfl rfl rfl rfl (Nat.le_of_ble_eq_true rfl) hl.1 ⟨Nat.le_of_ble_eq_true rfl, Nat.le_of_ble_eq_true rfl⟩ ⟨Nat.le_refl _, Nat.le_refl _⟩ dX6_cancel_21 (fun x1314 v1315 r1316 H locs h1313 HX1317 => ?_)
  dsimp only at h1313
  have hC_v1315 := h1313.2.1
  have h_recorded := h1313.1
  exact RET _ _ _ _ _ _ _ HX1317 dX6_cancel_24 (⟨⟨(fc_kd58 h_recorded), (fun A H hV => fb_face hC hV h_draft h1309.2 (fun _ _ => rfl) (fun hc => h_takeReservation.1 A hV.1 hc) (hV.1.canA a1 a2) h_recorded)⟩, hC_v1315, (fa_fr.tr (fa_fr.tr (fa_fr.tr fa_fr.rf (fa_fr.wide h1306.2 (by omega) (by omega))) (fa_fr.wide h1309.2 (by omega) (by omega))) (fa_fr.wide h1313.2.2.1 (by omega) (by omega))), (fun k hk => ((h1313.2.2.2 k hk).trans rfl))⟩)
set_option maxHeartbeats 4000000 in
set_option maxRecDepth 100000 in
theorem g_pass5 (l : Launch) (G : fa_G) (n : Nat) (hn : 397 ≤ n) (v : fa_V) (r : fa_R) (hC : fa_CI v r) (a1 : Int32) : fa_MI l G n yX6_pass cX6_pass 2 (some .int) 7 [.ref (fa_B G + (0)), .int (a1)] v r (fun x w => ((w.2 58 = r 58) ∧ ∀ A H, fb_CV v r A H → x = (fb_passA A a1).1 ∧ fb_CV w.1 w.2 (fb_passA A a1).2 (fb_rec H A (fb_passA A a1).1)) ∧ (fa_CI w.1 w.2) ∧ (fa_fr 1 395 v w.1) ∧ (∀ k, 395 ≤ k → w.2 k = r k)) := by
  refine fa_startI (by decide +kernel) (Nat.le_of_ble_eq_true rfl) (fun p e s m args below meth c ls Q CX hl HX RET => ?_)
  have hl : lv_has ls 2 [(0, .ref (fa_B G + (0))), (1, .int (a1))] := hl
  have hx := CX.1.1
  have hb := CX.1.2.1
  have hB : (1 : Nat) ∈ fa_bs := by decide
  refine lv_aload_n hx hb dX6_pass_0 rfl (lv_at hl 0 rfl) ?_
  refine fa_getr (k := 0) (j := 113) CX HX fl_X6_22 (by omega) rfl rfl (fa_CI.A hC).2.2.1 dX6_pass_1 ?_
  refine lv_aload_n hx hb dX6_pass_4 rfl (lv_at hl 0 rfl) ?_
  refine fa_getr (k := 0) (j := 1) CX HX fl_X6_10 (by omega) rfl rfl (fa_CI.A hC).1 dX6_pass_5 ?_
  refine fa_callVvu (As := [.ref (fa_B G + (1))]) (rest := []) CX HX (g_draft l G n hn v r hC ) ln_X6_33 (by omega) rfl rfl rfl rfl (Nat.le_of_ble_eq_true rfl) hl.1 ⟨Nat.le_of_ble_eq_true rfl, Nat.le_of_ble_eq_true rfl⟩ ⟨Nat.le_refl _, Nat.le_refl _⟩ dX6_pass_8 (fun v1319 H locs h1318 HX1320 => ?_)
  have hC_v1319 := h1318.1.2
  have h_draft := h1318.1.1
  refine lv_aload_n hx hb dX6_pass_11 rfl (lv_at hl 0 rfl) ?_
  refine lv_aload_n hx hb dX6_pass_12 rfl (lv_at hl 0 rfl) ?_
  refine fa_getr (k := 0) (j := 1) CX HX1320 fl_X6_10 (by omega) rfl rfl (fa_CI.A hC_v1319).1 dX6_pass_13 ?_
  refine lv_iload_n hx hb dX6_pass_16 rfl (lv_at hl 1 rfl) ?_
  refine fa_callVi (As := [.int (a1)]) (rest := [.ref (fa_B G + (0))]) CX HX1320 (g_passDays l G n hn v1319 r 1 (by decide) (fa_CI.S hC_v1319 1 (by decide)).1 (fa_CI.S hC_v1319 1 (by decide)).2 (a1) ) ln_X6_64 (fa_lt (by decide) 0 (by decide) hn) (fa_s0 (by decide)) rfl rfl rfl (Nat.le_of_ble_eq_true rfl) hl.1 ⟨Nat.le_of_ble_eq_true rfl, Nat.le_of_ble_eq_true rfl⟩ ⟨Nat.le_refl _, Nat.le_refl _⟩ dX6_pass_17 (fun x1322 v1323 r1324 H locs h1321 HX1325 => ?_)
  dsimp only at h1321
  have hIS_v1323 := h1321.2.1
  have hr1_r1324 := h1321.2.2.1
  have hrr_r1324 := h1321.2.2.2.2
  have h_passDays := h1321.1
  have hC_v1323 : fa_CI v1323 r1324 := fa_CI.st hC_v1319 (by decide) hIS_v1323 hr1_r1324 (fa_fr.wide h1321.2.2.2.1 (by omega) (by omega)) h1321.2.2.2.2
  refine fa_callVi (As := [.int (x1322)]) (rest := []) CX HX1325 (g_recorded l G n hn v1323 r1324 hC_v1323 (x1322)) ln_X6_41 (by omega) rfl rfl rfl rfl (Nat.le_of_ble_eq_true rfl) hl.1 ⟨Nat.le_of_ble_eq_true rfl, Nat.le_of_ble_eq_true rfl⟩ ⟨Nat.le_refl _, Nat.le_refl _⟩ dX6_pass_20 (fun x1327 v1328 r1329 H locs h1326 HX1330 => ?_)
  dsimp only at h1326
  have hC_v1328 := h1326.2.1
  have h_recorded := h1326.1
  exact RET _ _ _ _ _ _ _ HX1330 dX6_pass_23 (⟨⟨((fc_kd58 h_recorded).trans (h1321.2.2.2.2 58 (by omega))), (fun A H hV => fb_face hC hV h_draft h1321.2.2.2.1 (fun k hk => h1321.2.2.2.2 k (by omega)) (fun hc => h_passDays A hV.1 hc) (hV.1.passA a1) h_recorded)⟩, hC_v1328, (fa_fr.tr (fa_fr.tr (fa_fr.tr fa_fr.rf (fa_fr.wide h1318.2 (by omega) (by omega))) (fa_fr.wide h1321.2.2.2.1 (by omega) (by omega))) (fa_fr.wide h1326.2.2.1 (by omega) (by omega))), (fun k hk => ((h1326.2.2.2 k hk).trans ((h1321.2.2.2.2 k (by omega)).trans rfl)))⟩)
set_option maxHeartbeats 4000000 in
set_option maxRecDepth 100000 in
theorem g_set5 (l : Launch) (G : fa_G) (n : Nat) (hn : 397 ≤ n) (v : fa_V) (r : fa_R) (hC : fa_CI v r) (a1 : Int32) (a2 : Int32) : fa_MI l G n yX6_set cX6_set 3 (some .int) 6 [.ref (fa_B G + (0)), .int (a1), .int (a2)] v r (fun x w => ((w.2 58 = r 58) ∧ ∀ A H, fb_CV v r A H → x = (fb_setA A a1 a2).1 ∧ fb_CV w.1 w.2 (fb_setA A a1 a2).2 (fb_rec H A (fb_setA A a1 a2).1)) ∧ (fa_CI w.1 w.2) ∧ (fa_fr 1 395 v w.1) ∧ (∀ k, 395 ≤ k → w.2 k = r k)) := by
  refine fa_startI (by decide +kernel) (Nat.le_of_ble_eq_true rfl) (fun p e s m args below meth c ls Q CX hl HX RET => ?_)
  have hl : lv_has ls 3 [(0, .ref (fa_B G + (0))), (1, .int (a1)), (2, .int (a2))] := hl
  have hx := CX.1.1
  have hb := CX.1.2.1
  have hB : (1 : Nat) ∈ fa_bs := by decide
  refine lv_aload_n hx hb dX6_set_0 rfl (lv_at hl 0 rfl) ?_
  refine fa_getr (k := 0) (j := 113) CX HX fl_X6_22 (by omega) rfl rfl (fa_CI.A hC).2.2.1 dX6_set_1 ?_
  refine lv_aload_n hx hb dX6_set_4 rfl (lv_at hl 0 rfl) ?_
  refine fa_getr (k := 0) (j := 1) CX HX fl_X6_10 (by omega) rfl rfl (fa_CI.A hC).1 dX6_set_5 ?_
  refine fa_callVvu (As := [.ref (fa_B G + (1))]) (rest := []) CX HX (g_draft l G n hn v r hC ) ln_X6_33 (by omega) rfl rfl rfl rfl (Nat.le_of_ble_eq_true rfl) hl.1 ⟨Nat.le_of_ble_eq_true rfl, Nat.le_of_ble_eq_true rfl⟩ ⟨Nat.le_refl _, Nat.le_refl _⟩ dX6_set_8 (fun v1332 H locs h1331 HX1333 => ?_)
  have hC_v1332 := h1331.1.2
  have h_draft := h1331.1.1
  refine lv_aload_n hx hb dX6_set_11 rfl (lv_at hl 0 rfl) ?_
  refine lv_aload_n hx hb dX6_set_12 rfl (lv_at hl 0 rfl) ?_
  refine fa_getr (k := 0) (j := 1) CX HX1333 fl_X6_10 (by omega) rfl rfl (fa_CI.A hC_v1332).1 dX6_set_13 ?_
  refine lv_iload_n hx hb dX6_set_16 rfl (lv_at hl 1 rfl) ?_
  refine lv_iload_n hx hb dX6_set_17 rfl (lv_at hl 2 rfl) ?_
  refine fa_callViu (As := [.int (a1), .int (a2)]) (rest := [.ref (fa_B G + (0))]) CX HX1333 (g_changeSetting l G n hn v1332 r 1 (by decide) (fa_CI.S hC_v1332 1 (by decide)).1 (fa_CI.S hC_v1332 1 (by decide)).2 (a1) (a2) ) ln_X6_67 (fa_lt (by decide) 0 (by decide) hn) (fa_s0 (by decide)) rfl rfl rfl (Nat.le_of_ble_eq_true rfl) hl.1 ⟨Nat.le_of_ble_eq_true rfl, Nat.le_of_ble_eq_true rfl⟩ ⟨Nat.le_refl _, Nat.le_refl _⟩ dX6_set_18 (fun x1335 v1336 H locs h1334 HX1337 => ?_)
  have h_changeSetting := h1334.1
  have hIS_v1336 : fa_IS v1336 1 := h1334.1.2
  have hC_v1336 : fa_CI v1336 r := fa_CI.st hC_v1332 (by decide) hIS_v1336 (fa_CI.S hC_v1332 1 (by decide)).1 (fa_fr.wide h1334.2 (by omega) (by omega)) (fun _ _ => rfl)
  refine fa_callVi (As := [.int (x1335)]) (rest := []) CX HX1337 (g_recorded l G n hn v1336 r hC_v1336 (x1335)) ln_X6_41 (by omega) rfl rfl rfl rfl (Nat.le_of_ble_eq_true rfl) hl.1 ⟨Nat.le_of_ble_eq_true rfl, Nat.le_of_ble_eq_true rfl⟩ ⟨Nat.le_refl _, Nat.le_refl _⟩ dX6_set_21 (fun x1339 v1340 r1341 H locs h1338 HX1342 => ?_)
  dsimp only at h1338
  have hC_v1340 := h1338.2.1
  have h_recorded := h1338.1
  exact RET _ _ _ _ _ _ _ HX1342 dX6_set_24 (⟨⟨(fc_kd58 h_recorded), (fun A H hV => fb_face hC hV h_draft h1334.2 (fun _ _ => rfl) (fun hc => h_changeSetting.1 A hV.1 hc) (hV.1.setA a1 a2) h_recorded)⟩, hC_v1340, (fa_fr.tr (fa_fr.tr (fa_fr.tr fa_fr.rf (fa_fr.wide h1331.2 (by omega) (by omega))) (fa_fr.wide h1334.2 (by omega) (by omega))) (fa_fr.wide h1338.2.2.1 (by omega) (by omega))), (fun k hk => ((h1338.2.2.2 k hk).trans rfl))⟩)
