set_option maxHeartbeats 4000000 in
set_option maxRecDepth 100000 in
theorem g_recorded (l : Launch) (G : fa_G) (n : Nat) (hn : 397 ≤ n) (v : fa_V) (r : fa_R) (hC : fa_CI v r) (a1 : Int32) : fa_MI l G n yX6_recorded cX6_recorded 2 (some .int) 2 [.ref (fa_B G + (0)), .int (a1)] v r (fun x w => (x = a1 ∧ ((¬ (0 ≤ a1 ∨ a1 = (-6 : Int32)) ∧ w.1 = v ∧ w.2 = r) ∨ ((0 ≤ a1 ∨ a1 = (-6 : Int32)) ∧ fa_kd v r w.1 w.2))) ∧ (fa_CI w.1 w.2) ∧ (fa_fr 113 114 v w.1) ∧ (∀ k, 395 ≤ k → w.2 k = r k)) := by
  refine fa_startI (by decide +kernel) (Nat.le_of_ble_eq_true rfl) (fun p e s m args below meth c ls Q CX hl HX RET => ?_)
  have hl : lv_has ls 2 [(0, .ref (fa_B G + (0))), (1, .int (a1))] := hl
  have hx := CX.1.1
  have hb := CX.1.2.1
  have hB : (1 : Nat) ∈ fa_bs := by decide
  refine lv_iload_n hx hb dX6_recorded_0 rfl (lv_at hl 1 rfl) ?_
  refine fa_callSip (As := [.int (a1)]) (rest := []) CX HX (c_X6_isError l G n v r (a1)) ln_X6_95 rfl rfl (Nat.le_of_ble_eq_true rfl) hl.1 ⟨Nat.le_of_ble_eq_true rfl, Nat.le_of_ble_eq_true rfl⟩ ⟨Nat.le_refl _, Nat.le_refl _⟩ dX6_recorded_1 (fun x1416 H locs h1415 HX1417 => ?_)
  have h_isError := h1415
  refine lv_if_ne (tgt := 14) hx hb dX6_recorded_4 (by decide) (fun c_4 => ?_) (fun c_4 => ?_)
  · refine lv_iload_n hx hb dX6_recorded_14 rfl (lv_at hl 1 rfl) ?_
    exact RET _ _ _ _ _ _ _ HX1417 dX6_recorded_15 (⟨⟨rfl, Or.inl ⟨fa_err1 h_isError c_4, rfl, rfl⟩⟩, hC, fa_fr.rf, (fun k hk => rfl)⟩)
  · refine lv_aload_n hx hb dX6_recorded_7 rfl (lv_at hl 0 rfl) ?_
    refine fa_getr (k := 0) (j := 113) CX HX1417 fl_X6_22 (by omega) rfl rfl (fa_CI.A hC).2.2.1 dX6_recorded_8 ?_
    refine fa_callVv (As := []) (rest := []) CX HX1417 (g_keepDraft l G n hn v r hC ) ln_X6_106 (by omega) rfl rfl rfl rfl (Nat.le_of_ble_eq_true rfl) hl.1 ⟨Nat.le_of_ble_eq_true rfl, Nat.le_of_ble_eq_true rfl⟩ ⟨Nat.le_refl _, Nat.le_refl _⟩ dX6_recorded_11 (fun v1419 r1420 H locs h1418 HX1421 => ?_)
    dsimp only at h1418
    have hC_v1419 := h1418.2.1
    have h_keepDraft := h1418.1
    refine lv_iload_n hx hb dX6_recorded_14 rfl (lv_at hl 1 rfl) ?_
    exact RET _ _ _ _ _ _ _ HX1421 dX6_recorded_15 (⟨⟨rfl, Or.inr ⟨fa_err0 h_isError c_4, h_keepDraft⟩⟩, hC_v1419, (fa_fr.tr fa_fr.rf (fa_fr.wide h1418.2.2.1 (by omega) (by omega))), (fun k hk => ((h1418.2.2.2 k hk).trans rfl))⟩)
set_option maxHeartbeats 4000000 in
set_option maxRecDepth 100000 in
theorem g_add (l : Launch) (G : fa_G) (n : Nat) (hn : 397 ≤ n) (v : fa_V) (r : fa_R) (hC : fa_CI v r) (a1 : Int32) (a2 : Int32) : fa_MI l G n yX6_add cX6_add 3 (some .int) 6 [.ref (fa_B G + (0)), .int (a1), .int (a2)] v r (fun x w => (fa_CI w.1 w.2) ∧ (fa_fr 0 395 v w.1) ∧ (∀ k, 395 ≤ k → w.2 k = r k)) := by
  refine fa_startI (by decide +kernel) (Nat.le_of_ble_eq_true rfl) (fun p e s m args below meth c ls Q CX hl HX RET => ?_)
  have hl : lv_has ls 3 [(0, .ref (fa_B G + (0))), (1, .int (a1)), (2, .int (a2))] := hl
  have hx := CX.1.1
  have hb := CX.1.2.1
  have hB : (1 : Nat) ∈ fa_bs := by decide
  refine lv_aload_n hx hb dX6_add_0 rfl (lv_at hl 0 rfl) ?_
  refine fa_getr (k := 0) (j := 113) CX HX fl_X6_22 (by omega) rfl rfl (fa_CI.A hC).2.2.1 dX6_add_1 ?_
  refine lv_aload_n hx hb dX6_add_4 rfl (lv_at hl 0 rfl) ?_
  refine fa_getr (k := 0) (j := 1) CX HX fl_X6_10 (by omega) rfl rfl (fa_CI.A hC).1 dX6_add_5 ?_
  refine fa_callVvu (As := [.ref (fa_B G + (1))]) (rest := []) CX HX (g_draft l G n hn v r hC ) ln_X6_33 (by omega) rfl rfl rfl rfl (Nat.le_of_ble_eq_true rfl) hl.1 ⟨Nat.le_of_ble_eq_true rfl, Nat.le_of_ble_eq_true rfl⟩ ⟨Nat.le_refl _, Nat.le_refl _⟩ dX6_add_8 (fun v1423 H locs h1422 HX1424 => ?_)
  have hC_v1423 := h1422.1
  refine lv_aload_n hx hb dX6_add_11 rfl (lv_at hl 0 rfl) ?_
  refine lv_aload_n hx hb dX6_add_12 rfl (lv_at hl 0 rfl) ?_
  refine fa_getr (k := 0) (j := 1) CX HX1424 fl_X6_10 (by omega) rfl rfl (fa_CI.A hC_v1423).1 dX6_add_13 ?_
  refine lv_iload_n hx hb dX6_add_16 rfl (lv_at hl 1 rfl) ?_
  refine lv_iload_n hx hb dX6_add_17 rfl (lv_at hl 2 rfl) ?_
  refine fa_callViu (As := [.int (a1), .int (a2)]) (rest := [.ref (fa_B G + (0))]) CX HX1424 (g_addFile l G n hn v1423 r 1 (by decide) (fa_CI.S hC_v1423 1 (by decide)).1 (fa_CI.S hC_v1423 1 (by decide)).2 (a1) (a2) ) ln_X6_37 (fa_lt (by decide) 0 (by decide) hn) (fa_s0 (by decide)) rfl rfl rfl (Nat.le_of_ble_eq_true rfl) hl.1 ⟨Nat.le_of_ble_eq_true rfl, Nat.le_of_ble_eq_true rfl⟩ ⟨Nat.le_refl _, Nat.le_refl _⟩ dX6_add_18 (fun x1426 v1427 H locs h1425 HX1428 => ?_)
  have h_addFile := h1425.1
  have hIS_v1427 : fa_IS v1427 1 := h1425.1
  have hC_v1427 : fa_CI v1427 r := fa_CI.st hC_v1423 (by decide) hIS_v1427 (fa_CI.S hC_v1423 1 (by decide)).1 (fa_fr.wide h1425.2 (by omega) (by omega)) (fun _ _ => rfl)
  refine fa_callVi (As := [.int (x1426)]) (rest := []) CX HX1428 (g_recorded l G n hn v1427 r hC_v1427 (x1426)) ln_X6_41 (by omega) rfl rfl rfl rfl (Nat.le_of_ble_eq_true rfl) hl.1 ⟨Nat.le_of_ble_eq_true rfl, Nat.le_of_ble_eq_true rfl⟩ ⟨Nat.le_refl _, Nat.le_refl _⟩ dX6_add_21 (fun x1430 v1431 r1432 H locs h1429 HX1433 => ?_)
  dsimp only at h1429
  have hC_v1431 := h1429.2.1
  have h_recorded := h1429.1
  exact RET _ _ _ _ _ _ _ HX1433 dX6_add_24 (⟨hC_v1431, (fa_fr.tr (fa_fr.tr (fa_fr.tr fa_fr.rf (fa_fr.wide h1422.2 (by omega) (by omega))) (fa_fr.wide h1425.2 (by omega) (by omega))) (fa_fr.wide h1429.2.2.1 (by omega) (by omega))), (fun k hk => ((h1429.2.2.2 k hk).trans rfl))⟩)
set_option maxHeartbeats 4000000 in
set_option maxRecDepth 100000 in
theorem g_ask (l : Launch) (G : fa_G) (n : Nat) (hn : 397 ≤ n) (v : fa_V) (r : fa_R) (hC : fa_CI v r) (a1 : Int32) : fa_MI l G n yX6_ask cX6_ask 2 (some .int) 6 [.ref (fa_B G + (0)), .int (a1)] v r (fun x w => (fa_CI w.1 w.2) ∧ (fa_fr 0 395 v w.1) ∧ (∀ k, 395 ≤ k → w.2 k = r k)) := by
  refine fa_startI (by decide +kernel) (Nat.le_of_ble_eq_true rfl) (fun p e s m args below meth c ls Q CX hl HX RET => ?_)
  have hl : lv_has ls 2 [(0, .ref (fa_B G + (0))), (1, .int (a1))] := hl
  have hx := CX.1.1
  have hb := CX.1.2.1
  have hB : (1 : Nat) ∈ fa_bs := by decide
  refine lv_aload_n hx hb dX6_ask_0 rfl (lv_at hl 0 rfl) ?_
  refine fa_getr (k := 0) (j := 113) CX HX fl_X6_22 (by omega) rfl rfl (fa_CI.A hC).2.2.1 dX6_ask_1 ?_
  refine lv_aload_n hx hb dX6_ask_4 rfl (lv_at hl 0 rfl) ?_
  refine fa_getr (k := 0) (j := 1) CX HX fl_X6_10 (by omega) rfl rfl (fa_CI.A hC).1 dX6_ask_5 ?_
  refine fa_callVvu (As := [.ref (fa_B G + (1))]) (rest := []) CX HX (g_draft l G n hn v r hC ) ln_X6_33 (by omega) rfl rfl rfl rfl (Nat.le_of_ble_eq_true rfl) hl.1 ⟨Nat.le_of_ble_eq_true rfl, Nat.le_of_ble_eq_true rfl⟩ ⟨Nat.le_refl _, Nat.le_refl _⟩ dX6_ask_8 (fun v1435 H locs h1434 HX1436 => ?_)
  have hC_v1435 := h1434.1
  refine lv_aload_n hx hb dX6_ask_11 rfl (lv_at hl 0 rfl) ?_
  refine lv_aload_n hx hb dX6_ask_12 rfl (lv_at hl 0 rfl) ?_
  refine fa_getr (k := 0) (j := 1) CX HX1436 fl_X6_10 (by omega) rfl rfl (fa_CI.A hC_v1435).1 dX6_ask_13 ?_
  refine lv_iload_n hx hb dX6_ask_16 rfl (lv_at hl 1 rfl) ?_
  refine fa_callViu (As := [.int (a1)]) (rest := [.ref (fa_B G + (0))]) CX HX1436 (g_askFor l G n hn v1435 r 1 (by decide) (fa_CI.S hC_v1435 1 (by decide)).1 (fa_CI.S hC_v1435 1 (by decide)).2 (a1) ) ln_X6_45 (fa_lt (by decide) 0 (by decide) hn) (fa_s0 (by decide)) rfl rfl rfl (Nat.le_of_ble_eq_true rfl) hl.1 ⟨Nat.le_of_ble_eq_true rfl, Nat.le_of_ble_eq_true rfl⟩ ⟨Nat.le_refl _, Nat.le_refl _⟩ dX6_ask_17 (fun x1438 v1439 H locs h1437 HX1440 => ?_)
  have h_askFor := h1437.1
  have hIS_v1439 : fa_IS v1439 1 := h1437.1
  have hC_v1439 : fa_CI v1439 r := fa_CI.st hC_v1435 (by decide) hIS_v1439 (fa_CI.S hC_v1435 1 (by decide)).1 (fa_fr.wide h1437.2 (by omega) (by omega)) (fun _ _ => rfl)
  refine fa_callVi (As := [.int (x1438)]) (rest := []) CX HX1440 (g_recorded l G n hn v1439 r hC_v1439 (x1438)) ln_X6_41 (by omega) rfl rfl rfl rfl (Nat.le_of_ble_eq_true rfl) hl.1 ⟨Nat.le_of_ble_eq_true rfl, Nat.le_of_ble_eq_true rfl⟩ ⟨Nat.le_refl _, Nat.le_refl _⟩ dX6_ask_20 (fun x1442 v1443 r1444 H locs h1441 HX1445 => ?_)
  dsimp only at h1441
  have hC_v1443 := h1441.2.1
  have h_recorded := h1441.1
  exact RET _ _ _ _ _ _ _ HX1445 dX6_ask_23 (⟨hC_v1443, (fa_fr.tr (fa_fr.tr (fa_fr.tr fa_fr.rf (fa_fr.wide h1434.2 (by omega) (by omega))) (fa_fr.wide h1437.2 (by omega) (by omega))) (fa_fr.wide h1441.2.2.1 (by omega) (by omega))), (fun k hk => ((h1441.2.2.2 k hk).trans rfl))⟩)
set_option maxHeartbeats 4000000 in
set_option maxRecDepth 100000 in
theorem g_seal (l : Launch) (G : fa_G) (n : Nat) (hn : 397 ≤ n) (v : fa_V) (r : fa_R) (hC : fa_CI v r) (a1 : Int32) (a2 : Int32) (a3 : Int32) : fa_MI l G n yX6_seal cX6_seal 4 (some .int) 6 [.ref (fa_B G + (0)), .int (a1), .int (a2), .int (a3)] v r (fun x w => (fa_CI w.1 w.2) ∧ (fa_fr 0 395 v w.1) ∧ (∀ k, 395 ≤ k → w.2 k = r k)) := by
  refine fa_startI (by decide +kernel) (Nat.le_of_ble_eq_true rfl) (fun p e s m args below meth c ls Q CX hl HX RET => ?_)
  have hl : lv_has ls 4 [(0, .ref (fa_B G + (0))), (1, .int (a1)), (2, .int (a2)), (3, .int (a3))] := hl
  have hx := CX.1.1
  have hb := CX.1.2.1
  have hB : (1 : Nat) ∈ fa_bs := by decide
  refine lv_aload_n hx hb dX6_seal_0 rfl (lv_at hl 0 rfl) ?_
  refine fa_getr (k := 0) (j := 113) CX HX fl_X6_22 (by omega) rfl rfl (fa_CI.A hC).2.2.1 dX6_seal_1 ?_
  refine lv_aload_n hx hb dX6_seal_4 rfl (lv_at hl 0 rfl) ?_
  refine fa_getr (k := 0) (j := 1) CX HX fl_X6_10 (by omega) rfl rfl (fa_CI.A hC).1 dX6_seal_5 ?_
  refine fa_callVvu (As := [.ref (fa_B G + (1))]) (rest := []) CX HX (g_draft l G n hn v r hC ) ln_X6_33 (by omega) rfl rfl rfl rfl (Nat.le_of_ble_eq_true rfl) hl.1 ⟨Nat.le_of_ble_eq_true rfl, Nat.le_of_ble_eq_true rfl⟩ ⟨Nat.le_refl _, Nat.le_refl _⟩ dX6_seal_8 (fun v1447 H locs h1446 HX1448 => ?_)
  have hC_v1447 := h1446.1
  refine lv_aload_n hx hb dX6_seal_11 rfl (lv_at hl 0 rfl) ?_
  refine lv_aload_n hx hb dX6_seal_12 rfl (lv_at hl 0 rfl) ?_
  refine fa_getr (k := 0) (j := 1) CX HX1448 fl_X6_10 (by omega) rfl rfl (fa_CI.A hC_v1447).1 dX6_seal_13 ?_
  refine lv_iload_n hx hb dX6_seal_16 rfl (lv_at hl 1 rfl) ?_
  refine lv_iload_n hx hb dX6_seal_17 rfl (lv_at hl 2 rfl) ?_
  refine lv_iload_n hx hb dX6_seal_18 rfl (lv_at hl 3 rfl) ?_
  refine fa_callViu (As := [.int (a1), .int (a2), .int (a3)]) (rest := [.ref (fa_B G + (0))]) CX HX1448 (g_putSeal l G n hn v1447 r 1 (by decide) (fa_CI.S hC_v1447 1 (by decide)).1 (fa_CI.S hC_v1447 1 (by decide)).2 (a1) (a2) (a3) ) ln_X6_48 (fa_lt (by decide) 0 (by decide) hn) (fa_s0 (by decide)) rfl rfl rfl (Nat.le_of_ble_eq_true rfl) hl.1 ⟨Nat.le_of_ble_eq_true rfl, Nat.le_of_ble_eq_true rfl⟩ ⟨Nat.le_refl _, Nat.le_refl _⟩ dX6_seal_19 (fun x1450 v1451 H locs h1449 HX1452 => ?_)
  have h_putSeal := h1449.1
  have hIS_v1451 : fa_IS v1451 1 := h1449.1
  have hC_v1451 : fa_CI v1451 r := fa_CI.st hC_v1447 (by decide) hIS_v1451 (fa_CI.S hC_v1447 1 (by decide)).1 (fa_fr.wide h1449.2 (by omega) (by omega)) (fun _ _ => rfl)
  refine fa_callVi (As := [.int (x1450)]) (rest := []) CX HX1452 (g_recorded l G n hn v1451 r hC_v1451 (x1450)) ln_X6_41 (by omega) rfl rfl rfl rfl (Nat.le_of_ble_eq_true rfl) hl.1 ⟨Nat.le_of_ble_eq_true rfl, Nat.le_of_ble_eq_true rfl⟩ ⟨Nat.le_refl _, Nat.le_refl _⟩ dX6_seal_22 (fun x1454 v1455 r1456 H locs h1453 HX1457 => ?_)
  dsimp only at h1453
  have hC_v1455 := h1453.2.1
  have h_recorded := h1453.1
  exact RET _ _ _ _ _ _ _ HX1457 dX6_seal_25 (⟨hC_v1455, (fa_fr.tr (fa_fr.tr (fa_fr.tr fa_fr.rf (fa_fr.wide h1446.2 (by omega) (by omega))) (fa_fr.wide h1449.2 (by omega) (by omega))) (fa_fr.wide h1453.2.2.1 (by omega) (by omega))), (fun k hk => ((h1453.2.2.2 k hk).trans rfl))⟩)
set_option maxHeartbeats 4000000 in
set_option maxRecDepth 100000 in
theorem g_lift (l : Launch) (G : fa_G) (n : Nat) (hn : 397 ≤ n) (v : fa_V) (r : fa_R) (hC : fa_CI v r) (a1 : Int32) (a2 : Int32) : fa_MI l G n yX6_lift cX6_lift 3 (some .int) 6 [.ref (fa_B G + (0)), .int (a1), .int (a2)] v r (fun x w => (fa_CI w.1 w.2) ∧ (fa_fr 0 395 v w.1) ∧ (∀ k, 395 ≤ k → w.2 k = r k)) := by
  refine fa_startI (by decide +kernel) (Nat.le_of_ble_eq_true rfl) (fun p e s m args below meth c ls Q CX hl HX RET => ?_)
  have hl : lv_has ls 3 [(0, .ref (fa_B G + (0))), (1, .int (a1)), (2, .int (a2))] := hl
  have hx := CX.1.1
  have hb := CX.1.2.1
  have hB : (1 : Nat) ∈ fa_bs := by decide
  refine lv_aload_n hx hb dX6_lift_0 rfl (lv_at hl 0 rfl) ?_
  refine fa_getr (k := 0) (j := 113) CX HX fl_X6_22 (by omega) rfl rfl (fa_CI.A hC).2.2.1 dX6_lift_1 ?_
  refine lv_aload_n hx hb dX6_lift_4 rfl (lv_at hl 0 rfl) ?_
  refine fa_getr (k := 0) (j := 1) CX HX fl_X6_10 (by omega) rfl rfl (fa_CI.A hC).1 dX6_lift_5 ?_
  refine fa_callVvu (As := [.ref (fa_B G + (1))]) (rest := []) CX HX (g_draft l G n hn v r hC ) ln_X6_33 (by omega) rfl rfl rfl rfl (Nat.le_of_ble_eq_true rfl) hl.1 ⟨Nat.le_of_ble_eq_true rfl, Nat.le_of_ble_eq_true rfl⟩ ⟨Nat.le_refl _, Nat.le_refl _⟩ dX6_lift_8 (fun v1459 H locs h1458 HX1460 => ?_)
  have hC_v1459 := h1458.1
  refine lv_aload_n hx hb dX6_lift_11 rfl (lv_at hl 0 rfl) ?_
  refine lv_aload_n hx hb dX6_lift_12 rfl (lv_at hl 0 rfl) ?_
  refine fa_getr (k := 0) (j := 1) CX HX1460 fl_X6_10 (by omega) rfl rfl (fa_CI.A hC_v1459).1 dX6_lift_13 ?_
  refine lv_iload_n hx hb dX6_lift_16 rfl (lv_at hl 1 rfl) ?_
  refine lv_iload_n hx hb dX6_lift_17 rfl (lv_at hl 2 rfl) ?_
  refine fa_callViu (As := [.int (a1), .int (a2)]) (rest := [.ref (fa_B G + (0))]) CX HX1460 (g_takeSeal l G n hn v1459 r 1 (by decide) (fa_CI.S hC_v1459 1 (by decide)).1 (fa_CI.S hC_v1459 1 (by decide)).2 (a1) (a2) ) ln_X6_52 (fa_lt (by decide) 0 (by decide) hn) (fa_s0 (by decide)) rfl rfl rfl (Nat.le_of_ble_eq_true rfl) hl.1 ⟨Nat.le_of_ble_eq_true rfl, Nat.le_of_ble_eq_true rfl⟩ ⟨Nat.le_refl _, Nat.le_refl _⟩ dX6_lift_18 (fun x1462 v1463 H locs h1461 HX1464 => ?_)
  have h_takeSeal := h1461.1
  have hIS_v1463 : fa_IS v1463 1 := h1461.1
  have hC_v1463 : fa_CI v1463 r := fa_CI.st hC_v1459 (by decide) hIS_v1463 (fa_CI.S hC_v1459 1 (by decide)).1 (fa_fr.wide h1461.2 (by omega) (by omega)) (fun _ _ => rfl)
  refine fa_callVi (As := [.int (x1462)]) (rest := []) CX HX1464 (g_recorded l G n hn v1463 r hC_v1463 (x1462)) ln_X6_41 (by omega) rfl rfl rfl rfl (Nat.le_of_ble_eq_true rfl) hl.1 ⟨Nat.le_of_ble_eq_true rfl, Nat.le_of_ble_eq_true rfl⟩ ⟨Nat.le_refl _, Nat.le_refl _⟩ dX6_lift_21 (fun x1466 v1467 r1468 H locs h1465 HX1469 => ?_)
  dsimp only at h1465
  have hC_v1467 := h1465.2.1
  have h_recorded := h1465.1
  exact RET _ _ _ _ _ _ _ HX1469 dX6_lift_24 (⟨hC_v1467, (fa_fr.tr (fa_fr.tr (fa_fr.tr fa_fr.rf (fa_fr.wide h1458.2 (by omega) (by omega))) (fa_fr.wide h1461.2 (by omega) (by omega))) (fa_fr.wide h1465.2.2.1 (by omega) (by omega))), (fun k hk => ((h1465.2.2.2 k hk).trans rfl))⟩)
set_option maxHeartbeats 4000000 in
set_option maxRecDepth 100000 in
theorem g_refer (l : Launch) (G : fa_G) (n : Nat) (hn : 397 ≤ n) (v : fa_V) (r : fa_R) (hC : fa_CI v r) (a1 : Int32) (a2 : Int32) : fa_MI l G n yX6_refer cX6_refer 3 (some .int) 6 [.ref (fa_B G + (0)), .int (a1), .int (a2)] v r (fun x w => (fa_CI w.1 w.2) ∧ (fa_fr 0 395 v w.1) ∧ (∀ k, 395 ≤ k → w.2 k = r k)) := by
  refine fa_startI (by decide +kernel) (Nat.le_of_ble_eq_true rfl) (fun p e s m args below meth c ls Q CX hl HX RET => ?_)
  have hl : lv_has ls 3 [(0, .ref (fa_B G + (0))), (1, .int (a1)), (2, .int (a2))] := hl
  have hx := CX.1.1
  have hb := CX.1.2.1
  have hB : (1 : Nat) ∈ fa_bs := by decide
  refine lv_aload_n hx hb dX6_refer_0 rfl (lv_at hl 0 rfl) ?_
  refine fa_getr (k := 0) (j := 113) CX HX fl_X6_22 (by omega) rfl rfl (fa_CI.A hC).2.2.1 dX6_refer_1 ?_
  refine lv_aload_n hx hb dX6_refer_4 rfl (lv_at hl 0 rfl) ?_
  refine fa_getr (k := 0) (j := 1) CX HX fl_X6_10 (by omega) rfl rfl (fa_CI.A hC).1 dX6_refer_5 ?_
  refine fa_callVvu (As := [.ref (fa_B G + (1))]) (rest := []) CX HX (g_draft l G n hn v r hC ) ln_X6_33 (by omega) rfl rfl rfl rfl (Nat.le_of_ble_eq_true rfl) hl.1 ⟨Nat.le_of_ble_eq_true rfl, Nat.le_of_ble_eq_true rfl⟩ ⟨Nat.le_refl _, Nat.le_refl _⟩ dX6_refer_8 (fun v1471 H locs h1470 HX1472 => ?_)
  have hC_v1471 := h1470.1
  refine lv_aload_n hx hb dX6_refer_11 rfl (lv_at hl 0 rfl) ?_
  refine lv_aload_n hx hb dX6_refer_12 rfl (lv_at hl 0 rfl) ?_
  refine fa_getr (k := 0) (j := 1) CX HX1472 fl_X6_10 (by omega) rfl rfl (fa_CI.A hC_v1471).1 dX6_refer_13 ?_
  refine lv_iload_n hx hb dX6_refer_16 rfl (lv_at hl 1 rfl) ?_
  refine lv_iload_n hx hb dX6_refer_17 rfl (lv_at hl 2 rfl) ?_
  refine fa_callViu (As := [.int (a1), .int (a2)]) (rest := [.ref (fa_B G + (0))]) CX HX1472 (g_putReference l G n hn v1471 r 1 (by decide) (fa_CI.S hC_v1471 1 (by decide)).1 (fa_CI.S hC_v1471 1 (by decide)).2 (a1) (a2) ) ln_X6_55 (fa_lt (by decide) 0 (by decide) hn) (fa_s0 (by decide)) rfl rfl rfl (Nat.le_of_ble_eq_true rfl) hl.1 ⟨Nat.le_of_ble_eq_true rfl, Nat.le_of_ble_eq_true rfl⟩ ⟨Nat.le_refl _, Nat.le_refl _⟩ dX6_refer_18 (fun x1474 v1475 H locs h1473 HX1476 => ?_)
  have h_putReference := h1473.1
  have hIS_v1475 : fa_IS v1475 1 := h1473.1
  have hC_v1475 : fa_CI v1475 r := fa_CI.st hC_v1471 (by decide) hIS_v1475 (fa_CI.S hC_v1471 1 (by decide)).1 (fa_fr.wide h1473.2 (by omega) (by omega)) (fun _ _ => rfl)
  refine fa_callVi (As := [.int (x1474)]) (rest := []) CX HX1476 (g_recorded l G n hn v1475 r hC_v1475 (x1474)) ln_X6_41 (by omega) rfl rfl rfl rfl (Nat.le_of_ble_eq_true rfl) hl.1 ⟨Nat.le_of_ble_eq_true rfl, Nat.le_of_ble_eq_true rfl⟩ ⟨Nat.le_refl _, Nat.le_refl _⟩ dX6_refer_21 (fun x1478 v1479 r1480 H locs h1477 HX1481 => ?_)
  dsimp only at h1477
  have hC_v1479 := h1477.2.1
  have h_recorded := h1477.1
  exact RET _ _ _ _ _ _ _ HX1481 dX6_refer_24 (⟨hC_v1479, (fa_fr.tr (fa_fr.tr (fa_fr.tr fa_fr.rf (fa_fr.wide h1470.2 (by omega) (by omega))) (fa_fr.wide h1473.2 (by omega) (by omega))) (fa_fr.wide h1477.2.2.1 (by omega) (by omega))), (fun k hk => ((h1477.2.2.2 k hk).trans rfl))⟩)
set_option maxHeartbeats 4000000 in
set_option maxRecDepth 100000 in
theorem g_reserve (l : Launch) (G : fa_G) (n : Nat) (hn : 397 ≤ n) (v : fa_V) (r : fa_R) (hC : fa_CI v r) (a1 : Int32) (a2 : Int32) : fa_MI l G n yX6_reserve cX6_reserve 3 (some .int) 6 [.ref (fa_B G + (0)), .int (a1), .int (a2)] v r (fun x w => (fa_CI w.1 w.2) ∧ (fa_fr 0 395 v w.1) ∧ (∀ k, 395 ≤ k → w.2 k = r k)) := by
  refine fa_startI (by decide +kernel) (Nat.le_of_ble_eq_true rfl) (fun p e s m args below meth c ls Q CX hl HX RET => ?_)
  have hl : lv_has ls 3 [(0, .ref (fa_B G + (0))), (1, .int (a1)), (2, .int (a2))] := hl
  have hx := CX.1.1
  have hb := CX.1.2.1
  have hB : (1 : Nat) ∈ fa_bs := by decide
  refine lv_aload_n hx hb dX6_reserve_0 rfl (lv_at hl 0 rfl) ?_
  refine fa_getr (k := 0) (j := 113) CX HX fl_X6_22 (by omega) rfl rfl (fa_CI.A hC).2.2.1 dX6_reserve_1 ?_
  refine lv_aload_n hx hb dX6_reserve_4 rfl (lv_at hl 0 rfl) ?_
  refine fa_getr (k := 0) (j := 1) CX HX fl_X6_10 (by omega) rfl rfl (fa_CI.A hC).1 dX6_reserve_5 ?_
  refine fa_callVvu (As := [.ref (fa_B G + (1))]) (rest := []) CX HX (g_draft l G n hn v r hC ) ln_X6_33 (by omega) rfl rfl rfl rfl (Nat.le_of_ble_eq_true rfl) hl.1 ⟨Nat.le_of_ble_eq_true rfl, Nat.le_of_ble_eq_true rfl⟩ ⟨Nat.le_refl _, Nat.le_refl _⟩ dX6_reserve_8 (fun v1483 H locs h1482 HX1484 => ?_)
  have hC_v1483 := h1482.1
  refine lv_aload_n hx hb dX6_reserve_11 rfl (lv_at hl 0 rfl) ?_
  refine lv_aload_n hx hb dX6_reserve_12 rfl (lv_at hl 0 rfl) ?_
  refine fa_getr (k := 0) (j := 1) CX HX1484 fl_X6_10 (by omega) rfl rfl (fa_CI.A hC_v1483).1 dX6_reserve_13 ?_
  refine lv_iload_n hx hb dX6_reserve_16 rfl (lv_at hl 1 rfl) ?_
  refine lv_iload_n hx hb dX6_reserve_17 rfl (lv_at hl 2 rfl) ?_
  refine fa_callViu (As := [.int (a1), .int (a2)]) (rest := [.ref (fa_B G + (0))]) CX HX1484 (g_putReservation l G n hn v1483 r 1 (by decide) (fa_CI.S hC_v1483 1 (by decide)).1 (fa_CI.S hC_v1483 1 (by decide)).2 (a1) (a2) ) ln_X6_58 (fa_lt (by decide) 0 (by decide) hn) (fa_s0 (by decide)) rfl rfl rfl (Nat.le_of_ble_eq_true rfl) hl.1 ⟨Nat.le_of_ble_eq_true rfl, Nat.le_of_ble_eq_true rfl⟩ ⟨Nat.le_refl _, Nat.le_refl _⟩ dX6_reserve_18 (fun x1486 v1487 H locs h1485 HX1488 => ?_)
  have h_putReservation := h1485.1
  have hIS_v1487 : fa_IS v1487 1 := h1485.1
  have hC_v1487 : fa_CI v1487 r := fa_CI.st hC_v1483 (by decide) hIS_v1487 (fa_CI.S hC_v1483 1 (by decide)).1 (fa_fr.wide h1485.2 (by omega) (by omega)) (fun _ _ => rfl)
  refine fa_callVi (As := [.int (x1486)]) (rest := []) CX HX1488 (g_recorded l G n hn v1487 r hC_v1487 (x1486)) ln_X6_41 (by omega) rfl rfl rfl rfl (Nat.le_of_ble_eq_true rfl) hl.1 ⟨Nat.le_of_ble_eq_true rfl, Nat.le_of_ble_eq_true rfl⟩ ⟨Nat.le_refl _, Nat.le_refl _⟩ dX6_reserve_21 (fun x1490 v1491 r1492 H locs h1489 HX1493 => ?_)
  dsimp only at h1489
  have hC_v1491 := h1489.2.1
  have h_recorded := h1489.1
  exact RET _ _ _ _ _ _ _ HX1493 dX6_reserve_24 (⟨hC_v1491, (fa_fr.tr (fa_fr.tr (fa_fr.tr fa_fr.rf (fa_fr.wide h1482.2 (by omega) (by omega))) (fa_fr.wide h1485.2 (by omega) (by omega))) (fa_fr.wide h1489.2.2.1 (by omega) (by omega))), (fun k hk => ((h1489.2.2.2 k hk).trans rfl))⟩)
set_option maxHeartbeats 4000000 in
set_option maxRecDepth 100000 in
theorem g_cancel (l : Launch) (G : fa_G) (n : Nat) (hn : 397 ≤ n) (v : fa_V) (r : fa_R) (hC : fa_CI v r) (a1 : Int32) (a2 : Int32) : fa_MI l G n yX6_cancel cX6_cancel 3 (some .int) 6 [.ref (fa_B G + (0)), .int (a1), .int (a2)] v r (fun x w => (fa_CI w.1 w.2) ∧ (fa_fr 0 395 v w.1) ∧ (∀ k, 395 ≤ k → w.2 k = r k)) := by
  refine fa_startI (by decide +kernel) (Nat.le_of_ble_eq_true rfl) (fun p e s m args below meth c ls Q CX hl HX RET => ?_)
  have hl : lv_has ls 3 [(0, .ref (fa_B G + (0))), (1, .int (a1)), (2, .int (a2))] := hl
  have hx := CX.1.1
  have hb := CX.1.2.1
  have hB : (1 : Nat) ∈ fa_bs := by decide
  refine lv_aload_n hx hb dX6_cancel_0 rfl (lv_at hl 0 rfl) ?_
  refine fa_getr (k := 0) (j := 113) CX HX fl_X6_22 (by omega) rfl rfl (fa_CI.A hC).2.2.1 dX6_cancel_1 ?_
  refine lv_aload_n hx hb dX6_cancel_4 rfl (lv_at hl 0 rfl) ?_
  refine fa_getr (k := 0) (j := 1) CX HX fl_X6_10 (by omega) rfl rfl (fa_CI.A hC).1 dX6_cancel_5 ?_
  refine fa_callVvu (As := [.ref (fa_B G + (1))]) (rest := []) CX HX (g_draft l G n hn v r hC ) ln_X6_33 (by omega) rfl rfl rfl rfl (Nat.le_of_ble_eq_true rfl) hl.1 ⟨Nat.le_of_ble_eq_true rfl, Nat.le_of_ble_eq_true rfl⟩ ⟨Nat.le_refl _, Nat.le_refl _⟩ dX6_cancel_8 (fun v1495 H locs h1494 HX1496 => ?_)
  have hC_v1495 := h1494.1
  refine lv_aload_n hx hb dX6_cancel_11 rfl (lv_at hl 0 rfl) ?_
  refine lv_aload_n hx hb dX6_cancel_12 rfl (lv_at hl 0 rfl) ?_
  refine fa_getr (k := 0) (j := 1) CX HX1496 fl_X6_10 (by omega) rfl rfl (fa_CI.A hC_v1495).1 dX6_cancel_13 ?_
  refine lv_iload_n hx hb dX6_cancel_16 rfl (lv_at hl 1 rfl) ?_
  refine lv_iload_n hx hb dX6_cancel_17 rfl (lv_at hl 2 rfl) ?_
  refine fa_callViu (As := [.int (a1), .int (a2)]) (rest := [.ref (fa_B G + (0))]) CX HX1496 (g_takeReservation l G n hn v1495 r 1 (by decide) (fa_CI.S hC_v1495 1 (by decide)).1 (fa_CI.S hC_v1495 1 (by decide)).2 (a1) (a2) ) ln_X6_61 (fa_lt (by decide) 0 (by decide) hn) (fa_s0 (by decide)) rfl rfl rfl (Nat.le_of_ble_eq_true rfl) hl.1 ⟨Nat.le_of_ble_eq_true rfl, Nat.le_of_ble_eq_true rfl⟩ ⟨Nat.le_refl _, Nat.le_refl _⟩ dX6_cancel_18 (fun x1498 v1499 H locs h1497 HX1500 => ?_)
  have h_takeReservation := h1497.1
  have hIS_v1499 : fa_IS v1499 1 := h1497.1
  have hC_v1499 : fa_CI v1499 r := fa_CI.st hC_v1495 (by decide) hIS_v1499 (fa_CI.S hC_v1495 1 (by decide)).1 (fa_fr.wide h1497.2 (by omega) (by omega)) (fun _ _ => rfl)
  refine fa_callVi (As := [.int (x1498)]) (rest := []) CX HX1500 (g_recorded l G n hn v1499 r hC_v1499 (x1498)) ln_X6_41 (by omega) rfl rfl rfl rfl (Nat.le_of_ble_eq_true rfl) hl.1 ⟨Nat.le_of_ble_eq_true rfl, Nat.le_of_ble_eq_true rfl⟩ ⟨Nat.le_refl _, Nat.le_refl _⟩ dX6_cancel_21 (fun x1502 v1503 r1504 H locs h1501 HX1505 => ?_)
  dsimp only at h1501
  have hC_v1503 := h1501.2.1
  have h_recorded := h1501.1
  exact RET _ _ _ _ _ _ _ HX1505 dX6_cancel_24 (⟨hC_v1503, (fa_fr.tr (fa_fr.tr (fa_fr.tr fa_fr.rf (fa_fr.wide h1494.2 (by omega) (by omega))) (fa_fr.wide h1497.2 (by omega) (by omega))) (fa_fr.wide h1501.2.2.1 (by omega) (by omega))), (fun k hk => ((h1501.2.2.2 k hk).trans rfl))⟩)
set_option maxHeartbeats 4000000 in
set_option maxRecDepth 100000 in
theorem g_pass (l : Launch) (G : fa_G) (n : Nat) (hn : 397 ≤ n) (v : fa_V) (r : fa_R) (hC : fa_CI v r) (a1 : Int32) : fa_MI l G n yX6_pass cX6_pass 2 (some .int) 8 [.ref (fa_B G + (0)), .int (a1)] v r (fun x w => (fa_CI w.1 w.2) ∧ (fa_fr 0 395 v w.1) ∧ (∀ k, 395 ≤ k → w.2 k = r k)) := by
  refine fa_startI (by decide +kernel) (Nat.le_of_ble_eq_true rfl) (fun p e s m args below meth c ls Q CX hl HX RET => ?_)
  have hl : lv_has ls 2 [(0, .ref (fa_B G + (0))), (1, .int (a1))] := hl
  have hx := CX.1.1
  have hb := CX.1.2.1
  have hB : (1 : Nat) ∈ fa_bs := by decide
  refine lv_aload_n hx hb dX6_pass_0 rfl (lv_at hl 0 rfl) ?_
  refine fa_getr (k := 0) (j := 113) CX HX fl_X6_22 (by omega) rfl rfl (fa_CI.A hC).2.2.1 dX6_pass_1 ?_
  refine lv_aload_n hx hb dX6_pass_4 rfl (lv_at hl 0 rfl) ?_
  refine fa_getr (k := 0) (j := 1) CX HX fl_X6_10 (by omega) rfl rfl (fa_CI.A hC).1 dX6_pass_5 ?_
  refine fa_callVvu (As := [.ref (fa_B G + (1))]) (rest := []) CX HX (g_draft l G n hn v r hC ) ln_X6_33 (by omega) rfl rfl rfl rfl (Nat.le_of_ble_eq_true rfl) hl.1 ⟨Nat.le_of_ble_eq_true rfl, Nat.le_of_ble_eq_true rfl⟩ ⟨Nat.le_refl _, Nat.le_refl _⟩ dX6_pass_8 (fun v1507 H locs h1506 HX1508 => ?_)
  have hC_v1507 := h1506.1
  refine lv_aload_n hx hb dX6_pass_11 rfl (lv_at hl 0 rfl) ?_
  refine lv_aload_n hx hb dX6_pass_12 rfl (lv_at hl 0 rfl) ?_
  refine fa_getr (k := 0) (j := 1) CX HX1508 fl_X6_10 (by omega) rfl rfl (fa_CI.A hC_v1507).1 dX6_pass_13 ?_
  refine lv_iload_n hx hb dX6_pass_16 rfl (lv_at hl 1 rfl) ?_
  refine fa_callVi (As := [.int (a1)]) (rest := [.ref (fa_B G + (0))]) CX HX1508 (g_passDays l G n hn v1507 r 1 (by decide) (fa_CI.S hC_v1507 1 (by decide)).1 (fa_CI.S hC_v1507 1 (by decide)).2 (a1) ) ln_X6_64 (fa_lt (by decide) 0 (by decide) hn) (fa_s0 (by decide)) rfl rfl rfl (Nat.le_of_ble_eq_true rfl) hl.1 ⟨Nat.le_of_ble_eq_true rfl, Nat.le_of_ble_eq_true rfl⟩ ⟨Nat.le_refl _, Nat.le_refl _⟩ dX6_pass_17 (fun x1510 v1511 r1512 H locs h1509 HX1513 => ?_)
  dsimp only at h1509
  have hIS_v1511 := h1509.1
  have hr1_r1512 := h1509.2.1
  have hrr_r1512 := h1509.2.2.2
  have hC_v1511 : fa_CI v1511 r1512 := fa_CI.st hC_v1507 (by decide) hIS_v1511 hr1_r1512 (fa_fr.wide h1509.2.2.1 (by omega) (by omega)) h1509.2.2.2
  refine fa_callVi (As := [.int (x1510)]) (rest := []) CX HX1513 (g_recorded l G n hn v1511 r1512 hC_v1511 (x1510)) ln_X6_41 (by omega) rfl rfl rfl rfl (Nat.le_of_ble_eq_true rfl) hl.1 ⟨Nat.le_of_ble_eq_true rfl, Nat.le_of_ble_eq_true rfl⟩ ⟨Nat.le_refl _, Nat.le_refl _⟩ dX6_pass_20 (fun x1515 v1516 r1517 H locs h1514 HX1518 => ?_)
  dsimp only at h1514
  have hC_v1516 := h1514.2.1
  have h_recorded := h1514.1
  exact RET _ _ _ _ _ _ _ HX1518 dX6_pass_23 (⟨hC_v1516, (fa_fr.tr (fa_fr.tr (fa_fr.tr fa_fr.rf (fa_fr.wide h1506.2 (by omega) (by omega))) (fa_fr.wide h1509.2.2.1 (by omega) (by omega))) (fa_fr.wide h1514.2.2.1 (by omega) (by omega))), (fun k hk => ((h1514.2.2.2 k hk).trans ((h1509.2.2.2 k (by omega)).trans rfl)))⟩)
set_option maxHeartbeats 4000000 in
set_option maxRecDepth 100000 in
theorem g_set (l : Launch) (G : fa_G) (n : Nat) (hn : 397 ≤ n) (v : fa_V) (r : fa_R) (hC : fa_CI v r) (a1 : Int32) (a2 : Int32) : fa_MI l G n yX6_set cX6_set 3 (some .int) 6 [.ref (fa_B G + (0)), .int (a1), .int (a2)] v r (fun x w => (fa_CI w.1 w.2) ∧ (fa_fr 0 395 v w.1) ∧ (∀ k, 395 ≤ k → w.2 k = r k)) := by
  refine fa_startI (by decide +kernel) (Nat.le_of_ble_eq_true rfl) (fun p e s m args below meth c ls Q CX hl HX RET => ?_)
  have hl : lv_has ls 3 [(0, .ref (fa_B G + (0))), (1, .int (a1)), (2, .int (a2))] := hl
  have hx := CX.1.1
  have hb := CX.1.2.1
  have hB : (1 : Nat) ∈ fa_bs := by decide
  refine lv_aload_n hx hb dX6_set_0 rfl (lv_at hl 0 rfl) ?_
  refine fa_getr (k := 0) (j := 113) CX HX fl_X6_22 (by omega) rfl rfl (fa_CI.A hC).2.2.1 dX6_set_1 ?_
  refine lv_aload_n hx hb dX6_set_4 rfl (lv_at hl 0 rfl) ?_
  refine fa_getr (k := 0) (j := 1) CX HX fl_X6_10 (by omega) rfl rfl (fa_CI.A hC).1 dX6_set_5 ?_
  refine fa_callVvu (As := [.ref (fa_B G + (1))]) (rest := []) CX HX (g_draft l G n hn v r hC ) ln_X6_33 (by omega) rfl rfl rfl rfl (Nat.le_of_ble_eq_true rfl) hl.1 ⟨Nat.le_of_ble_eq_true rfl, Nat.le_of_ble_eq_true rfl⟩ ⟨Nat.le_refl _, Nat.le_refl _⟩ dX6_set_8 (fun v1520 H locs h1519 HX1521 => ?_)
  have hC_v1520 := h1519.1
  refine lv_aload_n hx hb dX6_set_11 rfl (lv_at hl 0 rfl) ?_
  refine lv_aload_n hx hb dX6_set_12 rfl (lv_at hl 0 rfl) ?_
  refine fa_getr (k := 0) (j := 1) CX HX1521 fl_X6_10 (by omega) rfl rfl (fa_CI.A hC_v1520).1 dX6_set_13 ?_
  refine lv_iload_n hx hb dX6_set_16 rfl (lv_at hl 1 rfl) ?_
  refine lv_iload_n hx hb dX6_set_17 rfl (lv_at hl 2 rfl) ?_
  refine fa_callViu (As := [.int (a1), .int (a2)]) (rest := [.ref (fa_B G + (0))]) CX HX1521 (g_changeSetting l G n hn v1520 r 1 (by decide) (fa_CI.S hC_v1520 1 (by decide)).1 (fa_CI.S hC_v1520 1 (by decide)).2 (a1) (a2) ) ln_X6_67 (fa_lt (by decide) 0 (by decide) hn) (fa_s0 (by decide)) rfl rfl rfl (Nat.le_of_ble_eq_true rfl) hl.1 ⟨Nat.le_of_ble_eq_true rfl, Nat.le_of_ble_eq_true rfl⟩ ⟨Nat.le_refl _, Nat.le_refl _⟩ dX6_set_18 (fun x1523 v1524 H locs h1522 HX1525 => ?_)
  have h_changeSetting := h1522.1
  have hIS_v1524 : fa_IS v1524 1 := h1522.1
  have hC_v1524 : fa_CI v1524 r := fa_CI.st hC_v1520 (by decide) hIS_v1524 (fa_CI.S hC_v1520 1 (by decide)).1 (fa_fr.wide h1522.2 (by omega) (by omega)) (fun _ _ => rfl)
  refine fa_callVi (As := [.int (x1523)]) (rest := []) CX HX1525 (g_recorded l G n hn v1524 r hC_v1524 (x1523)) ln_X6_41 (by omega) rfl rfl rfl rfl (Nat.le_of_ble_eq_true rfl) hl.1 ⟨Nat.le_of_ble_eq_true rfl, Nat.le_of_ble_eq_true rfl⟩ ⟨Nat.le_refl _, Nat.le_refl _⟩ dX6_set_21 (fun x1527 v1528 r1529 H locs h1526 HX1530 => ?_)
  dsimp only at h1526
  have hC_v1528 := h1526.2.1
  have h_recorded := h1526.1
  exact RET _ _ _ _ _ _ _ HX1530 dX6_set_24 (⟨hC_v1528, (fa_fr.tr (fa_fr.tr (fa_fr.tr fa_fr.rf (fa_fr.wide h1519.2 (by omega) (by omega))) (fa_fr.wide h1522.2 (by omega) (by omega))) (fa_fr.wide h1526.2.2.1 (by omega) (by omega))), (fun k hk => ((h1526.2.2.2 k hk).trans rfl))⟩)
