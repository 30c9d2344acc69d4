set_option maxHeartbeats 4000000 in
set_option maxRecDepth 100000 in
theorem g_recorded (l : Launch) (G : fa_G) (n : Nat) (hn : 397 ≤ n) (v : fa_V) (r : fa_R) (hC : fa_CI v r) (a1 : Int32) : fa_MI l G n yX6_recorded cX6_recorded 2 (some .int) 2 [.ref (fa_B G + (0)), .int (a1)] v r (fun x w => (x = a1 ∧ ((¬ (0 ≤ a1 ∨ a1 = (-6 : Int32)) ∧ w.1 = v ∧ w.2 = r) ∨ ((0 ≤ a1 ∨ a1 = (-6 : Int32)) ∧ fa_kd v r w.1 w.2))) ∧ (fa_CI w.1 w.2) ∧ (fa_fr 113 114 v w.1) ∧ (∀ k, 395 ≤ k → w.2 k = r k)) := by
  refine fa_startI (by decide +kernel) (Nat.le_of_ble_eq_true rfl) (fun p e s m args below meth c ls Q CX hl HX RET => ?_)
  have hl : lv_has ls 2 [(0, .ref (fa_B G + (0))), (1, .int (a1))] := hl
  have hx := CX.1.1
  have hb := CX.1.2.1
  have hB : (1 : Nat) ∈ fa_bs := by decide
  refine lv_iload_n hx hb dX6_recorded_0 rfl (lv_at hl 1 rfl) ?_
  refine fa_callSip (As := [.int (a1)]) (rest := []) CX HX (c_X6_isError l G n v r (a1)) ln_X6_95 rfl rfl (Nat.le_of_ble_eq_true rfl) hl.1 ⟨Nat.le_of_ble_eq_true rfl, Nat.le_of_ble_eq_true rfl⟩ ⟨Nat.le_refl _, Nat.le_refl _⟩ dX6_recorded_1 (fun x1411 H locs h1410 HX1412 => ?_)
  have h_isError := h1410
  refine lv_if_ne (tgt := 14) hx hb dX6_recorded_4 (by decide) (fun c_4 => ?_) (fun c_4 => ?_)
  · refine lv_iload_n hx hb dX6_recorded_14 rfl (lv_at hl 1 rfl) ?_
    exact RET _ _ _ _ _ _ _ HX1412 dX6_recorded_15 (⟨⟨rfl, Or.inl ⟨fa_err1 h_isError c_4, rfl, rfl⟩⟩, hC, fa_fr.rf, (fun k hk => rfl)⟩)
  · refine lv_aload_n hx hb dX6_recorded_7 rfl (lv_at hl 0 rfl) ?_
    refine fa_getr (k := 0) (j := 113) CX HX1412 fl_X6_22 (by omega) rfl rfl (fa_CI.A hC).2.2.1 dX6_recorded_8 ?_
    refine fa_callVv (As := []) (rest := []) CX HX1412 (g_keepDraft l G n hn v r hC ) ln_X6_106 (by omega) rfl rfl rfl rfl (Nat.le_of_ble_eq_true rfl) hl.1 ⟨Nat.le_of_ble_eq_true rfl, Nat.le_of_ble_eq_true rfl⟩ ⟨Nat.le_refl _, Nat.le_refl _⟩ dX6_recorded_11 (fun v1414 r1415 H locs h1413 HX1416 => ?_)
    dsimp only at h1413
    have hC_v1414 := h1413.2.1
    have h_keepDraft := h1413.1
    refine lv_iload_n hx hb dX6_recorded_14 rfl (lv_at hl 1 rfl) ?_
    exact RET _ _ _ _ _ _ _ HX1416 dX6_recorded_15 (⟨⟨rfl, Or.inr ⟨fa_err0 h_isError c_4, h_keepDraft⟩⟩, hC_v1414, (fa_fr.tr fa_fr.rf (fa_fr.wide h1413.2.2.1 (by omega) (by omega))), (fun k hk => ((h1413.2.2.2 k hk).trans rfl))⟩)
set_option maxHeartbeats 4000000 in
set_option maxRecDepth 100000 in
theorem g_add (l : Launch) (G : fa_G) (n : Nat) (hn : 397 ≤ n) (v : fa_V) (r : fa_R) (hC : fa_CI v r) (a1 : Int32) (a2 : Int32) : fa_MI l G n yX6_add cX6_add 3 (some .int) 6 [.ref (fa_B G + (0)), .int (a1), .int (a2)] v r (fun x w => (∀ A H, fb_CV v r A H → x = (fb_addA A a1 a2).1 ∧ fb_CV w.1 w.2 (fb_addA A a1 a2).2 (fb_rec H A (fb_addA A a1 a2).1)) ∧ (fa_CI w.1 w.2) ∧ (fa_fr 1 395 v w.1) ∧ (∀ k, 395 ≤ k → w.2 k = r k)) := by
  refine fa_startI (by decide +kernel) (Nat.le_of_ble_eq_true rfl) (fun p e s m args below meth c ls Q CX hl HX RET => ?_)
  have hl : lv_has ls 3 [(0, .ref (fa_B G + (0))), (1, .int (a1)), (2, .int (a2))] := hl
  have hx := CX.1.1
  have hb := CX.1.2.1
  have hB : (1 : Nat) ∈ fa_bs := by decide
  refine lv_aload_n hx hb dX6_add_0 rfl (lv_at hl 0 rfl) ?_
  refine fa_getr (k := 0) (j := 113) CX HX fl_X6_22 (by omega) rfl rfl (fa_CI.A hC).2.2.1 dX6_add_1 ?_
  refine lv_aload_n hx hb dX6_add_4 rfl (lv_at hl 0 rfl) ?_
  refine fa_getr (k := 0) (j := 1) CX HX fl_X6_10 (by omega) rfl rfl (fa_CI.A hC).1 dX6_add_5 ?_
  refine fa_callVvu (As := [.ref (fa_B G + (1))]) (rest := []) CX HX (g_draft l G n hn v r hC ) ln_X6_33 (by omega) rfl rfl rfl rfl (Nat.le_of_ble_eq_true rfl) hl.1 ⟨Nat.le_of_ble_eq_true rfl, Nat.le_of_ble_eq_true rfl⟩ ⟨Nat.le_refl _, Nat.le_refl _⟩ dX6_add_8 (fun v1418 H locs h1417 HX1419 => ?_)
  have hC_v1418 := h1417.1.2
  have h_draft := h1417.1.1
  refine lv_aload_n hx hb dX6_add_11 rfl (lv_at hl 0 rfl) ?_
  refine lv_aload_n hx hb dX6_add_12 rfl (lv_at hl 0 rfl) ?_
  refine fa_getr (k := 0) (j := 1) CX HX1419 fl_X6_10 (by omega) rfl rfl (fa_CI.A hC_v1418).1 dX6_add_13 ?_
  refine lv_iload_n hx hb dX6_add_16 rfl (lv_at hl 1 rfl) ?_
  refine lv_iload_n hx hb dX6_add_17 rfl (lv_at hl 2 rfl) ?_
  refine fa_callViu (As := [.int (a1), .int (a2)]) (rest := [.ref (fa_B G + (0))]) CX HX1419 (g_addFile l G n hn v1418 r 1 (by decide) (fa_CI.S hC_v1418 1 (by decide)).1 (fa_CI.S hC_v1418 1 (by decide)).2 (a1) (a2) ) ln_X6_37 (fa_lt (by decide) 0 (by decide) hn) (fa_s0 (by decide)) rfl rfl rfl (Nat.le_of_ble_eq_true rfl) hl.1 ⟨Nat.le_of_ble_eq_true rfl, Nat.le_of_ble_eq_true rfl⟩ ⟨Nat.le_refl _, Nat.le_refl _⟩ dX6_add_18 (fun x1421 v1422 H locs h1420 HX1423 => ?_)
  have h_addFile := h1420.1
  have hIS_v1422 : fa_IS v1422 1 := h1420.1.2
  have hC_v1422 : fa_CI v1422 r := fa_CI.st hC_v1418 (by decide) hIS_v1422 (fa_CI.S hC_v1418 1 (by decide)).1 (fa_fr.wide h1420.2 (by omega) (by omega)) (fun _ _ => rfl)
  refine fa_callVi (As := [.int (x1421)]) (rest := []) CX HX1423 (g_recorded l G n hn v1422 r hC_v1422 (x1421)) ln_X6_41 (by omega) rfl rfl rfl rfl (Nat.le_of_ble_eq_true rfl) hl.1 ⟨Nat.le_of_ble_eq_true rfl, Nat.le_of_ble_eq_true rfl⟩ ⟨Nat.le_refl _, Nat.le_refl _⟩ dX6_add_21 (fun x1425 v1426 r1427 H locs h1424 HX1428 => ?_)
  dsimp only at h1424
  have hC_v1426 := h1424.2.1
  have h_recorded := h1424.1
  exact RET _ _ _ _ _ _ _ HX1428 dX6_add_24 (⟨(fun A H hV => fb_face hC hV h_draft h1420.2 (fun _ _ => rfl) (fun hc => h_addFile.1 A hV.1 hc) (hV.1.add a1 a2) h_recorded), hC_v1426, (fa_fr.tr (fa_fr.tr (fa_fr.tr fa_fr.rf (fa_fr.wide h1417.2 (by omega) (by omega))) (fa_fr.wide h1420.2 (by omega) (by omega))) (fa_fr.wide h1424.2.2.1 (by omega) (by omega))), (fun k hk => ((h1424.2.2.2 k hk).trans rfl))⟩)
set_option maxHeartbeats 4000000 in
set_option maxRecDepth 100000 in
theorem g_ask (l : Launch) (G : fa_G) (n : Nat) (hn : 397 ≤ n) (v : fa_V) (r : fa_R) (hC : fa_CI v r) (a1 : Int32) : fa_MI l G n yX6_ask cX6_ask 2 (some .int) 6 [.ref (fa_B G + (0)), .int (a1)] v r (fun x w => (∀ A H, fb_CV v r A H → x = (fb_askA A a1).1 ∧ fb_CV w.1 w.2 (fb_askA A a1).2 (fb_rec H A (fb_askA A a1).1)) ∧ (fa_CI w.1 w.2) ∧ (fa_fr 1 395 v w.1) ∧ (∀ k, 395 ≤ k → w.2 k = r k)) := by
  refine fa_startI (by decide +kernel) (Nat.le_of_ble_eq_true rfl) (fun p e s m args below meth c ls Q CX hl HX RET => ?_)
  have hl : lv_has ls 2 [(0, .ref (fa_B G + (0))), (1, .int (a1))] := hl
  have hx := CX.1.1
  have hb := CX.1.2.1
  have hB : (1 : Nat) ∈ fa_bs := by decide
  refine lv_aload_n hx hb dX6_ask_0 rfl (lv_at hl 0 rfl) ?_
  refine fa_getr (k := 0) (j := 113) CX HX fl_X6_22 (by omega) rfl rfl (fa_CI.A hC).2.2.1 dX6_ask_1 ?_
  refine lv_aload_n hx hb dX6_ask_4 rfl (lv_at hl 0 rfl) ?_
  refine fa_getr (k := 0) (j := 1) CX HX fl_X6_10 (by omega) rfl rfl (fa_CI.A hC).1 dX6_ask_5 ?_
  refine fa_callVvu (As := [.ref (fa_B G + (1))]) (rest := []) CX HX (g_draft l G n hn v r hC ) ln_X6_33 (by omega) rfl rfl rfl rfl (Nat.le_of_ble_eq_true rfl) hl.1 ⟨Nat.le_of_ble_eq_true rfl, Nat.le_of_ble_eq_true rfl⟩ ⟨Nat.le_refl _, Nat.le_refl _⟩ dX6_ask_8 (fun v1430 H locs h1429 HX1431 => ?_)
  have hC_v1430 := h1429.1.2
  have h_draft := h1429.1.1
  refine lv_aload_n hx hb dX6_ask_11 rfl (lv_at hl 0 rfl) ?_
  refine lv_aload_n hx hb dX6_ask_12 rfl (lv_at hl 0 rfl) ?_
  refine fa_getr (k := 0) (j := 1) CX HX1431 fl_X6_10 (by omega) rfl rfl (fa_CI.A hC_v1430).1 dX6_ask_13 ?_
  refine lv_iload_n hx hb dX6_ask_16 rfl (lv_at hl 1 rfl) ?_
  refine fa_callViu (As := [.int (a1)]) (rest := [.ref (fa_B G + (0))]) CX HX1431 (g_askFor l G n hn v1430 r 1 (by decide) (fa_CI.S hC_v1430 1 (by decide)).1 (fa_CI.S hC_v1430 1 (by decide)).2 (a1) ) ln_X6_45 (fa_lt (by decide) 0 (by decide) hn) (fa_s0 (by decide)) rfl rfl rfl (Nat.le_of_ble_eq_true rfl) hl.1 ⟨Nat.le_of_ble_eq_true rfl, Nat.le_of_ble_eq_true rfl⟩ ⟨Nat.le_refl _, Nat.le_refl _⟩ dX6_ask_17 (fun x1433 v1434 H locs h1432 HX1435 => ?_)
  have h_askFor := h1432.1
  have hIS_v1434 : fa_IS v1434 1 := h1432.1.2
  have hC_v1434 : fa_CI v1434 r := fa_CI.st hC_v1430 (by decide) hIS_v1434 (fa_CI.S hC_v1430 1 (by decide)).1 (fa_fr.wide h1432.2 (by omega) (by omega)) (fun _ _ => rfl)
  refine fa_callVi (As := [.int (x1433)]) (rest := []) CX HX1435 (g_recorded l G n hn v1434 r hC_v1434 (x1433)) ln_X6_41 (by omega) rfl rfl rfl rfl (Nat.le_of_ble_eq_true rfl) hl.1 ⟨Nat.le_of_ble_eq_true rfl, Nat.le_of_ble_eq_true rfl⟩ ⟨Nat.le_refl _, Nat.le_refl _⟩ dX6_ask_20 (fun x1437 v1438 r1439 H locs h1436 HX1440 => ?_)
  dsimp only at h1436
  have hC_v1438 := h1436.2.1
  have h_recorded := h1436.1
  exact RET _ _ _ _ _ _ _ HX1440 dX6_ask_23 (⟨(fun A H hV => fb_face hC hV h_draft h1432.2 (fun _ _ => rfl) (fun hc => h_askFor.1 A hV.1 hc) (hV.1.ask a1) h_recorded), hC_v1438, (fa_fr.tr (fa_fr.tr (fa_fr.tr fa_fr.rf (fa_fr.wide h1429.2 (by omega) (by omega))) (fa_fr.wide h1432.2 (by omega) (by omega))) (fa_fr.wide h1436.2.2.1 (by omega) (by omega))), (fun k hk => ((h1436.2.2.2 k hk).trans rfl))⟩)
set_option maxHeartbeats 4000000 in
set_option maxRecDepth 100000 in
theorem g_seal (l : Launch) (G : fa_G) (n : Nat) (hn : 397 ≤ n) (v : fa_V) (r : fa_R) (hC : fa_CI v r) (a1 : Int32) (a2 : Int32) (a3 : Int32) : fa_MI l G n yX6_seal cX6_seal 4 (some .int) 6 [.ref (fa_B G + (0)), .int (a1), .int (a2), .int (a3)] v r (fun x w => (∀ A H, fb_CV v r A H → x = (fb_sealA A a1 a2 a3).1 ∧ fb_CV w.1 w.2 (fb_sealA A a1 a2 a3).2 (fb_rec H A (fb_sealA A a1 a2 a3).1)) ∧ (fa_CI w.1 w.2) ∧ (fa_fr 1 395 v w.1) ∧ (∀ k, 395 ≤ k → w.2 k = r k)) := by
  refine fa_startI (by decide +kernel) (Nat.le_of_ble_eq_true rfl) (fun p e s m args below meth c ls Q CX hl HX RET => ?_)
  have hl : lv_has ls 4 [(0, .ref (fa_B G + (0))), (1, .int (a1)), (2, .int (a2)), (3, .int (a3))] := hl
  have hx := CX.1.1
  have hb := CX.1.2.1
  have hB : (1 : Nat) ∈ fa_bs := by decide
  refine lv_aload_n hx hb dX6_seal_0 rfl (lv_at hl 0 rfl) ?_
  refine fa_getr (k := 0) (j := 113) CX HX fl_X6_22 (by omega) rfl rfl (fa_CI.A hC).2.2.1 dX6_seal_1 ?_
  refine lv_aload_n hx hb dX6_seal_4 rfl (lv_at hl 0 rfl) ?_
  refine fa_getr (k := 0) (j := 1) CX HX fl_X6_10 (by omega) rfl rfl (fa_CI.A hC).1 dX6_seal_5 ?_
  refine fa_callVvu (As := [.ref (fa_B G + (1))]) (rest := []) CX HX (g_draft l G n hn v r hC ) ln_X6_33 (by omega) rfl rfl rfl rfl (Nat.le_of_ble_eq_true rfl) hl.1 ⟨Nat.le_of_ble_eq_true rfl, Nat.le_of_ble_eq_true rfl⟩ ⟨Nat.le_refl _, Nat.le_refl _⟩ dX6_seal_8 (fun v1442 H locs h1441 HX1443 => ?_)
  have hC_v1442 := h1441.1.2
  have h_draft := h1441.1.1
  refine lv_aload_n hx hb dX6_seal_11 rfl (lv_at hl 0 rfl) ?_
  refine lv_aload_n hx hb dX6_seal_12 rfl (lv_at hl 0 rfl) ?_
  refine fa_getr (k := 0) (j := 1) CX HX1443 fl_X6_10 (by omega) rfl rfl (fa_CI.A hC_v1442).1 dX6_seal_13 ?_
  refine lv_iload_n hx hb dX6_seal_16 rfl (lv_at hl 1 rfl) ?_
  refine lv_iload_n hx hb dX6_seal_17 rfl (lv_at hl 2 rfl) ?_
  refine lv_iload_n hx hb dX6_seal_18 rfl (lv_at hl 3 rfl) ?_
  refine fa_callViu (As := [.int (a1), .int (a2), .int (a3)]) (rest := [.ref (fa_B G + (0))]) CX HX1443 (g_putSeal l G n hn v1442 r 1 (by decide) (fa_CI.S hC_v1442 1 (by decide)).1 (fa_CI.S hC_v1442 1 (by decide)).2 (a1) (a2) (a3) ) ln_X6_48 (fa_lt (by decide) 0 (by decide) hn) (fa_s0 (by decide)) rfl rfl rfl (Nat.le_of_ble_eq_true rfl) hl.1 ⟨Nat.le_of_ble_eq_true rfl, Nat.le_of_ble_eq_true rfl⟩ ⟨Nat.le_refl _, Nat.le_refl _⟩ dX6_seal_19 (fun x1445 v1446 H locs h1444 HX1447 => ?_)
  have h_putSeal := h1444.1
  have hIS_v1446 : fa_IS v1446 1 := h1444.1.2
  have hC_v1446 : fa_CI v1446 r := fa_CI.st hC_v1442 (by decide) hIS_v1446 (fa_CI.S hC_v1442 1 (by decide)).1 (fa_fr.wide h1444.2 (by omega) (by omega)) (fun _ _ => rfl)
  refine fa_callVi (As := [.int (x1445)]) (rest := []) CX HX1447 (g_recorded l G n hn v1446 r hC_v1446 (x1445)) ln_X6_41 (by omega) rfl rfl rfl rfl (Nat.le_of_ble_eq_true rfl) hl.1 ⟨Nat.le_of_ble_eq_true rfl, Nat.le_of_ble_eq_true rfl⟩ ⟨Nat.le_refl _, Nat.le_refl _⟩ dX6_seal_22 (fun x1449 v1450 r1451 H locs h1448 HX1452 => ?_)
  dsimp only at h1448
  have hC_v1450 := h1448.2.1
  have h_recorded := h1448.1
  exact RET _ _ _ _ _ _ _ HX1452 dX6_seal_25 (⟨(fun A H hV => fb_face hC hV h_draft h1444.2 (fun _ _ => rfl) (fun hc => h_putSeal.1 A hV.1 hc) (hV.1.sealA a1 a2 a3) h_recorded), hC_v1450, (fa_fr.tr (fa_fr.tr (fa_fr.tr fa_fr.rf (fa_fr.wide h1441.2 (by omega) (by omega))) (fa_fr.wide h1444.2 (by omega) (by omega))) (fa_fr.wide h1448.2.2.1 (by omega) (by omega))), (fun k hk => ((h1448.2.2.2 k hk).trans rfl))⟩)
set_option maxHeartbeats 4000000 in
set_option maxRecDepth 100000 in
theorem g_lift (l : Launch) (G : fa_G) (n : Nat) (hn : 397 ≤ n) (v : fa_V) (r : fa_R) (hC : fa_CI v r) (a1 : Int32) (a2 : Int32) : fa_MI l G n yX6_lift cX6_lift 3 (some .int) 6 [.ref (fa_B G + (0)), .int (a1), .int (a2)] v r (fun x w => (∀ A H, fb_CV v r A H → x = (fb_liftA A a1 a2).1 ∧ fb_CV w.1 w.2 (fb_liftA A a1 a2).2 (fb_rec H A (fb_liftA A a1 a2).1)) ∧ (fa_CI w.1 w.2) ∧ (fa_fr 1 395 v w.1) ∧ (∀ k, 395 ≤ k → w.2 k = r k)) := by
  refine fa_startI (by decide +kernel) (Nat.le_of_ble_eq_true rfl) (fun p e s m args below meth c ls Q CX hl HX RET => ?_)
  have hl : lv_has ls 3 [(0, .ref (fa_B G + (0))), (1, .int (a1)), (2, .int (a2))] := hl
  have hx := CX.1.1
  have hb := CX.1.2.1
  have hB : (1 : Nat) ∈ fa_bs := by decide
  refine lv_aload_n hx hb dX6_lift_0 rfl (lv_at hl 0 rfl) ?_
  refine fa_getr (k := 0) (j := 113) CX HX fl_X6_22 (by omega) rfl rfl (fa_CI.A hC).2.2.1 dX6_lift_1 ?_
  refine lv_aload_n hx hb dX6_lift_4 rfl (lv_at hl 0 rfl) ?_
  refine fa_getr (k := 0) (j := 1) CX HX fl_X6_10 (by omega) rfl rfl (fa_CI.A hC).1 dX6_lift_5 ?_
  refine fa_callVvu (As := [.ref (fa_B G + (1))]) (rest := []) CX HX (g_draft l G n hn v r hC ) ln_X6_33 (by omega) rfl rfl rfl rfl (Nat.le_of_ble_eq_true rfl) hl.1 ⟨Nat.le_of_ble_eq_true rfl, Nat.le_of_ble_eq_true rfl⟩ ⟨Nat.le_refl _, Nat.le_refl _⟩ dX6_lift_8 (fun v1454 H locs h1453 HX1455 => ?_)
  have hC_v1454 := h1453.1.2
  have h_draft := h1453.1.1
  refine lv_aload_n hx hb dX6_lift_11 rfl (lv_at hl 0 rfl) ?_
  refine lv_aload_n hx hb dX6_lift_12 rfl (lv_at hl 0 rfl) ?_
  refine fa_getr (k := 0) (j := 1) CX HX1455 fl_X6_10 (by omega) rfl rfl (fa_CI.A hC_v1454).1 dX6_lift_13 ?_
  refine lv_iload_n hx hb dX6_lift_16 rfl (lv_at hl 1 rfl) ?_
  refine lv_iload_n hx hb dX6_lift_17 rfl (lv_at hl 2 rfl) ?_
  refine fa_callViu (As := [.int (a1), .int (a2)]) (rest := [.ref (fa_B G + (0))]) CX HX1455 (g_takeSeal l G n hn v1454 r 1 (by decide) (fa_CI.S hC_v1454 1 (by decide)).1 (fa_CI.S hC_v1454 1 (by decide)).2 (a1) (a2) ) ln_X6_52 (fa_lt (by decide) 0 (by decide) hn) (fa_s0 (by decide)) rfl rfl rfl (Nat.le_of_ble_eq_true rfl) hl.1 ⟨Nat.le_of_ble_eq_true rfl, Nat.le_of_ble_eq_true rfl⟩ ⟨Nat.le_refl _, Nat.le_refl _⟩ dX6_lift_18 (fun x1457 v1458 H locs h1456 HX1459 => ?_)
  have h_takeSeal := h1456.1
  have hIS_v1458 : fa_IS v1458 1 := h1456.1.2
  have hC_v1458 : fa_CI v1458 r := fa_CI.st hC_v1454 (by decide) hIS_v1458 (fa_CI.S hC_v1454 1 (by decide)).1 (fa_fr.wide h1456.2 (by omega) (by omega)) (fun _ _ => rfl)
  refine fa_callVi (As := [.int (x1457)]) (rest := []) CX HX1459 (g_recorded l G n hn v1458 r hC_v1458 (x1457)) ln_X6_41 (by omega) rfl rfl rfl rfl (Nat.le_of_ble_eq_true rfl) hl.1 ⟨Nat.le_of_ble_eq_true rfl, Nat.le_of_ble_eq_true rfl⟩ ⟨Nat.le_refl _, Nat.le_refl _⟩ dX6_lift_21 (fun x1461 v1462 r1463 H locs h1460 HX1464 => ?_)
  dsimp only at h1460
  have hC_v1462 := h1460.2.1
  have h_recorded := h1460.1
  exact RET _ _ _ _ _ _ _ HX1464 dX6_lift_24 (⟨(fun A H hV => fb_face hC hV h_draft h1456.2 (fun _ _ => rfl) (fun hc => h_takeSeal.1 A hV.1 hc) (hV.1.liftA a1 a2) h_recorded), hC_v1462, (fa_fr.tr (fa_fr.tr (fa_fr.tr fa_fr.rf (fa_fr.wide h1453.2 (by omega) (by omega))) (fa_fr.wide h1456.2 (by omega) (by omega))) (fa_fr.wide h1460.2.2.1 (by omega) (by omega))), (fun k hk => ((h1460.2.2.2 k hk).trans rfl))⟩)
set_option maxHeartbeats 4000000 in
set_option maxRecDepth 100000 in
theorem g_refer (l : Launch) (G : fa_G) (n : Nat) (hn : 397 ≤ n) (v : fa_V) (r : fa_R) (hC : fa_CI v r) (a1 : Int32) (a2 : Int32) : fa_MI l G n yX6_refer cX6_refer 3 (some .int) 6 [.ref (fa_B G + (0)), .int (a1), .int (a2)] v r (fun x w => (∀ A H, fb_CV v r A H → x = (fb_refA A a1 a2).1 ∧ fb_CV w.1 w.2 (fb_refA A a1 a2).2 (fb_rec H A (fb_refA A a1 a2).1)) ∧ (fa_CI w.1 w.2) ∧ (fa_fr 1 395 v w.1) ∧ (∀ k, 395 ≤ k → w.2 k = r k)) := by
  refine fa_startI (by decide +kernel) (Nat.le_of_ble_eq_true rfl) (fun p e s m args below meth c ls Q CX hl HX RET => ?_)
  have hl : lv_has ls 3 [(0, .ref (fa_B G + (0))), (1, .int (a1)), (2, .int (a2))] := hl
  have hx := CX.1.1
  have hb := CX.1.2.1
  have hB : (1 : Nat) ∈ fa_bs := by decide
  refine lv_aload_n hx hb dX6_refer_0 rfl (lv_at hl 0 rfl) ?_
  refine fa_getr (k := 0) (j := 113) CX HX fl_X6_22 (by omega) rfl rfl (fa_CI.A hC).2.2.1 dX6_refer_1 ?_
  refine lv_aload_n hx hb dX6_refer_4 rfl (lv_at hl 0 rfl) ?_
  refine fa_getr (k := 0) (j := 1) CX HX fl_X6_10 (by omega) rfl rfl (fa_CI.A hC).1 dX6_refer_5 ?_
  refine fa_callVvu (As := [.ref (fa_B G + (1))]) (rest := []) CX HX (g_draft l G n hn v r hC ) ln_X6_33 (by omega) rfl rfl rfl rfl (Nat.le_of_ble_eq_true rfl) hl.1 ⟨Nat.le_of_ble_eq_true rfl, Nat.le_of_ble_eq_true rfl⟩ ⟨Nat.le_refl _, Nat.le_refl _⟩ dX6_refer_8 (fun v1466 H locs h1465 HX1467 => ?_)
  have hC_v1466 := h1465.1.2
  have h_draft := h1465.1.1
  refine lv_aload_n hx hb dX6_refer_11 rfl (lv_at hl 0 rfl) ?_
  refine lv_aload_n hx hb dX6_refer_12 rfl (lv_at hl 0 rfl) ?_
  refine fa_getr (k := 0) (j := 1) CX HX1467 fl_X6_10 (by omega) rfl rfl (fa_CI.A hC_v1466).1 dX6_refer_13 ?_
  refine lv_iload_n hx hb dX6_refer_16 rfl (lv_at hl 1 rfl) ?_
  refine lv_iload_n hx hb dX6_refer_17 rfl (lv_at hl 2 rfl) ?_
  refine fa_callViu (As := [.int (a1), .int (a2)]) (rest := [.ref (fa_B G + (0))]) CX HX1467 (g_putReference l G n hn v1466 r 1 (by decide) (fa_CI.S hC_v1466 1 (by decide)).1 (fa_CI.S hC_v1466 1 (by decide)).2 (a1) (a2) ) ln_X6_55 (fa_lt (by decide) 0 (by decide) hn) (fa_s0 (by decide)) rfl rfl rfl (Nat.le_of_ble_eq_true rfl) hl.1 ⟨Nat.le_of_ble_eq_true rfl, Nat.le_of_ble_eq_true rfl⟩ ⟨Nat.le_refl _, Nat.le_refl _⟩ dX6_refer_18 (fun x1469 v1470 H locs h1468 HX1471 => ?_)
  have h_putReference := h1468.1
  have hIS_v1470 : fa_IS v1470 1 := h1468.1.2
  have hC_v1470 : fa_CI v1470 r := fa_CI.st hC_v1466 (by decide) hIS_v1470 (fa_CI.S hC_v1466 1 (by decide)).1 (fa_fr.wide h1468.2 (by omega) (by omega)) (fun _ _ => rfl)
  refine fa_callVi (As := [.int (x1469)]) (rest := []) CX HX1471 (g_recorded l G n hn v1470 r hC_v1470 (x1469)) ln_X6_41 (by omega) rfl rfl rfl rfl (Nat.le_of_ble_eq_true rfl) hl.1 ⟨Nat.le_of_ble_eq_true rfl, Nat.le_of_ble_eq_true rfl⟩ ⟨Nat.le_refl _, Nat.le_refl _⟩ dX6_refer_21 (fun x1473 v1474 r1475 H locs h1472 HX1476 => ?_)
  dsimp only at h1472
  have hC_v1474 := h1472.2.1
  have h_recorded := h1472.1
  exact RET _ _ _ _ _ _ _ HX1476 dX6_refer_24 (⟨(fun A H hV => fb_face hC hV h_draft h1468.2 (fun _ _ => rfl) (fun hc => h_putReference.1 A hV.1 hc) (hV.1.refA a1 a2) h_recorded), hC_v1474, (fa_fr.tr (fa_fr.tr (fa_fr.tr fa_fr.rf (fa_fr.wide h1465.2 (by omega) (by omega))) (fa_fr.wide h1468.2 (by omega) (by omega))) (fa_fr.wide h1472.2.2.1 (by omega) (by omega))), (fun k hk => ((h1472.2.2.2 k hk).trans rfl))⟩)
set_option maxHeartbeats 4000000 in
set_option maxRecDepth 100000 in
theorem g_reserve (l : Launch) (G : fa_G) (n : Nat) (hn : 397 ≤ n) (v : fa_V) (r : fa_R) (hC : fa_CI v r) (a1 : Int32) (a2 : Int32) : fa_MI l G n yX6_reserve cX6_reserve 3 (some .int) 6 [.ref (fa_B G + (0)), .int (a1), .int (a2)] v r (fun x w => (∀ A H, fb_CV v r A H → x = (fb_resA A a1 a2).1 ∧ fb_CV w.1 w.2 (fb_resA A a1 a2).2 (fb_rec H A (fb_resA A a1 a2).1)) ∧ (fa_CI w.1 w.2) ∧ (fa_fr 1 395 v w.1) ∧ (∀ k, 395 ≤ k → w.2 k = r k)) := by
  refine fa_startI (by decide +kernel) (Nat.le_of_ble_eq_true rfl) (fun p e s m args below meth c ls Q CX hl HX RET => ?_)
  have hl : lv_has ls 3 [(0, .ref (fa_B G + (0))), (1, .int (a1)), (2, .int (a2))] := hl
  have hx := CX.1.1
  have hb := CX.1.2.1
  have hB : (1 : Nat) ∈ fa_bs := by decide
  refine lv_aload_n hx hb dX6_reserve_0 rfl (lv_at hl 0 rfl) ?_
  refine fa_getr (k := 0) (j := 113) CX HX fl_X6_22 (by omega) rfl rfl (fa_CI.A hC).2.2.1 dX6_reserve_1 ?_
  refine lv_aload_n hx hb dX6_reserve_4 rfl (lv_at hl 0 rfl) ?_
  refine fa_getr (k := 0) (j := 1) CX HX fl_X6_10 (by omega) rfl rfl (fa_CI.A hC).1 dX6_reserve_5 ?_
  refine fa_callVvu (As := [.ref (fa_B G + (1))]) (rest := []) CX HX (g_draft l G n hn v r hC ) ln_X6_33 (by omega) rfl rfl rfl rfl (Nat.le_of_ble_eq_true rfl) hl.1 ⟨Nat.le_of_ble_eq_true rfl, Nat.le_of_ble_eq_true rfl⟩ ⟨Nat.le_refl _, Nat.le_refl _⟩ dX6_reserve_8 (fun v1478 H locs h1477 HX1479 => ?_)
  have hC_v1478 := h1477.1.2
  have h_draft := h1477.1.1
  refine lv_aload_n hx hb dX6_reserve_11 rfl (lv_at hl 0 rfl) ?_
  refine lv_aload_n hx hb dX6_reserve_12 rfl (lv_at hl 0 rfl) ?_
  refine fa_getr (k := 0) (j := 1) CX HX1479 fl_X6_10 (by omega) rfl rfl (fa_CI.A hC_v1478).1 dX6_reserve_13 ?_
  refine lv_iload_n hx hb dX6_reserve_16 rfl (lv_at hl 1 rfl) ?_
  refine lv_iload_n hx hb dX6_reserve_17 rfl (lv_at hl 2 rfl) ?_
  refine fa_callViu (As := [.int (a1), .int (a2)]) (rest := [.ref (fa_B G + (0))]) CX HX1479 (g_putReservation l G n hn v1478 r 1 (by decide) (fa_CI.S hC_v1478 1 (by decide)).1 (fa_CI.S hC_v1478 1 (by decide)).2 (a1) (a2) ) ln_X6_58 (fa_lt (by decide) 0 (by decide) hn) (fa_s0 (by decide)) rfl rfl rfl (Nat.le_of_ble_eq_true rfl) hl.1 ⟨Nat.le_of_ble_eq_true rfl, Nat.le_of_ble_eq_true rfl⟩ ⟨Nat.le_refl _, Nat.le_refl _⟩ dX6_reserve_18 (fun x1481 v1482 H locs h1480 HX1483 => ?_)
  have h_putReservation := h1480.1
  have hIS_v1482 : fa_IS v1482 1 := h1480.1.2
  have hC_v1482 : fa_CI v1482 r := fa_CI.st hC_v1478 (by decide) hIS_v1482 (fa_CI.S hC_v1478 1 (by decide)).1 (fa_fr.wide h1480.2 (by omega) (by omega)) (fun _ _ => rfl)
  refine fa_callVi (As := [.int (x1481)]) (rest := []) CX HX1483 (g_recorded l G n hn v1482 r hC_v1482 (x1481)) ln_X6_41 (by omega) rfl rfl rfl rfl (Nat.le_of_ble_eq_true rfl) hl.1 ⟨Nat.le_of_ble_eq_true rfl, Nat.le_of_ble_eq_true rfl⟩ ⟨Nat.le_refl _, Nat.le_refl _⟩ dX6_reserve_21 (fun x1485 v1486 r1487 H locs h1484 HX1488 => ?_)
  dsimp only at h1484
  have hC_v1486 := h1484.2.1
  have h_recorded := h1484.1
  exact RET _ _ _ _ _ _ _ HX1488 dX6_reserve_24 (⟨(fun A H hV => fb_face hC hV h_draft h1480.2 (fun _ _ => rfl) (fun hc => h_putReservation.1 A hV.1 hc) (hV.1.resA a1 a2) h_recorded), hC_v1486, (fa_fr.tr (fa_fr.tr (fa_fr.tr fa_fr.rf (fa_fr.wide h1477.2 (by omega) (by omega))) (fa_fr.wide h1480.2 (by omega) (by omega))) (fa_fr.wide h1484.2.2.1 (by omega) (by omega))), (fun k hk => ((h1484.2.2.2 k hk).trans rfl))⟩)
set_option maxHeartbeats 4000000 in
set_option maxRecDepth 100000 in
theorem g_cancel (l : Launch) (G : fa_G) (n : Nat) (hn : 397 ≤ n) (v : fa_V) (r : fa_R) (hC : fa_CI v r) (a1 : Int32) (a2 : Int32) : fa_MI l G n yX6_cancel cX6_cancel 3 (some .int) 6 [.ref (fa_B G + (0)), .int (a1), .int (a2)] v r (fun x w => (∀ A H, fb_CV v r A H → x = (fb_canA A a1 a2).1 ∧ fb_CV w.1 w.2 (fb_canA A a1 a2).2 (fb_rec H A (fb_canA A a1 a2).1)) ∧ (fa_CI w.1 w.2) ∧ (fa_fr 1 395 v w.1) ∧ (∀ k, 395 ≤ k → w.2 k = r k)) := by
  refine fa_startI (by decide +kernel) (Nat.le_of_ble_eq_true rfl) (fun p e s m args below meth c ls Q CX hl HX RET => ?_)
  have hl : lv_has ls 3 [(0, .ref (fa_B G + (0))), (1, .int (a1)), (2, .int (a2))] := hl
  have hx := CX.1.1
  have hb := CX.1.2.1
  have hB : (1 : Nat) ∈ fa_bs := by decide
  refine lv_aload_n hx hb dX6_cancel_0 rfl (lv_at hl 0 rfl) ?_
  refine fa_getr (k := 0) (j := 113) CX HX fl_X6_22 (by omega) rfl rfl (fa_CI.A hC).2.2.1 dX6_cancel_1 ?_
  refine lv_aload_n hx hb dX6_cancel_4 rfl (lv_at hl 0 rfl) ?_
  refine fa_getr (k := 0) (j := 1) CX HX fl_X6_10 (by omega) rfl rfl (fa_CI.A hC).1 dX6_cancel_5 ?_
  refine fa_callVvu (As := [.ref (fa_B G + (1))]) (rest := []) CX HX (g_draft l G n hn v r hC ) ln_X6_33 (by omega) rfl rfl rfl rfl (Nat.le_of_ble_eq_true rfl) hl.1 ⟨Nat.le_of_ble_eq_true rfl, Nat.le_of_ble_eq_true rfl⟩ ⟨Nat.le_refl _, Nat.le_refl _⟩ dX6_cancel_8 (fun v1490 H locs h1489 HX1491 => ?_)
  have hC_v1490 := h1489.1.2
  have h_draft := h1489.1.1
  refine lv_aload_n hx hb dX6_cancel_11 rfl (lv_at hl 0 rfl) ?_
  refine lv_aload_n hx hb dX6_cancel_12 rfl (lv_at hl 0 rfl) ?_
  refine fa_getr (k := 0) (j := 1) CX HX1491 fl_X6_10 (by omega) rfl rfl (fa_CI.A hC_v1490).1 dX6_cancel_13 ?_
  refine lv_iload_n hx hb dX6_cancel_16 rfl (lv_at hl 1 rfl) ?_
  refine lv_iload_n hx hb dX6_cancel_17 rfl (lv_at hl 2 rfl) ?_
  refine fa_callViu (As := [.int (a1), .int (a2)]) (rest := [.ref (fa_B G + (0))]) CX HX1491 (g_takeReservation l G n hn v1490 r 1 (by decide) (fa_CI.S hC_v1490 1 (by decide)).1 (fa_CI.S hC_v1490 1 (by decide)).2 (a1) (a2) ) ln_X6_61 (fa_lt (by decide) 0 (by decide) hn) (fa_s0 (by decide)) rfl rfl rfl (Nat.le_of_ble_eq_true rfl) hl.1 ⟨Nat.le_of_ble_eq_true rfl, Nat.le_of_ble_eq_true rfl⟩ ⟨Nat.le_refl _, Nat.le_refl _⟩ dX6_cancel_18 (fun x1493 v1494 H locs h1492 HX1495 => ?_)
  have h_takeReservation := h1492.1
  have hIS_v1494 : fa_IS v1494 1 := h1492.1.2
  have hC_v1494 : fa_CI v1494 r := fa_CI.st hC_v1490 (by decide) hIS_v1494 (fa_CI.S hC_v1490 1 (by decide)).1 (fa_fr.wide h1492.2 (by omega) (by omega)) (fun _ _ => rfl)
  refine fa_callVi (As := [.int (x1493)]) (rest := []) CX HX1495 (g_recorded l G n hn v1494 r hC_v1494 (x1493)) ln_X6_41 (by omega) rfl rfl rfl rfl (Nat.le_of_ble_eq_true rfl) hl.1 ⟨Nat.le_of_ble_eq_true rfl, Nat.le_of_ble_eq_true rfl⟩ ⟨Nat.le_refl _, Nat.le_refl _⟩ dX6_cancel_21 (fun x1497 v1498 r1499 H locs h1496 HX1500 => ?_)
  dsimp only at h1496
  have hC_v1498 := h1496.2.1
  have h_recorded := h1496.1
  exact RET _ _ _ _ _ _ _ HX1500 dX6_cancel_24 (⟨(fun A H hV => fb_face hC hV h_draft h1492.2 (fun _ _ => rfl) (fun hc => h_takeReservation.1 A hV.1 hc) (hV.1.canA a1 a2) h_recorded), hC_v1498, (fa_fr.tr (fa_fr.tr (fa_fr.tr fa_fr.rf (fa_fr.wide h1489.2 (by omega) (by omega))) (fa_fr.wide h1492.2 (by omega) (by omega))) (fa_fr.wide h1496.2.2.1 (by omega) (by omega))), (fun k hk => ((h1496.2.2.2 k hk).trans rfl))⟩)
set_option maxHeartbeats 4000000 in
set_option maxRecDepth 100000 in
theorem g_pass (l : Launch) (G : fa_G) (n : Nat) (hn : 397 ≤ n) (v : fa_V) (r : fa_R) (hC : fa_CI v r) (a1 : Int32) : fa_MI l G n yX6_pass cX6_pass 2 (some .int) 8 [.ref (fa_B G + (0)), .int (a1)] v r (fun x w => (∀ A H, fb_CV v r A H → x = (fb_passA A a1).1 ∧ fb_CV w.1 w.2 (fb_passA A a1).2 (fb_rec H A (fb_passA A a1).1)) ∧ (fa_CI w.1 w.2) ∧ (fa_fr 1 395 v w.1) ∧ (∀ k, 395 ≤ k → w.2 k = r k)) := by
  refine fa_startI (by decide +kernel) (Nat.le_of_ble_eq_true rfl) (fun p e s m args below meth c ls Q CX hl HX RET => ?_)
  have hl : lv_has ls 2 [(0, .ref (fa_B G + (0))), (1, .int (a1))] := hl
  have hx := CX.1.1
  have hb := CX.1.2.1
  have hB : (1 : Nat) ∈ fa_bs := by decide
  refine lv_aload_n hx hb dX6_pass_0 rfl (lv_at hl 0 rfl) ?_
  refine fa_getr (k := 0) (j := 113) CX HX fl_X6_22 (by omega) rfl rfl (fa_CI.A hC).2.2.1 dX6_pass_1 ?_
  refine lv_aload_n hx hb dX6_pass_4 rfl (lv_at hl 0 rfl) ?_
  refine fa_getr (k := 0) (j := 1) CX HX fl_X6_10 (by omega) rfl rfl (fa_CI.A hC).1 dX6_pass_5 ?_
  refine fa_callVvu (As := [.ref (fa_B G + (1))]) (rest := []) CX HX (g_draft l G n hn v r hC ) ln_X6_33 (by omega) rfl rfl rfl rfl (Nat.le_of_ble_eq_true rfl) hl.1 ⟨Nat.le_of_ble_eq_true rfl, Nat.le_of_ble_eq_true rfl⟩ ⟨Nat.le_refl _, Nat.le_refl _⟩ dX6_pass_8 (fun v1502 H locs h1501 HX1503 => ?_)
  have hC_v1502 := h1501.1.2
  have h_draft := h1501.1.1
  refine lv_aload_n hx hb dX6_pass_11 rfl (lv_at hl 0 rfl) ?_
  refine lv_aload_n hx hb dX6_pass_12 rfl (lv_at hl 0 rfl) ?_
  refine fa_getr (k := 0) (j := 1) CX HX1503 fl_X6_10 (by omega) rfl rfl (fa_CI.A hC_v1502).1 dX6_pass_13 ?_
  refine lv_iload_n hx hb dX6_pass_16 rfl (lv_at hl 1 rfl) ?_
  refine fa_callVi (As := [.int (a1)]) (rest := [.ref (fa_B G + (0))]) CX HX1503 (g_passDays l G n hn v1502 r 1 (by decide) (fa_CI.S hC_v1502 1 (by decide)).1 (fa_CI.S hC_v1502 1 (by decide)).2 (a1) ) ln_X6_64 (fa_lt (by decide) 0 (by decide) hn) (fa_s0 (by decide)) rfl rfl rfl (Nat.le_of_ble_eq_true rfl) hl.1 ⟨Nat.le_of_ble_eq_true rfl, Nat.le_of_ble_eq_true rfl⟩ ⟨Nat.le_refl _, Nat.le_refl _⟩ dX6_pass_17 (fun x1505 v1506 r1507 H locs h1504 HX1508 => ?_)
  dsimp only at h1504
  have hIS_v1506 := h1504.2.1
  have hr1_r1507 := h1504.2.2.1
  have hrr_r1507 := h1504.2.2.2.2
  have h_passDays := h1504.1
  have hC_v1506 : fa_CI v1506 r1507 := fa_CI.st hC_v1502 (by decide) hIS_v1506 hr1_r1507 (fa_fr.wide h1504.2.2.2.1 (by omega) (by omega)) h1504.2.2.2.2
  refine fa_callVi (As := [.int (x1505)]) (rest := []) CX HX1508 (g_recorded l G n hn v1506 r1507 hC_v1506 (x1505)) ln_X6_41 (by omega) rfl rfl rfl rfl (Nat.le_of_ble_eq_true rfl) hl.1 ⟨Nat.le_of_ble_eq_true rfl, Nat.le_of_ble_eq_true rfl⟩ ⟨Nat.le_refl _, Nat.le_refl _⟩ dX6_pass_20 (fun x1510 v1511 r1512 H locs h1509 HX1513 => ?_)
  dsimp only at h1509
  have hC_v1511 := h1509.2.1
  have h_recorded := h1509.1
  exact RET _ _ _ _ _ _ _ HX1513 dX6_pass_23 (⟨(fun A H hV => fb_face hC hV h_draft h1504.2.2.2.1 (fun k hk => h1504.2.2.2.2 k (by omega)) (fun hc => h_passDays A hV.1 hc) (hV.1.passA a1) h_recorded), hC_v1511, (fa_fr.tr (fa_fr.tr (fa_fr.tr fa_fr.rf (fa_fr.wide h1501.2 (by omega) (by omega))) (fa_fr.wide h1504.2.2.2.1 (by omega) (by omega))) (fa_fr.wide h1509.2.2.1 (by omega) (by omega))), (fun k hk => ((h1509.2.2.2 k hk).trans ((h1504.2.2.2.2 k (by omega)).trans rfl)))⟩)
set_option maxHeartbeats 4000000 in
set_option maxRecDepth 100000 in
theorem g_set (l : Launch) (G : fa_G) (n : Nat) (hn : 397 ≤ n) (v : fa_V) (r : fa_R) (hC : fa_CI v r) (a1 : Int32) (a2 : Int32) : fa_MI l G n yX6_set cX6_set 3 (some .int) 6 [.ref (fa_B G + (0)), .int (a1), .int (a2)] v r (fun x w => (∀ A H, fb_CV v r A H → x = (fb_setA A a1 a2).1 ∧ fb_CV w.1 w.2 (fb_setA A a1 a2).2 (fb_rec H A (fb_setA A a1 a2).1)) ∧ (fa_CI w.1 w.2) ∧ (fa_fr 1 395 v w.1) ∧ (∀ k, 395 ≤ k → w.2 k = r k)) := by
  refine fa_startI (by decide +kernel) (Nat.le_of_ble_eq_true rfl) (fun p e s m args below meth c ls Q CX hl HX RET => ?_)
  have hl : lv_has ls 3 [(0, .ref (fa_B G + (0))), (1, .int (a1)), (2, .int (a2))] := hl
  have hx := CX.1.1
  have hb := CX.1.2.1
  have hB : (1 : Nat) ∈ fa_bs := by decide
  refine lv_aload_n hx hb dX6_set_0 rfl (lv_at hl 0 rfl) ?_
  refine fa_getr (k := 0) (j := 113) CX HX fl_X6_22 (by omega) rfl rfl (fa_CI.A hC).2.2.1 dX6_set_1 ?_
  refine lv_aload_n hx hb dX6_set_4 rfl (lv_at hl 0 rfl) ?_
  refine fa_getr (k := 0) (j := 1) CX HX fl_X6_10 (by omega) rfl rfl (fa_CI.A hC).1 dX6_set_5 ?_
  refine fa_callVvu (As := [.ref (fa_B G + (1))]) (rest := []) CX HX (g_draft l G n hn v r hC ) ln_X6_33 (by omega) rfl rfl rfl rfl (Nat.le_of_ble_eq_true rfl) hl.1 ⟨Nat.le_of_ble_eq_true rfl, Nat.le_of_ble_eq_true rfl⟩ ⟨Nat.le_refl _, Nat.le_refl _⟩ dX6_set_8 (fun v1515 H locs h1514 HX1516 => ?_)
  have hC_v1515 := h1514.1.2
  have h_draft := h1514.1.1
  refine lv_aload_n hx hb dX6_set_11 rfl (lv_at hl 0 rfl) ?_
  refine lv_aload_n hx hb dX6_set_12 rfl (lv_at hl 0 rfl) ?_
  refine fa_getr (k := 0) (j := 1) CX HX1516 fl_X6_10 (by omega) rfl rfl (fa_CI.A hC_v1515).1 dX6_set_13 ?_
  refine lv_iload_n hx hb dX6_set_16 rfl (lv_at hl 1 rfl) ?_
  refine lv_iload_n hx hb dX6_set_17 rfl (lv_at hl 2 rfl) ?_
  refine fa_callViu (As := [.int (a1), .int (a2)]) (rest := [.ref (fa_B G + (0))]) CX HX1516 (g_changeSetting l G n hn v1515 r 1 (by decide) (fa_CI.S hC_v1515 1 (by decide)).1 (fa_CI.S hC_v1515 1 (by decide)).2 (a1) (a2) ) ln_X6_67 (fa_lt (by decide) 0 (by decide) hn) (fa_s0 (by decide)) rfl rfl rfl (Nat.le_of_ble_eq_true rfl) hl.1 ⟨Nat.le_of_ble_eq_true rfl, Nat.le_of_ble_eq_true rfl⟩ ⟨Nat.le_refl _, Nat.le_refl _⟩ dX6_set_18 (fun x1518 v1519 H locs h1517 HX1520 => ?_)
  have h_changeSetting := h1517.1
  have hIS_v1519 : fa_IS v1519 1 := h1517.1.2
  have hC_v1519 : fa_CI v1519 r := fa_CI.st hC_v1515 (by decide) hIS_v1519 (fa_CI.S hC_v1515 1 (by decide)).1 (fa_fr.wide h1517.2 (by omega) (by omega)) (fun _ _ => rfl)
  refine fa_callVi (As := [.int (x1518)]) (rest := []) CX HX1520 (g_recorded l G n hn v1519 r hC_v1519 (x1518)) ln_X6_41 (by omega) rfl rfl rfl rfl (Nat.le_of_ble_eq_true rfl) hl.1 ⟨Nat.le_of_ble_eq_true rfl, Nat.le_of_ble_eq_true rfl⟩ ⟨Nat.le_refl _, Nat.le_refl _⟩ dX6_set_21 (fun x1522 v1523 r1524 H locs h1521 HX1525 => ?_)
  dsimp only at h1521
  have hC_v1523 := h1521.2.1
  have h_recorded := h1521.1
  exact RET _ _ _ _ _ _ _ HX1525 dX6_set_24 (⟨(fun A H hV => fb_face hC hV h_draft h1517.2 (fun _ _ => rfl) (fun hc => h_changeSetting.1 A hV.1 hc) (hV.1.setA a1 a2) h_recorded), hC_v1523, (fa_fr.tr (fa_fr.tr (fa_fr.tr fa_fr.rf (fa_fr.wide h1514.2 (by omega) (by omega))) (fa_fr.wide h1517.2 (by omega) (by omega))) (fa_fr.wide h1521.2.2.1 (by omega) (by omega))), (fun k hk => ((h1521.2.2.2 k hk).trans rfl))⟩)
