set_option maxHeartbeats 4000000 in
set_option maxRecDepth 100000 in
theorem g_recorded (l : Launch) (G : fa_G) (n : Nat) (hn : 397 ≤ n) (v : fa_V) (r : fa_R) (hC : fa_CI v r) (a1 : Int32) : fa_MI l G n yX6_recorded cX6_recorded 2 (some .int) 2 [.ref (fa_B G + (0)), .int (a1)] v r (fun x w => (x = a1 ∧ ((¬ (0 ≤ a1 ∨ a1 = (-6 : Int32)) ∧ w.1 = v ∧ w.2 = r) ∨ ((0 ≤ a1 ∨ a1 = (-6 : Int32)) ∧ fa_kd v r w.1 w.2))) ∧ (fa_CI w.1 w.2) ∧ (fa_fr 113 114 v w.1) ∧ (∀ k, 395 ≤ k → w.2 k = r k)) := by
  refine fa_startI (by decide +kernel) (Nat.le_of_ble_eq_true rfl) (fun p e s m args below meth c ls Q CX hl HX RET => ?_)
  have hl : lv_has ls 2 [(0, .ref (fa_B G + (0))), (1, .int (a1))] := hl
  have hx := CX.1.1
  have hb := CX.1.2.1
  have hB : (1 : Nat) ∈ fa_bs := by decide
  refine lv_iload_n hx hb dX6_recorded_0 rfl (lv_at hl 1 rfl) ?_
  refine fa_callSip (As := [.int (a1)]) (rest := []) CX HX (c_X6_isError l G n v r (a1)) ln_X6_95 rfl rfl (Nat.le_of_ble_eq_true rfl) hl.1 ⟨Nat.le_of_ble_eq_true rfl, Nat.le_of_ble_eq_true rfl⟩ ⟨Nat.le_refl _, Nat.le_refl _⟩ dX6_recorded_1 (fun x1411 H locs h1410 HX1412 => ?_)
  have h_isError := h1410
  refine lv_if_ne (tgt := 14) hx hb dX6_recorded_4 (by decide) (fun c_4 => ?_) (fun c_4 => ?_)
  · refine lv_iload_n hx hb dX6_recorded_14 rfl (lv_at hl 1 rfl) ?_
    exact RET _ _ _ _ _ _ _ HX1412 dX6_recorded_15 (⟨⟨rfl, Or.inl ⟨fa_err1 h_isError c_4, rfl, rfl⟩⟩, hC, fa_fr.rf, (fun k hk => rfl)⟩)
  · refine lv_aload_n hx hb dX6_recorded_7 rfl (lv_at hl 0 rfl) ?_
    refine fa_getr (k := 0) (j := 113) CX HX1412 fl_X6_22 (by omega) rfl rfl (fa_CI.A hC).2.2.1 dX6_recorded_8 ?_
    refine fa_callVv (As := []) (rest := []) CX HX1412 (g_keepDraft l G n hn v r hC ) ln_X6_106 (by omega) rfl rfl rfl rfl (Nat.le_of_ble_eq_true rfl) hl.1 ⟨Nat.le_of_ble_eq_true rfl, Nat.le_of_ble_eq_true rfl⟩ ⟨Nat.le_refl _, Nat.le_refl _⟩ dX6_recorded_11 (fun v1414 r1415 H locs h1413 HX1416 => ?_)
    dsimp only at h1413
    have hC_v1414 := h1413.2.1
    have h_keepDraft := h1413.1
    refine lv_iload_n hx hb dX6_recorded_14 rfl (lv_at hl 1 rfl) ?_
    exact RET _ _ _ _ _ _ _ HX1416 dX6_recorded_15 (⟨⟨rfl, Or.inr ⟨fa_err0 h_isError c_4, h_keepDraft⟩⟩, hC_v1414, (fa_fr.tr fa_fr.rf (fa_fr.wide h1413.2.2.1 (by omega) (by omega))), (fun k hk => ((h1413.2.2.2 k hk).trans rfl))⟩)
set_option maxHeartbeats 4000000 in
set_option maxRecDepth 100000 in
theorem g_add (l : Launch) (G : fa_G) (n : Nat) (hn : 397 ≤ n) (v : fa_V) (r : fa_R) (hC : fa_CI v r) (a1 : Int32) (a2 : Int32) : fa_MI l G n yX6_add cX6_add 3 (some .int) 6 [.ref (fa_B G + (0)), .int (a1), .int (a2)] v r (fun x w => (∀ A H, fb_CV v r A H → x = (fb_addA A a1 a2).1 ∧ fb_CV w.1 w.2 (fb_addA A a1 a2).2 (fb_rec H A (fb_addA A a1 a2).1)) ∧ (fa_CI w.1 w.2) ∧ (fa_fr 1 395 v w.1) ∧ (∀ k, 395 ≤ k → w.2 k = r k)) := by
  refine fa_startI (by decide +kernel) (Nat.le_of_ble_eq_true rfl) (fun p e s m args below meth c ls Q CX hl HX RET => ?_)
  have hl : lv_has ls 3 [(0, .ref (fa_B G + (0))), (1, .int (a1)), (2, .int (a2))] := hl
  have hx := CX.1.1
  have hb := CX.1.2.1
  have hB : (1 : Nat) ∈ fa_bs := by decide
  refine lv_aload_n hx hb dX6_add_0 rfl (lv_at hl 0 rfl) ?_
  refine fa_getr (k := 0) (j := 113) CX HX fl_X6_22 (by omega) rfl rfl (fa_CI.A hC).2.2.1 dX6_add_1 ?_
  refine lv_aload_n hx hb dX6_add_4 rfl (lv_at hl 0 rfl) ?_
  refine fa_getr (k := 0) (j := 1) CX HX fl_X6_10 (by omega) rfl rfl (fa_CI.A hC).1 dX6_add_5 ?_
  refine fa_callVvu (As := [.ref (fa_B G + (1))]) (rest := []) CX HX (g_draft l G n hn v r hC ) ln_X6_33 (by omega) rfl rfl rfl rfl (Nat.le_of_ble_eq_true rfl) hl.1 ⟨Nat.le_of_ble_eq_true rfl, Nat.le_of_ble_eq_true rfl⟩ ⟨Nat.le_refl _, Nat.le_refl _⟩ dX6_add_8 (fun v1418 H locs h1417 HX1419 => ?_)
  have hC_v1418 := h1417.1.2
  have h_draft := h1417.1.1
  refine lv_aload_n hx hb dX6_add_11 rfl (lv_at hl 0 rfl) ?_
  refine lv_aload_n hx hb dX6_add_12 rfl (lv_at hl 0 rfl) ?_
  refine fa_getr (k := 0) (j := 1) CX HX1419 fl_X6_10 (by omega) rfl rfl (fa_CI.A hC_v1418).1 dX6_add_13 ?_
  refine lv_iload_n hx hb dX6_add_16 rfl (lv_at hl 1 rfl) ?_
  refine lv_iload_n hx hb dX6_add_17 rfl (lv_at hl 2 rfl) ?_
  refine fa_callViu (As := [.int (a1), .int (a2)]) (rest := [.ref (fa_B G + (0))]) CX HX1419 (g_addFile l G n hn v1418 r 1 (by decide) (fa_CI.S hC_v1418 1 (by decide)).1 (fa_CI.S hC_v1418 1 (by decide)).2 (a1) (a2) ) ln_X6_37 (fa_lt (by decide) 0 (by decide) hn) (fa_s0 (by decide)) rfl rfl rfl (Nat.le_of_ble_eq_true rfl) hl.1 ⟨Nat.le_of_ble_eq_true rfl, Nat.le_of_ble_eq_true rfl⟩ ⟨Nat.le_refl _, Nat.le_refl _⟩ dX6_add_18 (fun x1421 v1422 H locs h1420 HX1423 => ?_)
  have h_addFile := h1420.1
  have hIS_v1422 : fa_IS v1422 1 := h1420.1.2
  have hC_v1422 : fa_CI v1422 r := fa_CI.st hC_v1418 (by decide) hIS_v1422 (fa_CI.S hC_v1418 1 (by decide)).1 (fa_fr.wide h1420.2 (by omega) (by omega)) (fun _ _ => rfl)
  refine fa_callVi (As := [.int (x1421)]) (rest := []) CX HX1423 (g_recorded l G n hn v1422 r hC_v1422 (x1421)) ln_X6_41 (by omega) rfl rfl rfl rfl (Nat.le_of_ble_eq_true rfl) hl.1 ⟨Nat.le_of_ble_eq_true rfl, Nat.le_of_ble_eq_true rfl⟩ ⟨Nat.le_refl _, Nat.le_refl _⟩ dX6_add_21 (fun x1425 v1426 r1427 H locs h1424 HX1428 => ?_)
  dsimp only at h1424
  have hC_v1426 := h1424.2.1
  have h_recorded := h1424.1
  exact RET _ _ _ _ _ _ _ HX1428 dX6_add_24 (⟨(fun A H hV => fb_face hC hV h_draft h1420.2 (fun _ _ => rfl) (fun hc => h_addFile.1 A hV.1 hc) (hV.1.add a1 a2) h_recorded), hC_v1426, (fa_fr.tr (fa_fr.tr (fa_fr.tr fa_fr.rf (fa_fr.wide h1417.2 (by omega) (by omega))) (fa_fr.wide h1420.2 (by omega) (by omega))) (fa_fr.wide h1424.2.2.1 (by omega) (by omega))), (fun k hk => ((h1424.2.2.2 k hk).trans rfl))⟩)
set_option maxHeartbeats 4000000 in
set_option maxRecDepth 100000 in
theorem g_ask (l : Launch) (G : fa_G) (n : Nat) (hn : 397 ≤ n) (v : fa_V) (r : fa_R) (hC : fa_CI v r) (a1 : Int32) : fa_MI l G n yX6_ask cX6_ask 2 (some .int) 6 [.ref (fa_B G + (0)), .int (a1)] v r (fun x w => (∀ A H, fb_CV v r A H → x = (fb_askA A a1).1 ∧ fb_CV w.1 w.2 (fb_askA A a1).2 (fb_rec H A (fb_askA A a1).1)) ∧ (fa_CI w.1 w.2) ∧ (fa_fr 1 395 v w.1) ∧ (∀ k, 395 ≤ k → w.2 k = r k)) := by
  refine fa_startI (by decide +kernel) (Nat.le_of_ble_eq_true rfl) (fun p e s m args below meth c ls Q CX hl HX RET => ?_)
  have hl : lv_has ls 2 [(0, .ref (fa_B G + (0))), (1, .int (a1))] := hl
  have hx := CX.1.1
  have hb := CX.1.2.1
  have hB : (1 : Nat) ∈ fa_bs := by decide
  refine lv_aload_n hx hb dX6_ask_0 rfl (lv_at hl 0 rfl) ?_
  refine fa_getr (k := 0) (j := 113) CX HX fl_X6_22 (by omega) rfl rfl (fa_CI.A hC).2.2.1 dX6_ask_1 ?_
  refine lv_aload_n hx hb dX6_ask_4 rfl (lv_at hl 0 rfl) ?_
  refine fa_getr (k := 0) (j := 1) CX HX fl_X6_10 (by omega) rfl rfl (fa_CI.A hC).1 dX6_ask_5 ?_
  refine fa_callVvu (As := [.ref (fa_B G + (1))]) (rest := []) CX HX (g_draft l G n hn v r hC ) ln_X6_33 (by omega) rfl rfl rfl rfl (Nat.le_of_ble_eq_true rfl) hl.1 ⟨Nat.le_of_ble_eq_true rfl, Nat.le_of_ble_eq_true rfl⟩ ⟨Nat.le_refl _, Nat.le_refl _⟩ dX6_ask_8 (fun v1430 H locs h1429 HX1431 => ?_)
  have hC_v1430 := h1429.1.2
  have h_draft := h1429.1.1
  refine lv_aload_n hx hb dX6_ask_11 rfl (lv_at hl 0 rfl) ?_
  refine lv_aload_n hx hb dX6_ask_12 rfl (lv_at hl 0 rfl) ?_
  refine fa_getr (k := 0) (j := 1) CX HX1431 fl_X6_10 (by omega) rfl rfl (fa_CI.A hC_v1430).1 dX6_ask_13 ?_
  refine lv_iload_n hx hb dX6_ask_16 rfl (lv_at hl 1 rfl) ?_
  refine fa_callViu (As := [.int (a1)]) (rest := [.ref (fa_B G + (0))]) CX HX1431 (g_askFor l G n hn v1430 r 1 (by decide) (fa_CI.S hC_v1430 1 (by decide)).1 (fa_CI.S hC_v1430 1 (by decide)).2 (a1) ) ln_X6_45 (fa_lt (by decide) 0 (by decide) hn) (fa_s0 (by decide)) rfl rfl rfl (Nat.le_of_ble_eq_true rfl) hl.1 ⟨Nat.le_of_ble_eq_true rfl, Nat.le_of_ble_eq_true rfl⟩ ⟨Nat.le_refl _, Nat.le_refl _⟩ dX6_ask_17 (fun x1433 v1434 H locs h1432 HX1435 => ?_)
  have h_askFor := h1432.1
  have hIS_v1434 : fa_IS v1434 1 := h1432.1.2
  have hC_v1434 : fa_CI v1434 r := fa_CI.st hC_v1430 (by decide) hIS_v1434 (fa_CI.S hC_v1430 1 (by decide)).1 (fa_fr.wide h1432.2 (by omega) (by omega)) (fun _ _ => rfl)
  refine fa_callVi (As := [.int (x1433)]) (rest := []) CX HX1435 (g_recorded l G n hn v1434 r hC_v1434 (x1433)) ln_X6_41 (by omega) rfl rfl rfl rfl (Nat.le_of_ble_eq_true rfl) hl.1 ⟨Nat.le_of_ble_eq_true rfl, Nat.le_of_ble_eq_true rfl⟩ ⟨Nat.le_refl _, Nat.le_refl _⟩ dX6_ask_20 (fun x1437 v1438 r1439 H locs h1436 HX1440 => ?_)
  dsimp only at h1436
  have hC_v1438 := h1436.2.1
  have h_recorded := h1436.1
  exact RET _ _ _ _ _ _ _ HX1440 dX6_ask_23 (⟨(fun A H hV => fb_face hC hV h_draft h1432.2 (fun _ _ => rfl) (fun hc => h_askFor.1 A hV.1 hc) (hV.1.ask a1) h_recorded), hC_v1438, (fa_fr.tr (fa_fr.tr (fa_fr.tr fa_fr.rf (fa_fr.wide h1429.2 (by omega) (by omega))) (fa_fr.wide h1432.2 (by omega) (by omega))) (fa_fr.wide h1436.2.2.1 (by omega) (by omega))), (fun k hk => ((h1436.2.2.2 k hk).trans rfl))⟩)
set_option maxHeartbeats 4000000 in
set_option maxRecDepth 100000 in
theorem g_seal (l : Launch) (G : fa_G) (n : Nat) (hn : 397 ≤ n) (v : fa_V) (r : fa_R) (hC : fa_CI v r) (a1 : Int32) (a2 : Int32) (a3 : Int32) : fa_MI l G n yX6_seal cX6_seal 4 (some .int) 6 [.ref (fa_B G + (0)), .int (a1), .int (a2), .int (a3)] v r (fun x w => (∀ A H, fb_CV v r A H → x = (fb_sealA A a1 a2 a3).1 ∧ fb_CV w.1 w.2 (fb_sealA A a1 a2 a3).2 (fb_rec H A (fb_sealA A a1 a2 a3).1)) ∧ (fa_CI w.1 w.2) ∧ (fa_fr 1 395 v w.1) ∧ (∀ k, 395 ≤ k → w.2 k = r k)) := by
  refine fa_startI (by decide +kernel) (Nat.le_of_ble_eq_true rfl) (fun p e s m args below meth c ls Q CX hl HX RET => ?_)
  have hl : lv_has ls 4 [(0, .ref (fa_B G + (0))), (1, .int (a1)), (2, .int (a2)), (3, .int (a3))] := hl
  have hx := CX.1.1
  have hb := CX.1.2.1
  have hB : (1 : Nat) ∈ fa_bs := by decide
  refine lv_aload_n hx hb dX6_seal_0 rfl (lv_at hl 0 rfl) ?_
  refine fa_getr (k := 0) (j := 113) CX HX fl_X6_22 (by omega) rfl rfl (fa_CI.A hC).2.2.1 dX6_seal_1 ?_
  refine lv_aload_n hx hb dX6_seal_4 rfl (lv_at hl 0 rfl) ?_
  refine fa_getr (k := 0) (j := 1) CX HX fl_X6_10 (by omega) rfl rfl (fa_CI.A hC).1 dX6_seal_5 ?_
  refine fa_callVvu (As := [.ref (fa_B G + (1))]) (rest := []) CX HX (g_draft l G n hn v r hC ) ln_X6_33 (by omega) rfl rfl rfl rfl (Nat.le_of_ble_eq_true rfl) hl.1 ⟨Nat.le_of_ble_eq_true rfl, Nat.le_of_ble_eq_true rfl⟩ ⟨Nat.le_refl _, Nat.le_refl _⟩ dX6_seal_8 (fun v1442 H locs h1441 HX1443 => ?_)
  have hC_v1442 := h1441.1.2
  have h_draft := h1441.1.1
  refine lv_aload_n hx hb dX6_seal_11 rfl (lv_at hl 0 rfl) ?_
  refine lv_aload_n hx hb dX6_seal_12 rfl (lv_at hl 0 rfl) ?_
  refine fa_getr (k := 0) (j := 1) CX HX1443 fl_X6_10 (by omega) rfl rfl (fa_CI.A hC_v1442).1 dX6_seal_13 ?_
  refine lv_iload_n hx hb dX6_seal_16 rfl (lv_at hl 1 rfl) ?_
  refine lv_iload_n hx hb dX6_seal_17 rfl (lv_at hl 2 rfl) ?_
  refine lv_iload_n hx hb dX6_seal_18 rfl (lv_at hl 3 rfl) ?_
  refine fa_callViu (As := [.int (a1), .int (a2), .int (a3)]) (rest := [.ref (fa_B G + (0))]) CX HX1443 (g_putSeal l G n hn v1442 r 1 (by decide) (fa_CI.S hC_v1442 1 (by decide)).1 (fa_CI.S hC_v1442 1 (by decide)).2 (a1) (a2) (a3) ) ln_X6_48 (fa_lt (by decide) 0 (by decide) hn) (fa_s0 (by decide)) rfl rfl rfl (Nat.le_of_ble_eq_true rfl) hl.1 ⟨Nat.le_of_ble_eq_true rfl, Nat.le_of_ble_eq_true rfl⟩ ⟨Nat.le_refl _, Nat.le_refl _⟩ dX6_seal_19 (fun x1445 v1446 H locs h1444 HX1447 => ?_)
  have h_putSeal := h1444.1
  have hIS_v1446 : fa_IS v1446 1 := h1444.1.2
  have hC_v1446 : fa_CI v1446 r := fa_CI.st hC_v1442 (by decide) hIS_v1446 (fa_CI.S hC_v1442 1 (by decide)).1 (fa_fr.wide h1444.2 (by omega) (by omega)) (fun _ _ => rfl)
  refine fa_callVi (As := [.int (x1445)]) (rest := []) CX HX1447 (g_recorded l G n hn v1446 r hC_v1446 (x1445)) ln_X6_41 (by omega) rfl rfl rfl rfl (Nat.le_of_ble_eq_true rfl) hl.1 ⟨Nat.le_of_ble_eq_true rfl, Nat.le_of_ble_eq_true rfl⟩ ⟨Nat.le_refl _, Nat.le_refl _⟩ dX6_seal_22 (fun x1449 v1450 r1451 H locs h1448 HX1452 => ?_)
  dsimp only at h1448
  have hC_v1450 := h1448.2.1
  have h_recorded := h1448.1
  exact RET _ _ _ _ _ _ _ HX1452 dX6_seal_25 (⟨(fun A H hV => fb_face hC hV h_draft h1444.2 (fun _ _ => rfl) (fun hc => h_putSeal.1 A hV.1 hc) (hV.1.sealA a1 a2 a3) h_recorded), hC_v1450, (fa_fr.tr (fa_fr.tr (fa_fr.tr fa_fr.rf (fa_fr.wide h1441.2 (by omega) (by omega))) (fa_fr.wide h1444.2 (by omega) (by omega))) (fa_fr.wide h1448.2.2.1 (by omega) (by omega))), (fun k hk => ((h1448.2.2.2 k hk).trans rfl))⟩)
set_option maxHeartbeats 4000000 in
set_option maxRecDepth 100000 in
theorem g_lift (l : Launch) (G : fa_G) (n : Nat) (hn : 397 ≤ n) (v : fa_V) (r : fa_R) (hC : fa_CI v r) (a1 : Int32) (a2 : Int32) : fa_MI l G n yX6_lift cX6_lift 3 (some .int) 6 [.ref (fa_B G + (0)), .int (a1), .int (a2)] v r (fun x w => (∀ A H, fb_CV v r A H → x = (fb_liftA A a1 a2).1 ∧ fb_CV w.1 w.2 (fb_liftA A a1 a2).2 (fb_rec H A (fb_liftA A a1 a2).1)) ∧ (fa_CI w.1 w.2) ∧ (fa_fr 1 395 v w.1) ∧ (∀ k, 395 ≤ k → w.2 k = r k)) := by
  refine fa_startI (by decide +kernel) (Nat.le_of_ble_eq_true rfl) (fun p e s m args below meth c ls Q CX hl HX RET => ?_)
  have hl : lv_has ls 3 [(0, .ref (fa_B G + (0))), (1, .int (a1)), (2, .int (a2))] := hl
  have hx := CX.1.1
  have hb := CX.1.2.1
  have hB : (1 : Nat) ∈ fa_bs := by decide
  refine lv_aload_n hx hb dX6_lift_0 rfl (lv_at hl 0 rfl) ?_
  refine fa_getr (k := 0) (j := 113) CX HX fl_X6_22 (by omega) rfl rfl (fa_CI.A hC).2.2.1 dX6_lift_1 ?_
  refine lv_aload_n hx hb dX6_lift_4 rfl (lv_at hl 0 rfl) ?_
  refine fa_getr (k := 0) (j := 1) CX HX fl_X6_10 (by omega) rfl rfl (fa_CI.A hC).1 dX6_lift_5 ?_
  refine fa_callVvu (As := [.ref (fa_B G + (1))]) (rest := []) CX HX (g_draft l G n hn v r hC ) ln_X6_33 (by omega) rfl rfl rfl rfl (Nat.le_of_ble_eq_true rfl) hl.1 ⟨Nat.le_of_ble_eq_true rfl, Nat.le_of_ble_eq_true rfl⟩ ⟨Nat.le_refl _, Nat.le_refl _⟩ dX6_lift_8 (fun v1454 H locs h1453 HX1455 => ?_)
  have hC_v1454 := h1453.1.2
  have h_draft := h1453.1.1
  refine lv_aload_n hx hb dX6_lift_11 rfl (lv_at hl 0 rfl) ?_
  refine lv_aload_n hx hb dX6_lift_12 rfl (lv_at hl 0 rfl) ?_
  refine fa_getr (k := 0) (j := 1) CX HX1455 fl_X6_10 (by omega) rfl rfl (fa_CI.A hC_v1454).1 dX6_lift_13 ?_
  refine lv_iload_n hx hb dX6_lift_16 rfl (lv_at hl 1 rfl) ?_
  refine lv_iload_n hx hb dX6_lift_17 rfl (lv_at hl 2 rfl) ?_
  refine fa_callViu (As := [.int (a1), .int (a2)]) (rest := [.ref (fa_B G + (0))]) CX HX1455 (g_takeSeal l G n hn v1454 r 1 (by decide) (fa_CI.S hC_v1454 1 (by decide)).1 (fa_CI.S hC_v1454 1 (by decide)).2 (a1) (a2) ) ln_X6_52 (fa_lt (by decide) 0 (by decide) hn) (fa_s0 (by decide)) rfl rfl rfl (Nat.le_of_ble_eq_true rfl) hl.1 ⟨Nat.le_of_ble_eq_true rfl, Nat.le_of_ble_eq_true rfl⟩ ⟨Nat.le_refl _, Nat.le_refl _⟩ dX6_lift_18 (fun x1457 v1458 H locs h1456 HX1459 => ?_)
  have h_takeSeal := h1456.1
  have hIS_v1458 : fa_IS v1458 1 := h1456.1.2
  have hC_v1458 : fa_CI v1458 r := fa_CI.st hC_v1454 (by decide) hIS_v1458 (fa_CI.S hC_v1454 1 (by decide)).1 (fa_fr.wide h1456.2 (by omega) (by omega)) (fun _ _ => rfl)
  refine fa_callVi (As := [.int (x1457)]) (rest := []) CX HX1459 (g_recorded l G n hn v1458 r hC_v1458 (x1457)) ln_X6_41 (by omega) rfl rfl rfl rfl (Nat.le_of_ble_eq_true rfl) hl.1 ⟨Nat.le_of_ble_eq_true rfl, Nat.le_of_ble_eq_true rfl⟩ ⟨Nat.le_refl _, Nat.le_refl _⟩ dX6_lift_21 (fun x1461 v1462 r1463 H locs h1460 HX1464 => ?_)
  dsimp only at h1460
  have hC_v1462 := h1460.2.1
  have h_recorded := h1460.1
  exact RET _ _ _ _ _ _ _ HX1464 dX6_lift_24 (⟨(fun A H hV => fb_face hC hV h_draft h1456.2 (fun _ _ => rfl) (fun hc => h_takeSeal.1 A hV.1 hc) (hV.1.liftA a1 a2) h_recorded), hC_v1462, (fa_fr.tr (fa_fr.tr (fa_fr.tr fa_fr.rf (fa_fr.wide h1453.2 (by omega) (by omega))) (fa_fr.wide h1456.2 (by omega) (by omega))) (fa_fr.wide h1460.2.2.1 (by omega) (by omega))), (fun k hk => ((h1460.2.2.2 k hk).trans rfl))⟩)
set_option maxHeartbeats 4000000 in
set_option maxRecDepth 100000 in
theorem g_refer (l : Launch) (G : fa_G) (n : Nat) (hn : 397 ≤ n) (v : fa_V) (r : fa_R) (hC : fa_CI v r) (a1 : Int32) (a2 : Int32) : fa_MI l G n yX6_refer cX6_refer 3 (some .int) 6 [.ref (fa_B G + (0)), .int (a1), .int (a2)] v r (fun x w => (∀ A H, fb_CV v r A H → x = (fb_refA A a1 a2).1 ∧ fb_CV w.1 w.2 (fb_refA A a1 a2).2 (fb_rec H A (fb_refA A a1 a2).1)) ∧ (fa_CI w.1 w.2) ∧ (fa_fr 1 395 v w.1) ∧ (∀ k, 395 ≤ k → w.2 k = r k)) := by
  refine fa_startI (by decide +kernel) (Nat.le_of_ble_eq_true rfl) (fun p e s m args below meth c ls Q CX hl HX RET => ?_)
  have hl : lv_has ls 3 [(0, .ref (fa_B G + (0))), (1, .int (a1)), (2, .int (a2))] := hl
  have hx := CX.1.1
  have hb := CX.1.2.1
  have hB : (1 : Nat) ∈ fa_bs := by decide
  refine lv_aload_n hx hb dX6_refer_0 rfl (lv_at hl 0 rfl) ?_
  refine fa_getr (k := 0) (j := 113) CX HX fl_X6_22 (by omega) rfl rfl (fa_CI.A hC).2.2.1 dX6_refer_1 ?_
  refine lv_aload_n hx hb dX6_refer_4 rfl (lv_at hl 0 rfl) ?_
  refine fa_getr (k := 0) (j := 1) CX HX fl_X6_10 (by omega) rfl rfl (fa_CI.A hC).1 dX6_refer_5 ?_
  refine fa_callVvu (As := [.ref (fa_B G + (1))]) (rest := []) CX HX (g_draft l G n hn v r hC ) ln_X6_33 (by omega) rfl rfl rfl rfl (Nat.le_of_ble_eq_true rfl) hl.1 ⟨Nat.le_of_ble_eq_true rfl, Nat.le_of_ble_eq_true rfl⟩ ⟨Nat.le_refl _, Nat.le_refl _⟩ dX6_refer_8 (fun v1466 H locs h1465 HX1467 => ?_)
  have hC_v1466 := h1465.1.2
  have h_draft := h1465.1.1
  refine lv_aload_n hx hb dX6_refer_11 rfl (lv_at hl 0 rfl) ?_
  refine lv_aload_n hx hb dX6_refer_12 rfl (lv_at hl 0 rfl) ?_
  refine fa_getr (k := 0) (j := 1) CX HX1467 fl_X6_10 (by omega) rfl rfl (fa_CI.A hC_v1466).1 dX6_refer_13 ?_
  refine lv_iload_n hx hb dX6_refer_16 rfl (lv_at hl 1 rfl) ?_
  refine lv_iload_n hx hb dX6_refer_17 rfl (lv_at hl 2 rfl) ?_
  refine fa_callViu (As := [.int (a1), .int (a2)]) (rest := [.ref (fa_B G + (0))]) CX HX1467 (g_putReference l G n hn v1466 r 1 (by decide) (fa_CI.S hC_v1466 1 (by decide)).1 (fa_CI.S hC_v1466 1 (by decide)).2 (a1) (a2) ) ln_X6_55 (fa_lt (by decide) 0 (by decide) hn) (fa_s0 (by decide)) rfl rfl rfl (Nat.le_of_ble_eq_true rfl) hl.1 ⟨Nat.le_of_ble_eq_true rfl, Nat.le_of_ble_eq_true rfl⟩ ⟨Nat.le_refl _, Nat.le_refl _⟩ dX6_refer_18 (fun x1469 v1470 H locs h1468 HX1471 => ?_)
  have h_putReference := h1468.1
  have hIS_v1470 : fa_IS v1470 1 := h1468.1.2
  have hC_v1470 : fa_CI v1470 r := fa_CI.st hC_v1466 (by decide) hIS_v1470 (fa_CI.S hC_v1466 1 (by decide)).1 (fa_fr.wide h1468.2 (by omega) (by omega)) (fun _ _ => rfl)
  refine fa_callVi (As := [.int (x1469)]) (rest := []) CX HX1471 (g_recorded l G n hn v1470 r hC_v1470 (x1469)) ln_X6_41 (by omega) rfl rfl rfl rfl (Nat.le_of_ble_eq_true rfl) hl.1 ⟨Nat.le_of_ble_eq_true rfl, Nat.le_of_ble_eq_true rfl⟩ ⟨Nat.le_refl _, Nat.le_refl _⟩ dX6_refer_21 (fun x1473 v1474 r1475 H locs h1472 HX1476 => ?_)
  dsimp only at h1472
  have hC_v1474 := h1472.2.1
  have h_recorded := h1472.1
  exact RET _ _ _ _ _ _ _ HX1476 dX6_refer_24 (⟨(fun A H hV => fb_face hC hV h_draft h1468.2 (fun _ _ => rfl) (fun hc => h_putReference.1 A hV.1 hc) (hV.1.refA a1 a2) h_recorded), hC_v1474, (fa_fr.tr (fa_fr.tr (fa_fr.tr fa_fr.rf (fa_fr.wide h1465.2 (by omega) (by omega))) (fa_fr.wide h1468.2 (by omega) (by omega))) (fa_fr.wide h1472.2.2.1 (by omega) (by omega))), (fun k hk => ((h1472.2.2.2 k hk).trans rfl))⟩)
set_option maxHeartbeats 4000000 in
set_option maxRecDepth 100000 in
theorem g_reserve (l : Launch) (G : fa_G) (n : Nat) (hn : 397 ≤ n) (v : fa_V) (r : fa_R) (hC : fa_CI v r) (a1 : Int32) (a2 : Int32) : fa_MI l G n yX6_reserve cX6_reserve 3 (some .int) 6 [.ref (fa_B G + (0)), .int (a1), .int (a2)] v r (fun x w => (∀ A H, fb_CV v r A H → x = (fb_resA A a1 a2).1 ∧ fb_CV w.1 w.2 (fb_resA A a1 a2).2 (fb_rec H A (fb_resA A a1 a2).1)) ∧ (fa_CI w.1 w.2) ∧ (fa_fr 1 395 v w.1) ∧ (∀ k, 395 ≤ k → w.2 k = r k)) := by
  refine fa_startI (by decide +kernel) (Nat.le_of_ble_eq_true rfl) (fun p e s m args below meth c ls Q CX hl HX RET => ?_)
  have hl : lv_has ls 3 [(0, .ref (fa_B G + (0))), (1, .int (a1)), (2, .int (a2))] := hl
  have hx := CX.1.1
  have hb := CX.1.2.1
  have hB : (1 : Nat) ∈ fa_bs := by decide
  refine lv_aload_n hx hb dX6_reserve_0 rfl (lv_at hl 0 rfl) ?_
  refine fa_getr (k := 0) (j := 113) CX HX fl_X6_22 (by omega) rfl rfl (fa_CI.A hC).2.2.1 dX6_reserve_1 ?_
  refine lv_aload_n hx hb dX6_reserve_4 rfl (lv_at hl 0 rfl) ?_
  refine fa_getr (k := 0) (j := 1) CX HX fl_X6_10 (by omega) rfl rfl (fa_CI.A hC).1 dX6_reserve_5 ?_
  refine fa_callVvu (As := [.ref (fa_B G + (1))]) (rest := []) CX HX (g_draft l G n hn v r hC ) ln_X6_33 (by omega) rfl rfl rfl rfl (Nat.le_of_ble_eq_true rfl) hl.1 ⟨Nat.le_of_ble_eq_true rfl, Nat.le_of_ble_eq_true rfl⟩ ⟨Nat.le_refl _, Nat.le_refl _⟩ dX6_reserve_8 (fun v1478 H locs h1477 HX1479 => ?_)
  have hC_v1478 := h1477.1.2
  have h_draft := h1477.1.1
  refine lv_aload_n hx hb dX6_reserve_11 rfl (lv_at hl 0 rfl) ?_
  refine lv_aload_n hx hb dX6_reserve_12 rfl (lv_at hl 0 rfl) ?_
  refine fa_getr (k := 0) (j := 1) CX HX1479 fl_X6_10 (by omega) rfl rfl (fa_CI.A hC_v1478).1 dX6_reserve_13 ?_
  refine lv_iload_n hx hb dX6_reserve_16 rfl (lv_at hl 1 rfl) ?_
  refine lv_iload_n hx hb dX6_reserve_17 rfl (lv_at hl 2 rfl) ?_
  refine fa_callViu (As := [.int (a1), .int (a2)]) (rest := [.ref (fa_B G + (0))]) CX HX1479 (g_putReservation l G n hn v1478 r 1 (by decide) (fa_CI.S hC_v1478 1 (by decide)).1 (fa_CI.S hC_v1478 1 (by decide)).2 (a1) (a2) ) ln_X6_58 (fa_lt (by decide) 0 (by decide) hn) (fa_s0 (by decide)) rfl rfl rfl (Nat.le_of_ble_eq_true rfl) hl.1 ⟨Nat.le_of_ble_eq_true rfl, Nat.le_of_ble_eq_true rfl⟩ ⟨Nat.le_refl _, Nat.le_refl _⟩ dX6_reserve_18 (fun x1481 v1482 H locs h1480 HX1483 => ?_)
  have h_putReservation := h1480.1
  have hIS_v1482 : fa_IS v1482 1 := h1480.1.2
  have hC_v1482 : fa_CI v1482 r := fa_CI.st hC_v1478 (by decide) hIS_v1482 (fa_CI.S hC_v1478 1 (by decide)).1 (fa_fr.wide h1480.2 (by omega) (by omega)) (fun _ _ => rfl)
  refine fa_callVi (As := [.int (x1481)]) (rest := []) CX HX1483 (g_recorded l G n hn v1482 r hC_v1482 (x1481)) ln_X6_41 (by omega) rfl rfl rfl rfl (Nat.le_of_ble_eq_true rfl) hl.1 ⟨Nat.le_of_ble_eq_true rfl, Nat.le_of_ble_eq_true rfl⟩ ⟨Nat.le_refl _, Nat.le_refl _⟩ dX6_reserve_21 (fun x1485 v1486 r1487 H locs h1484 HX1488 => ?_)
  dsimp only at h1484
  have hC_v1486 := h1484.2.1
  have h_recorded := h1484.1
  exact RET _ _ _ _ _ _ _ HX1488 dX6_reserve_24 (⟨(fun A H hV => fb_face hC hV h_draft h1480.2 (fun _ _ => rfl) (fun hc => h_putReservation.1 A hV.1 hc) (hV.1.resA a1 a2) h_recorded), hC_v1486, (fa_fr.tr (fa_fr.tr (fa_fr.tr fa_fr.rf (fa_fr.wide h1477.2 (by omega) (by omega))) (fa_fr.wide h1480.2 (by omega) (by omega))) (fa_fr.wide h1484.2.2.1 (by omega) (by omega))), (fun k hk => ((h1484.2.2.2 k hk).trans rfl))⟩)
set_option maxHeartbeats 4000000 in
set_option maxRecDepth 100000 in
theorem g_cancel (l : Launch) (G : fa_G) (n : Nat) (hn : 397 ≤ n) (v : fa_V) (r : fa_R) (hC : fa_CI v r) (a1 : Int32) (a2 : Int32) : fa_MI l G n yX6_cancel cX6_cancel 3 (some .int) 6 [.ref (fa_B G + (0)), .int (a1), .int (a2)] v r (fun x w => (∀ A H, fb_CV v r A H → x = (fb_canA A a1 a2).1 ∧ fb_CV w.1 w.2 (fb_canA A a1 a2).2 (fb_rec H A (fb_canA A a1 a2).1)) ∧ (fa_CI w.1 w.2) ∧ (fa_fr 1 395 v w.1) ∧ (∀ k, 395 ≤ k → w.2 k = r k)) := by
  refine fa_startI (by decide +kernel) (Nat.le_of_ble_eq_true rfl) (fun p e s m args below meth c ls Q CX hl HX RET => ?_)
  have hl : lv_has ls 3 [(0, .ref (fa_B G + (0))), (1, .int (a1)), (2, .int (a2))] := hl
  have hx := CX.1.1
  have hb := CX.1.2.1
  have hB : (1 : Nat) ∈ fa_bs := by decide
  refine lv_aload_n hx hb dX6_cancel_0 rfl (lv_at hl 0 rfl) ?_
  refine fa_getr (k := 0) (j := 113) CX HX fl_X6_22 (by omega) rfl rfl (fa_CI.A hC).2.2.1 dX6_cancel_1 ?_
  refine lv_aload_n hx hb dX6_cancel_4 rfl (lv_at hl 0 rfl) ?_
  refine fa_getr (k := 0) (j := 1) CX HX fl_X6_10 (by omega) rfl rfl (fa_CI.A hC).1 dX6_cancel_5 ?_
  refine fa_callVvu (As := [.ref (fa_B G + (1))]) (rest := []) CX HX (g_draft l G n hn v r hC ) ln_X6_33 (by omega) rfl rfl rfl rfl (Nat.le_of_ble_eq_true rfl) hl.1 ⟨Nat.le_of_ble_eq_true rfl, Nat.le_of_ble_eq_true rfl⟩ ⟨Nat.le_refl _, Nat.le_refl _⟩ dX6_cancel_8 (fun v1490 H locs h1489 HX1491 => ?_)
  have hC_v1490 := h1489.1.2
  have h_draft := h1489.1.1
  refine lv_aload_n hx hb dX6_cancel_11 rfl (lv_at hl 0 rfl) ?_
  refine lv_aload_n hx hb dX6_cancel_12 rfl (lv_at hl 0 rfl) ?_
  refine fa_getr (k := 0) (j := 1) CX HX1491 fl_X6_10 (by omega) rfl rfl (fa_CI.A hC_v1490).1 dX6_cancel_13 ?_
  refine lv_iload_n hx hb dX6_cancel_16 rfl (lv_at hl 1 rfl) ?_
  refine lv_iload_n hx hb dX6_cancel_17 rfl (lv_at hl 2 rfl) ?_
  refine fa_callViu (As := [.int (a1), .int (a2)]) (rest := [.ref (fa_B G + (0))]) CX HX1491 (g_takeReservation l G n hn v1490 r 1 (by decide) (fa_CI.S hC_v1490 1 (by decide)).1 (fa_CI.S hC_v1490 1 (by decide)).2 (a1) (a2) ) ln_X6_61 (fa_lt (by decide) 0 (by decide) hn) (fa_s0 (by decide)) rfl rfl rfl (Nat.le_of_ble_eq_true rfl) hl.1 ⟨Nat.le_of_ble_eq_true rfl, Nat.le_of_ble_eq_true rfl⟩ ⟨Nat.le_refl _, Nat.le_refl _⟩ dX6_cancel_18 (fun x1493 v1494 H locs h1492 HX1495 => ?_)
  have h_takeReservation := h1492.1
  have hIS_v1494 : fa_IS v1494 1 := h1492.1.2
  have hC_v1494 : fa_CI v1494 r := fa_CI.st hC_v1490 (by decide) hIS_v1494 (fa_CI.S hC_v1490 1 (by decide)).1 (fa_fr.wide h1492.2 (by omega) (by omega)) (fun _ _ => rfl)
  refine fa_callVi (As := [.int (x1493)]) (rest := []) CX HX1495 (g_recorded l G n hn v1494 r hC_v1494 (x1493)) ln_X6_41 (by omega) rfl rfl rfl rfl (Nat.le_of_ble_eq_true rfl) hl.1 ⟨Nat.le_of_ble_eq_true rfl, Nat.le_of_ble_eq_true rfl⟩ ⟨Nat.le_refl _, Nat.le_refl _⟩ dX6_cancel_21 (fun x1497 v1498 r1499 H locs h1496 HX1500 => ?_)
  dsimp only at h1496
  have hC_v1498 := h1496.2.1
  have h_recorded := h1496.1
  exact RET _ _ _ _ _ _ _ HX1500 dX6_cancel_24 (⟨(fun A H hV => fb_face hC hV h_draft h1492.2 (fun _ _ => rfl) (fun hc => h_takeReservation.1 A hV.1 hc) (hV.1.canA a1 a2) h_recorded), hC_v1498, (fa_fr.tr (fa_fr.tr (fa_fr.tr fa_fr.rf (fa_fr.wide h1489.2 (by omega) (by omega))) (fa_fr.wide h1492.2 (by omega) (by omega))) (fa_fr.wide h1496.2.2.1 (by omega) (by omega))), (fun k hk => ((h1496.2.2.2 k hk).trans rfl))⟩)
set_option maxHeartbeats 4000000 in
set_option maxRecDepth 100000 in
theorem g_pass (l : Launch) (G : fa_G) (n : Nat) (hn : 397 ≤ n) (v : fa_V) (r : fa_R) (hC : fa_CI v r) (a1 : Int32) : fa_MI l G n yX6_pass cX6_pass 2 (some .int) 8 [.ref (fa_B G + (0)), .int (a1)] v r (fun x w => (∀ A H, fb_CV v r A H → x = (fb_passA A a1).1 ∧ fb_CV w.1 w.2 (fb_passA A a1).2 (fb_rec H A (fb_passA A a1).1)) ∧ (fa_CI w.1 w.2) ∧ (fa_fr 1 395 v w.1) ∧ (∀ k, 395 ≤ k → w.2 k = r k)) := by
  refine fa_startI (by decide +kernel) (Nat.le_of_ble_eq_true rfl) (fun p e s m args below meth c ls Q CX hl HX RET => ?_)
  have hl : lv_has ls 2 [(0, .ref (fa_B G + (0))), (1, .int (a1))] := hl
  have hx := CX.1.1
  have hb := CX.1.2.1
  have hB : (1 : Nat) ∈ fa_bs := by decide
  refine lv_aload_n hx hb dX6_pass_0 rfl (lv_at hl 0 rfl) ?_
  refine fa_getr (k := 0) (j := 113) CX HX fl_X6_22 (by omega) rfl rfl (fa_CI.A hC).2.2.1 dX6_pass_1 ?_
  refine lv_aload_n hx hb dX6_pass_4 rfl (lv_at hl 0 rfl) ?_
  refine fa_getr (k := 0) (j := 1) CX HX fl_X6_10 (by omega) rfl rfl (fa_CI.A hC).1 dX6_pass_5 ?_
  refine fa_callVvu (As := [.ref (fa_B G + (1))]) (rest := []) CX HX (g_draft l G n hn v r hC ) ln_X6_33 (by omega) rfl rfl rfl rfl (Nat.le_of_ble_eq_true rfl) hl.1 ⟨Nat.le_of_ble_eq_true rfl, Nat.le_of_ble_eq_true rfl⟩ ⟨Nat.le_refl _, Nat.le_refl _⟩ dX6_pass_8 (fun v1502 H locs h1501 HX1503 => ?_)
  have hC_v1502 := h1501.1.2
  have h_draft := h1501.1.1
  refine lv_aload_n hx hb dX6_pass_11 rfl (lv_at hl 0 rfl) ?_
  refine lv_aload_n hx hb dX6_pass_12 rfl (lv_at hl 0 rfl) ?_
  refine fa_getr (k := 0) (j := 1) CX HX1503 fl_X6_10 (by omega) rfl rfl (fa_CI.A hC_v1502).1 dX6_pass_13 ?_
  refine lv_iload_n hx hb dX6_pass_16 rfl (lv_at hl 1 rfl) ?_
  refine fa_callVi (As := [.int (a1)]) (rest := [.ref (fa_B G + (0))]) CX HX1503 (g_passDays l G n hn v1502 r 1 (by decide) (fa_CI.S hC_v1502 1 (by decide)).1 (fa_CI.S hC_v1502 1 (by decide)).2 (a1) ) ln_X6_64 (fa_lt (by decide) 0 (by decide) hn) (fa_s0 (by decide)) rfl rfl rfl (Nat.le_of_ble_eq_true rfl) hl.1 ⟨Nat.le_of_ble_eq_true rfl, Nat.le_of_ble_eq_true rfl⟩ ⟨Nat.le_refl _, Nat.le_refl _⟩ dX6_pass_17 (fun x1505 v1506 r1507 H locs h1504 HX1508 => ?_)
  dsimp only at h1504
  have hIS_v1506 := h1504.2.1
  have hr1_r1507 := h1504.2.2.1
  have hrr_r1507 := h1504.2.2.2.2
  have h_passDays := h1504.1
  have hC_v1506 : fa_CI v1506 r1507 := fa_CI.st hC_v1502 (by decide) hIS_v1506 hr1_r1507 (fa_fr.wide h1504.2.2.2.1 (by omega) (by omega)) h1504.2.2.2.2
  refine fa_callVi (As := [.int (x1505)]) (rest := []) CX HX1508 (g_recorded l G n hn v1506 r1507 hC_v1506 (x1505)) ln_X6_41 (by omega) rfl rfl rfl rfl (Nat.le_of_ble_eq_true rfl) hl.1 ⟨Nat.le_of_ble_eq_true rfl, Nat.le_of_ble_eq_true rfl⟩ ⟨Nat.le_refl _, Nat.le_refl _⟩ dX6_pass_20 (fun x1510 v1511 r1512 H locs h1509 HX1513 => ?_)
  dsimp only at h1509
  have hC_v1511 := h1509.2.1
  have h_recorded := h1509.1
  exact RET _ _ _ _ _ _ _ HX1513 dX6_pass_23 (⟨(fun A H hV => fb_face hC hV h_draft h1504.2.2.2.1 (fun k hk => h1504.2.2.2.2 k (by omega)) (fun hc => h_passDays A hV.1 hc) (hV.1.passA a1) h_recorded), hC_v1511, (fa_fr.tr (fa_fr.tr (fa_fr.tr fa_fr.rf (fa_fr.wide h1501.2 (by omega) (by omega))) (fa_fr.wide h1504.2.2.2.1 (by omega) (by omega))) (fa_fr.wide h1509.2.2.1 (by omega) (by omega))), (fun k hk => ((h1509.2.2.2 k hk).trans ((h1504.2.2.2.2 k (by omega)).trans rfl)))⟩)
set_option maxHeartbeats 4000000 in
set_option maxRecDepth 100000 in
theorem g_set (l : Launch) (G : fa_G) (n : Nat) (hn : 397 ≤ n) (v : fa_V) (r : fa_R) (hC : fa_CI v r) (a1 : Int32) (a2 : Int32) : fa_MI l G n yX6_set cX6_set 3 (some .int) 6 [.ref (fa_B G + (0)), .int (a1), .int (a2)] v r (fun x w => (∀ A H, fb_CV v r A H → x = (fb_setA A a1 a2).1 ∧ fb_CV w.1 w.2 (fb_setA A a1 a2).2 (fb_rec H A (fb_setA A a1 a2).1)) ∧ (fa_CI w.1 w.2) ∧ (fa_fr 1 395 v w.1) ∧ (∀ k, 395 ≤ k → w.2 k = r k)) := by
  refine fa_startI (by decide +kernel) (Nat.le_of_ble_eq_true rfl) (fun p e s m args below meth c ls Q CX hl HX RET => ?_)
  have hl : lv_has ls 3 [(0, .ref (fa_B G + (0))), (1, .int (a1)), (2, .int (a2))] := hl
  have hx := CX.1.1
  have hb := CX.1.2.1
  have hB : (1 : Nat) ∈ fa_bs := by decide
  refine lv_aload_n hx hb dX6_set_0 rfl (lv_at hl 0 rfl) ?_
  refine fa_getr (k := 0) (j := 113) CX HX fl_X6_22 (by omega) rfl rfl (fa_CI.A hC).2.2.1 dX6_set_1 ?_
  refine lv_aload_n hx hb dX6_set_4 rfl (lv_at hl 0 rfl) ?_
  refine fa_getr (k := 0) (j := 1) CX HX fl_X6_10 (by omega) rfl rfl (fa_CI.A hC).1 dX6_set_5 ?_
  refine fa_callVvu (As := [.ref (fa_B G + (1))]) (rest := []) CX HX (g_draft l G n hn v r hC ) ln_X6_33 (by omega) rfl rfl rfl rfl (Nat.le_of_ble_eq_true rfl) hl.1 ⟨Nat.le_of_ble_eq_true rfl, Nat.le_of_ble_eq_true rfl⟩ ⟨Nat.le_refl _, Nat.le_refl _⟩ dX6_set_8 (fun v1515 H locs h1514 HX1516 => ?_)
  have hC_v1515 := h1514.1.2
  have h_draft := h1514.1.1
  refine lv_aload_n hx hb dX6_set_11 rfl (lv_at hl 0 rfl) ?_
  refine lv_aload_n hx hb dX6_set_12 rfl (lv_at hl 0 rfl) ?_
  refine fa_getr (k := 0) (j := 1) CX HX1516 fl_X6_10 (by omega) rfl rfl (fa_CI.A hC_v1515).1 dX6_set_13 ?_
  refine lv_iload_n hx hb dX6_set_16 rfl (lv_at hl 1 rfl) ?_
  refine lv_iload_n hx hb dX6_set_17 rfl (lv_at hl 2 rfl) ?_
  refine fa_callViu (As := [.int (a1), .int (a2)]) (rest := [.ref (fa_B G + (0))]) CX HX1516 (g_changeSetting l G n hn v1515 r 1 (by decide) (fa_CI.S hC_v1515 1 (by decide)).1 (fa_CI.S hC_v1515 1 (by decide)).2 (a1) (a2) ) ln_X6_67 (fa_lt (by decide) 0 (by decide) hn) (fa_s0 (by decide)) rfl rfl rfl (Nat.le_of_ble_eq_true rfl) hl.1 ⟨Nat.le_of_ble_eq_true rfl, Nat.le_of_ble_eq_true rfl⟩ ⟨Nat.le_refl _, Nat.le_refl _⟩ dX6_set_18 (fun x1518 v1519 H locs h1517 HX1520 => ?_)
  have h_changeSetting := h1517.1
  have hIS_v1519 : fa_IS v1519 1 := h1517.1.2
  have hC_v1519 : fa_CI v1519 r := fa_CI.st hC_v1515 (by decide) hIS_v1519 (fa_CI.S hC_v1515 1 (by decide)).1 (fa_fr.wide h1517.2 (by omega) (by omega)) (fun _ _ => rfl)
  refine fa_callVi (As := [.int (x1518)]) (rest := []) CX HX1520 (g_recorded l G n hn v1519 r hC_v1519 (x1518)) ln_X6_41 (by omega) rfl rfl rfl rfl (Nat.le_of_ble_eq_true rfl) hl.1 ⟨Nat.le_of_ble_eq_true rfl, Nat.le_of_ble_eq_true rfl⟩ ⟨Nat.le_refl _, Nat.le_refl _⟩ dX6_set_21 (fun x1522 v1523 r1524 H locs h1521 HX1525 => ?_)
  dsimp only at h1521
  have hC_v1523 := h1521.2.1
  have h_recorded := h1521.1
  exact RET _ _ _ _ _ _ _ HX1525 dX6_set_24 (⟨(fun A H hV => fb_face hC hV h_draft h1517.2 (fun _ _ => rfl) (fun hc => h_changeSetting.1 A hV.1 hc) (hV.1.setA a1 a2) h_recorded), hC_v1523, (fa_fr.tr (fa_fr.tr (fa_fr.tr fa_fr.rf (fa_fr.wide h1514.2 (by omega) (by omega))) (fa_fr.wide h1517.2 (by omega) (by omega))) (fa_fr.wide h1521.2.2.1 (by omega) (by omega))), (fun k hk => ((h1521.2.2.2 k hk).trans rfl))⟩)
/-! ORDERS AND THE REPORT, as numbers -/
def fb_whyA (k o s w : Int32) : Int32 := if w < 0 ∨ ¬ w ≤ nI 2 then (-2 : Int32) else if k = 0 then (-6 : Int32) else if w = (0 : Int32) then o else if w = (1 : Int32) then s else k
noncomputable def fb_doA (A : fb_At) (c p q : Int32) : Int32 × fb_At := if c = (110 : Int32) then fb_addA A p q else if c = (97 : Int32) then fb_askA A p else if c = (115 : Int32) then fb_sealA A p q (-1 : Int32) else if c = (108 : Int32) then fb_liftA A p q else if c = (102 : Int32) then fb_refA A p q else fb_passA A p
theorem fb_doA_n {A : fb_At} {c p q : Int32} (h : c = (110 : Int32)) : fb_doA A c p q = fb_addA A p q := if_pos h
theorem fb_doA_a {A : fb_At} {c p q : Int32} (h : c = (97 : Int32)) : fb_doA A c p q = fb_askA A p := by rw [fb_doA, h, if_neg (by decide), if_pos rfl]
theorem fb_doA_s {A : fb_At} {c p q : Int32} (h : c = (115 : Int32)) : fb_doA A c p q = fb_sealA A p q (-1 : Int32) := by rw [fb_doA, h, if_neg (by decide), if_neg (by decide), if_pos rfl]
theorem fb_doA_l {A : fb_At} {c p q : Int32} (h : c = (108 : Int32)) : fb_doA A c p q = fb_liftA A p q := by rw [fb_doA, h, if_neg (by decide), if_neg (by decide), if_neg (by decide), if_pos rfl]
theorem fb_doA_f {A : fb_At} {c p q : Int32} (h : c = (102 : Int32)) : fb_doA A c p q = fb_refA A p q := by rw [fb_doA, h, if_neg (by decide), if_neg (by decide), if_neg (by decide), if_neg (by decide), if_pos rfl]
theorem fb_doA_o {A : fb_At} {c p q : Int32} (h1 : ¬ c = (110 : Int32)) (h2 : ¬ c = (97 : Int32)) (h3 : ¬ c = (115 : Int32)) (h4 : ¬ c = (108 : Int32)) (h5 : ¬ c = (102 : Int32)) : fb_doA A c p q = fb_passA A p := by rw [fb_doA, if_neg h1, if_neg h2, if_neg h3, if_neg h4, if_neg h5]
theorem fb_doA_q {A : fb_At} {c p q q2 : Int32} (h : ¬ c = (97 : Int32) → ¬ c = (100 : Int32) → q = q2) : fb_doA A c p q = fb_doA A c p q2 := by
  by_cases a : c = (97 : Int32)
  · rw [fb_doA_a a, fb_doA_a a]
  · by_cases d : c = (100 : Int32)
    · have o : ∀ q, fb_doA A c p q = fb_passA A p := fun q => fb_doA_o (by rw [d]; decide) (by rw [d]; decide) (by rw [d]; decide) (by rw [d]; decide) (by rw [d]; decide)
      rw [o, o]
    · rw [h a d]
theorem fb_okA.doA {A : fb_At} (h : fb_okA A) (c p q : Int32) : fb_okA (fb_doA A c p q).2 := by
  unfold fb_doA
  split
  · exact h.add p q
  · split
    · exact h.ask p
    · split
      · exact h.sealA p q _
      · split
        · exact h.liftA p q
        · split
          · exact h.refA p q
          · exact h.passA p
/-- the archive when the first k orders are executed; the answer of the k-th -/
noncomputable def fb_ra (A : fb_At) (S : Nat → Int32) : Nat → fb_At
  | 0 => A
  | k + 1 => (fb_doA (fb_ra A S k) (S (fa_ps S k)) (fa_oa S k).2.2.1 (fa_oa S k).2.2.2).2
noncomputable def fb_ry (A : fb_At) (S : Nat → Int32) (k : Nat) : Int32 := (fb_doA (fb_ra A S k) (S (fa_ps S k)) (fa_oa S k).2.2.1 (fa_oa S k).2.2.2).1
def fb_er (y : Int32) : Prop := ¬ (0 ≤ y ∨ y = (-6 : Int32))
theorem fb_okA.ra {A : fb_At} {S : Nat → Int32} (h : fb_okA A) : ∀ k, fb_okA (fb_ra A S k)
  | 0 => h
  | k + 1 => (h.ra k).doA _ _ _
/-- of o orders the run ends at e -/
def fb_runP (A : fb_At) (S : Nat → Int32) (o e : Nat) : Prop := e ≤ o ∧ (∀ k, k < e → ¬ fb_er (fb_ry A S k)) ∧ (e < o → fb_er (fb_ry A S e))
noncomputable def fb_fin (A : fb_At) (S : Nat → Int32) (o e : Nat) : fb_At := if e < o then fb_ra A S (e + 1) else fb_ra A S o
theorem fb_runP.uniq {A : fb_At} {S : Nat → Int32} {o e f : Nat} (h : fb_runP A S o e) (h2 : fb_runP A S o f) : e = f := by
  rcases Nat.lt_trichotomy e f with z | z | z
  · have a := h2.1
    exact absurd (h.2.2 (by omega)) (h2.2.1 e z)
  · exact z
  · have a := h.1
    exact absurd (h2.2.2 (by omega)) (h.2.1 f z)
/-- the text holds o orders -/
def fb_txo (S : Nat → Int32) (n o : Nat) : Prop := ∃ j, o = j + 1 ∧ fa_pre S n j ∧ (fa_oa S j).1 = true ∧ n ≤ (fa_oa S j).2.1
theorem fb_txo.ok {S : Nat → Int32} {n o k : Nat} (h : fb_txo S n o) (hk : k < o) : (fa_oa S k).1 = true ∧ ((k + 1 < o ∧ (fa_oa S k).2.1 < n ∧ S (fa_oa S k).2.1 = nI 59) ∨ (k + 1 = o ∧ n ≤ (fa_oa S k).2.1)) := by
  obtain ⟨j, e, h1, h2, h3⟩ := h
  by_cases z : k = j
  · subst z
    exact ⟨h2, Or.inr ⟨e.symm, h3⟩⟩
  · have := h1 k (by omega)
    exact ⟨this.1, Or.inl ⟨by omega, this.2⟩⟩
theorem fb_txo.le {t : Nat → Int32} {n o : Nat} (h : fb_txo (fa_sg t n) n o) (hn : n ≤ 60) : o ≤ 21 := by
  obtain ⟨j, e, h1, h2, h3⟩ := h
  have := fa_pre.ps h1
  omega
theorem fb_txo_of {t : Nat → Int32} {n j : Nat} {y : Int32} (hn : n < 2 ^ 31) (h : fa_FR (fa_sg t n) n j y) (e : y = (-6 : Int32)) : fb_txo (fa_sg t n) n (j + 1) := by
  refine ⟨j, rfl, h.1, ?_⟩
  have hp := fa_pre.ps h.1
  have hm := (fa_ord_le (t := t) hp.2).2.1
  rcases h.2 with z | z | z
  · exact absurd (z.2.symm.trans e) (fa_nI6 (Nat.lt_of_le_of_lt hm hn))
  · exact ⟨z.1, z.2.1⟩
  · exact absurd (z.2.2.2.symm.trans e) (fa_nI6 (Nat.lt_of_le_of_lt hm hn))
/-- the report -/
def fb_rpt (A : fb_At) (S : Nat → Int32) (o e : Nat) (k d s : Int32) : Prop := (e < o → k = -(fb_ry A S e) ∧ d = nI e ∧ s = nI (fa_ps S e)) ∧ (e = o → k = 0)
/-- the class's run, at its loop's head -/
def fb_rnI (A : fb_At) (H : List fb_At) (S : Nat → Int32) (o : Nat) (w : fa_V) (rr : fa_R) (j mt : Nat) (ex mo : Int32) : Prop :=
  (∃ bd, bd ∈ fa_hb ∧ rr 114 H.length = some bd ∧ fb_cA w rr bd A) ∧ fb_J rr ∧ fb_cH w rr H ∧
  ((¬ mo = 0 ∧ ex = nI j ∧ j < o ∧ mt = fa_ps S j ∧ (∀ k, k < j → ¬ fb_er (fb_ry A S k)) ∧ fb_cA w rr 1 (fb_ra A S j) ∧ w 0 6 = 0) ∨
   (mo = 0 ∧ ∃ e, fb_runP A S o e ∧ ex = nI e ∧ fb_cA w rr 1 (fb_fin A S o e) ∧ fb_rpt A S o e (w 0 6) (w 0 4) (w 0 5)))
theorem fb_rnI.cong {A : fb_At} {H : List fb_At} {w w1 : fa_V} {rr r1 : fa_R} (h : (∃ bd, bd ∈ fa_hb ∧ rr 114 H.length = some bd ∧ fb_cA w rr bd A) ∧ fb_J rr ∧ fb_cH w rr H) (hi : fb_inj r1 1) (f : ∀ k, 57 ≤ k → k < 395 → w1 k = w k) (g : ∀ k, ¬ k = 2 → r1 k = rr k) : (∃ bd, bd ∈ fa_hb ∧ r1 114 H.length = some bd ∧ fb_cA w1 r1 bd A) ∧ fb_J r1 ∧ fb_cH w1 r1 H := by
  obtain ⟨⟨bd, hbd, e, c⟩, j, ch⟩ := h
  have lo := fa_hb_lo bd hbd
  exact ⟨⟨bd, hbd, by rw [g 114 (by decide)]; exact e, c.congr (fun k k1 k2 => f k (by omega) (by omega)) (fa_RS_cong2 (fun q q1 q2 => g q (by omega)) c.1) (g _ (by omega))⟩, j.of hi (fun k a _ => g k a), ch.cong (by rw [f 113 (by decide) (by decide)]) (fun k k1 k2 => f k (by omega) k2) (fun k k1 k2 => g k (by omega))⟩
/-- one order more -/
theorem fb_rnI.s {A : fb_At} {H : List fb_At} {t : Nat → Int32} {n o : Nat} {w w1 w2 : fa_V} {rr r2 : fa_R} {j mt m : Nat} {ex mo x : Int32} (hA : fb_okA A) (hO : fb_txo (fa_sg t n) n o) (h : fb_rnI A H (fa_sg t n) o w rr j mt ex mo) (hmo : ¬ mo = 0) (f1 : fa_fr 395 396 w w1) (hm : m = (fa_ord (fa_sg t n) mt).2.1) (h3 : w1 395 3 = fa_sg t n mt) (h4 : (fa_ord (fa_sg t n) mt).1 = true → w1 395 4 = (fa_ord (fa_sg t n) mt).2.2.1 ∧ (¬ fa_sg t n mt = (97 : Int32) → ¬ fa_sg t n mt = (100 : Int32) → w1 395 5 = (fa_ord (fa_sg t n) mt).2.2.2))
    (f2 : fa_fr 1 57 w1 w2) (g2 : ∀ k, ¬ k = 2 → r2 k = rr k) (hd : ∀ B, fb_okA B → fb_cA w1 rr 1 B → x = (fb_doA B (w1 395 3) (w1 395 4) (w1 395 5)).1 ∧ fb_cA w2 r2 1 (fb_doA B (w1 395 3) (w1 395 4) (w1 395 5)).2) :
    ex = nI j ∧ j < o ∧ mt = fa_ps (fa_sg t n) j ∧ m = (fa_oa (fa_sg t n) j).2.1 ∧ x = fb_ry A (fa_sg t n) j ∧ (∀ k, k < j → ¬ fb_er (fb_ry A (fa_sg t n) k)) ∧ fb_cA w2 r2 1 (fb_ra A (fa_sg t n) (j + 1)) ∧ w2 0 6 = 0 ∧ ((∃ bd, bd ∈ fa_hb ∧ r2 114 H.length = some bd ∧ fb_cA w2 r2 bd A) ∧ fb_J r2 ∧ fb_cH w2 r2 H) := by
  obtain ⟨a1, a2, a3, a4⟩ := h
  rcases a4 with ⟨-, b1, b2, b3, b4, b5, b6⟩ | ⟨b1, -⟩
  · subst b3
    have q := (hO.ok b2).1
    have c1 : fb_cA w1 rr 1 (fb_ra A (fa_sg t n) j) := b5.congr (fun k k1 k2 => f1 k (by omega)) b5.1 rfl
    have z := hd _ (hA.ra j) c1
    rw [h3, (h4 q).1, fb_doA_q (fun y1 y2 => (h4 q).2 y1 y2)] at z
    have fr : ∀ k, 57 ≤ k → k < 395 → w2 k = w k := fun k k1 k2 => by rw [f2 k (by omega), f1 k (by omega)]
    exact ⟨b1, b2, rfl, hm, z.1, b4, z.2, by rw [f2 0 (by omega), f1 0 (by omega)]; exact b6, fb_rnI.cong ⟨a1, a2, a3⟩ z.2.2.1 fr g2⟩
  · exact absurd b1 hmo
theorem fb_fin_t {A : fb_At} {S : Nat → Int32} {o e : Nat} (h : e < o) : fb_fin A S o e = fb_ra A S (e + 1) := if_pos h
theorem fb_fin_o {A : fb_At} {S : Nat → Int32} {o : Nat} : fb_fin A S o o = fb_ra A S o := if_neg (Nat.lt_irrefl o)
theorem fb_CV.cong {v v1 : fa_V} {r : fa_R} {A : fb_At} {H : List fb_At} (h : fb_CV v r A H) (f : ∀ k, 1 ≤ k → k < 395 → v1 k = v k) : fb_CV v1 r A H :=
  ⟨h.1, h.2.1, h.2.2.1.congr (fun k k1 k2 => f k (by omega) (by omega)) h.2.2.1.1 rfl, h.2.2.2.cong (by rw [f 113 (by decide) (by decide)]) (fun k k1 k2 => f k (by omega) k2) (fun _ _ _ => rfl)⟩
theorem fb_rnI.start {A : fb_At} {H : List fb_At} {S : Nat → Int32} {n o : Nat} {v v1 v2 v3 v4 : fa_V} {r : fa_R} (hV : fb_CV v r A H) (hC : fa_CI v1 r) (f1 : fa_fr 395 396 v v1) (hd : fb_dr v1 v2 r) (e3 : v3 = fa_u v2 0 6 (nI 0)) (e4 : v4 = fa_u v3 395 2 (nI 0)) (hO : fb_txo S n o) : fb_rnI A H S o v4 r 0 0 (nI 0) (nI 1) := by
  have h1 := hV.cong (v1 := v1) (fun k k1 k2 => f1 k (by omega))
  obtain ⟨h2, bd, hbd, e, c⟩ := h1.draft hC hd
  have f : ∀ k, 1 ≤ k → k < 395 → v4 k = v2 k := fun k k1 k2 => by rw [e4, fa_u_k _ _ (by omega), e3, fa_u_k _ _ (by omega)]
  have lo := fa_hb_lo bd hbd
  have h4 := h2.cong f
  have ho : 0 < o := by
    obtain ⟨j, ej, -⟩ := hO
    omega
  exact ⟨⟨bd, hbd, e, c.congr (fun k k1 k2 => f k (by omega) (by omega)) c.1 rfl⟩, h4.2.1, h4.2.2.2, Or.inl ⟨by decide, rfl, ho, rfl, fun k hk => absurd hk (Nat.not_lt_zero _), h4.2.2.1, by rw [e4, fa_u_k _ _ (by decide), e3, fa_u_s]; rfl⟩⟩
theorem fb_rnI.ok {A : fb_At} {H : List fb_At} {t : Nat → Int32} {n o : Nat} {w2 w3 : fa_V} {r2 : fa_R} {j mt m m2 : Nat} {ex x mo : Int32} (hO : fb_txo (fa_sg t n) n o)
    (h : ex = nI j ∧ j < o ∧ mt = fa_ps (fa_sg t n) j ∧ m = (fa_oa (fa_sg t n) j).2.1 ∧ x = fb_ry A (fa_sg t n) j ∧ (∀ k, k < j → ¬ fb_er (fb_ry A (fa_sg t n) k)) ∧ fb_cA w2 r2 1 (fb_ra A (fa_sg t n) (j + 1)) ∧ w2 0 6 = 0 ∧ ((∃ bd, bd ∈ fa_hb ∧ r2 114 H.length = some bd ∧ fb_cA w2 r2 bd A) ∧ fb_J r2 ∧ fb_cH w2 r2 H))
    (he : 0 ≤ x ∨ x = (-6 : Int32)) (f3 : fa_fr 395 396 w2 w3) (hmo : mo = if fa_sg t n m = nI 59 then nI 1 else nI 0) (hm2 : m2 = if fa_sg t n m = nI 59 then m + 1 else m) : fb_rnI A H (fa_sg t n) o w3 r2 (j + 1) m2 (ex + (1)) mo := by
  obtain ⟨h1, h2, h3, h4, h5, h6, h7, h8, h9⟩ := h
  have d := fb_rnI.cong (w1 := w3) (r1 := r2) h9 h7.2.1 (fun k k1 k2 => f3 k (by omega)) (fun _ _ => rfl)
  have c3 : fb_cA w3 r2 1 (fb_ra A (fa_sg t n) (j + 1)) := h7.congr (fun k k1 k2 => f3 k (by omega)) h7.1 rfl
  have w0 : w3 0 6 = 0 := by rw [f3 0 (by omega)]; exact h8
  have all : ∀ k, k < j + 1 → ¬ fb_er (fb_ry A (fa_sg t n) k) := fun k hk => by
    by_cases z : k = j
    · rw [z, ← h5]; exact fun y => y he
    · exact h6 k (by omega)
  have ex1 : ex + (1) = nI (j + 1) := by rw [h1]; exact nI_1 j
  refine ⟨d.1, d.2.1, d.2.2, ?_⟩
  rcases (hO.ok h2).2 with ⟨a1, a2, a3⟩ | ⟨a1, a2⟩
  · rw [← h4] at a3
    rw [if_pos a3] at hmo hm2
    exact Or.inl ⟨by rw [hmo]; decide, ex1, a1, by rw [hm2, h4]; rfl, all, c3, w0⟩
  · rw [← h4] at a2
    have ne : ¬ fa_sg t n m = nI 59 := by rw [fa_sg_out a2]; decide
    rw [if_neg ne] at hmo
    refine Or.inr ⟨by rw [hmo]; rfl, j + 1, ⟨by omega, all, fun z => absurd z (by omega)⟩, ex1, ?_, fun z => absurd z (by omega), fun _ => w0⟩
    rw [← a1, fb_fin_o]
    exact c3
theorem fb_rnI.er {A : fb_At} {H : List fb_At} {t : Nat → Int32} {n o : Nat} {w2 w3 : fa_V} {r2 : fa_R} {j mt m : Nat} {ex x : Int32}
    (h : ex = nI j ∧ j < o ∧ mt = fa_ps (fa_sg t n) j ∧ m = (fa_oa (fa_sg t n) j).2.1 ∧ x = fb_ry A (fa_sg t n) j ∧ (∀ k, k < j → ¬ fb_er (fb_ry A (fa_sg t n) k)) ∧ fb_cA w2 r2 1 (fb_ra A (fa_sg t n) (j + 1)) ∧ w2 0 6 = 0 ∧ ((∃ bd, bd ∈ fa_hb ∧ r2 114 H.length = some bd ∧ fb_cA w2 r2 bd A) ∧ fb_J r2 ∧ fb_cH w2 r2 H))
    (he : ¬ (0 ≤ x ∨ x = (-6 : Int32))) (f3 : fa_fr 0 1 w2 w3) (hr : w3 0 4 = ex ∧ w3 0 5 = nI mt ∧ w3 0 6 = -(x)) : fb_rnI A H (fa_sg t n) o w3 r2 (j + 1) m ex (nI 0) := by
  obtain ⟨h1, h2, h3, h4, h5, h6, h7, h8, h9⟩ := h
  have d := fb_rnI.cong (w1 := w3) (r1 := r2) h9 h7.2.1 (fun k k1 k2 => f3 k (by omega)) (fun _ _ => rfl)
  have c3 : fb_cA w3 r2 1 (fb_ra A (fa_sg t n) (j + 1)) := h7.congr (fun k k1 k2 => f3 k (by omega)) h7.1 rfl
  refine ⟨d.1, d.2.1, d.2.2, Or.inr ⟨rfl, j, ⟨by omega, h6, fun _ => by rw [← h5]; exact he⟩, h1, by rw [fb_fin_t h2]; exact c3, fun _ => ⟨by rw [hr.2.2, h5], by rw [hr.1, h1], by rw [hr.2.1, h3]⟩, fun z => absurd h2 (by omega)⟩⟩
/-- the end of a run -/
theorem fb_rnI.e {A : fb_At} {H : List fb_At} {t : Nat → Int32} {n o : Nat} {w w1 : fa_V} {rr r1 : fa_R} {j mt : Nat} {ex mo : Int32} (hn : n ≤ 60) (hA : fb_okA A) (hO : fb_txo (fa_sg t n) n o) (h : fb_rnI A H (fa_sg t n) o w rr j mt ex mo) (c : mo = 0 ∨ 60 ≤ j) (hk : fa_kd w rr w1 r1) : ∃ e, fb_runP A (fa_sg t n) o e ∧ ex = nI e ∧ fb_CV w1 r1 (fb_fin A (fa_sg t n) o e) (fb_push H A) ∧ fb_rpt A (fa_sg t n) o e (w1 0 6) (w1 0 4) (w1 0 5) := by
  obtain ⟨⟨bd, hbd, e0, cd⟩, a2, a3, a4⟩ := h
  have ho := hO.le hn
  rcases a4 with ⟨b1, -, b2, -⟩ | ⟨-, e, b2, b3, b4, b5⟩
  · rcases c with c | c
    · exact absurd c b1
    · omega
  · have ok : fb_okA (fb_fin A (fa_sg t n) o e) := by
      unfold fb_fin
      split
      · exact hA.ra _
      · exact hA.ra _
    have q : (∀ k, ¬ k = 113 → w1 k = w k) ∧ ∀ k, ¬ k = 114 → r1 k = rr k := by
      rcases hk with ⟨m, -, -, z2, z3⟩ | ⟨-, z2, -, -, z5⟩
      · exact ⟨fun k hk => by rw [z2, fa_u_k _ _ hk], fun k _ => by rw [z3]⟩
      · exact ⟨fun k _ => by rw [z2], z5⟩
    have s1 : fb_cA w1 r1 1 (fb_fin A (fa_sg t n) o e) := b4.congr (fun k k1 k2 => q.1 k (by omega)) (fa_RS_cong2 (fun w w1 w2 => q.2 w (by omega)) b4.1) (q.2 _ (by omega))
    exact ⟨e, b2, b3, ⟨ok, a2.of s1.2.1 (fun k _ k2 => q.2 k k2), s1, a3.push hA hbd e0 cd hk⟩, by rw [q.1 0 (by decide)]; exact b5⟩
set_option maxHeartbeats 4000000 in
set_option maxRecDepth 100000 in
theorem g_append (l : Launch) (G : fa_G) (n : Nat) (hn : 397 ≤ n) (v : fa_V) (r : fa_R) (hC : fa_CI v r) (a1 : Int32) : fa_MI l G n yX6_append cX6_append 2 (some .int) 4 [.ref (fa_B G + (0)), .int (a1)] v r (fa_voi r (fun x v1 => (((¬ (nI 32 ≤ a1 ∧ a1 ≤ nI 126) ∧ x = (-2 : Int32) ∧ v1 = v) ∨ ((nI 32 ≤ a1 ∧ a1 ≤ nI 126) ∧ ((x = (-4 : Int32) ∧ 60 ≤ fa_N (v 395 1) ∧ v1 = v) ∨ (x = nI (fa_N (v 395 1) + 1) ∧ fa_N (v 395 1) < 60 ∧ v1 = fa_put v (((a1).toUInt32 % 65536).toInt32))))) ∧ fa_CI v1 r) ∧ (fa_fr (395) (397) v v1))) := by
  refine fa_startI (by decide +kernel) (Nat.le_of_ble_eq_true rfl) (fun p e s m args below meth c ls Q CX hl HX RET => ?_)
  have hl : lv_has ls 2 [(0, .ref (fa_B G + (0))), (1, .int (a1))] := hl
  have hx := CX.1.1
  have hb := CX.1.2.1
  have hB : (1 : Nat) ∈ fa_bs := by decide
  refine lv_iload_n hx hb dX6_append_0 rfl (lv_at hl 1 rfl) ?_
  refine lv_bipush (v := nI (32)) hx hb dX6_append_1 (by decide) ?_
  refine lv_icmp_lt (tgt := 12) hx hb dX6_append_3 (by decide) (fun c_3 => ?_) (fun c_3 => ?_)
  · refine lv_bipush (v := (-2 : Int32)) hx hb dX6_append_12 (by decide) ?_
    exact RET _ _ _ _ _ _ _ HX dX6_append_14 (⟨rfl, ⟨⟨(Or.inl ⟨fun z => absurd c_3 (Int32.not_lt.mpr z.1), rfl, rfl⟩), hC⟩, fa_fr.rf⟩⟩)
  · refine lv_iload_n hx hb dX6_append_6 rfl (lv_at hl 1 rfl) ?_
    refine lv_bipush (v := nI (126)) hx hb dX6_append_7 (by decide) ?_
    refine lv_icmp_le (tgt := 15) hx hb dX6_append_9 (by decide) (fun c_9 => ?_) (fun c_9 => ?_)
    · refine lv_aload_n hx hb dX6_append_15 rfl (lv_at hl 0 rfl) ?_
      refine fa_getr (k := 0) (j := 395) CX HX fl_X6_29 (by omega) rfl rfl (fa_CI.A hC).2.2.2.1 dX6_append_16 ?_
      refine lv_iload_n hx hb dX6_append_19 rfl (lv_at hl 1 rfl) ?_
      refine lv_i2c hx hb dX6_append_20 rfl ?_
      refine fa_callViu (As := [.int (((a1).toUInt32 % 65536).toInt32)]) (rest := []) CX HX (g_appendSign l G n hn v r (fa_CI.A hC) (fa_CI.T hC) (((a1).toUInt32 % 65536).toInt32)) ln_X6_70 (by omega) rfl rfl rfl rfl (Nat.le_of_ble_eq_true rfl) hl.1 ⟨Nat.le_of_ble_eq_true rfl, Nat.le_of_ble_eq_true rfl⟩ ⟨Nat.le_refl _, Nat.le_refl _⟩ dX6_append_21 (fun x1527 v1528 H locs h1526 HX1529 => ?_)
      have h_ap := h1526.1.2
      have hC_v1528 : fa_CI v1528 r := fa_CI.tx hC h1526.1.1 (fa_fr.wide h1526.2 (by omega) (by omega))
      refine lv_if_eq (tgt := 37) hx hb dX6_append_24 (by decide) (fun c_24 => ?_) (fun c_24 => ?_)
      · refine lv_bipush (v := (-4 : Int32)) hx hb dX6_append_37 (by decide) ?_
        exact RET _ _ _ _ _ _ _ HX1529 dX6_append_39 (⟨rfl, ⟨⟨(Or.inr ⟨⟨Int32.not_lt.mp c_3, c_9⟩, fa_ap_0 h_ap c_24⟩), hC_v1528⟩, (fa_fr.tr fa_fr.rf (fa_fr.wide h1526.2 (by omega) (by omega)))⟩⟩)
      · refine lv_aload_n hx hb dX6_append_27 rfl (lv_at hl 0 rfl) ?_
        refine fa_getr (k := 0) (j := 395) CX HX1529 fl_X6_29 (by omega) rfl rfl (fa_CI.A hC_v1528).2.2.2.1 dX6_append_28 ?_
        refine fa_geti (k := 395) CX HX1529 fl_X6_74 (by omega) rfl rfl dX6_append_31 ?_
        refine lv_goto (tgt := 39) hx hb dX6_append_34 (by decide) ?_
        exact RET _ _ _ _ _ _ _ HX1529 dX6_append_39 (⟨rfl, ⟨⟨(Or.inr ⟨⟨Int32.not_lt.mp c_3, c_9⟩, fa_ap_1 h_ap c_24⟩), hC_v1528⟩, (fa_fr.tr fa_fr.rf (fa_fr.wide h1526.2 (by omega) (by omega)))⟩⟩)
    · refine lv_bipush (v := (-2 : Int32)) hx hb dX6_append_12 (by decide) ?_
      exact RET _ _ _ _ _ _ _ HX dX6_append_14 (⟨rfl, ⟨⟨(Or.inl ⟨fun z => c_9 z.2, rfl, rfl⟩), hC⟩, fa_fr.rf⟩⟩)
set_option maxHeartbeats 4000000 in
set_option maxRecDepth 100000 in
theorem g_clearText (l : Launch) (G : fa_G) (n : Nat) (hn : 397 ≤ n) (v : fa_V) (r : fa_R) (hC : fa_CI v r) : fa_MI l G n yX6_clearText cX6_clearText 2 (some .int) 2 [.ref (fa_B G + (0))] v r (fa_voi r (fun x v1 => ((x = v 395 1 ∧ v1 = fa_u v 395 1 (nI 0)) ∧ fa_CI v1 r) ∧ (fa_fr (395) (396) v v1))) := by
  refine fa_startI (by decide +kernel) (Nat.le_of_ble_eq_true rfl) (fun p e s m args below meth c ls Q CX hl HX RET => ?_)
  have hl : lv_has ls 2 [(0, .ref (fa_B G + (0)))] := hl
  have hx := CX.1.1
  have hb := CX.1.2.1
  have hB : (1 : Nat) ∈ fa_bs := by decide
  obtain ⟨⟨nt, hnt, ht⟩, hch⟩ := fa_CI.T hC
  refine lv_aload_n hx hb dX6_clearText_0 rfl (lv_at hl 0 rfl) ?_
  refine fa_getr (k := 0) (j := 395) CX HX fl_X6_29 (by omega) rfl rfl (fa_CI.A hC).2.2.2.1 dX6_clearText_1 ?_
  refine fa_geti (k := 395) CX HX fl_X6_74 (by omega) rfl rfl dX6_clearText_4 ?_
  rw [show v 395 1 = nI (nt) from ht]
  refine lv_istore_n (lv' := [(1, .int (nI (nt))), (0, .ref (fa_B G + (0)))]) hx hb dX6_clearText_7 rfl hl (by decide) rfl (fun ls hl => ?_)
  refine lv_aload_n hx hb dX6_clearText_8 rfl (lv_at hl 1 rfl) ?_
  refine fa_getr (k := 0) (j := 395) CX HX fl_X6_29 (by omega) rfl rfl (fa_CI.A hC).2.2.2.1 dX6_clearText_9 ?_
  refine lv_iconst (v := nI (0)) hx hb dX6_clearText_12 (by decide) ?_
  refine fa_puti (k := 395) CX HX fl_X6_74 (by omega) rfl rfl rfl rfl dX6_clearText_13 (fun H locs v1530 e1531 HX1532 => ?_)
  refine lv_iload_n hx hb dX6_clearText_16 rfl (lv_at hl 0 rfl) ?_
  exact RET _ _ _ _ _ _ _ HX1532 dX6_clearText_17 (⟨rfl, ⟨⟨⟨ht.symm, (by show v1530 = _; rw [e1531])⟩, (show fa_CI v1530 r from by rw [e1531]; exact fa_CI.len hC (by omega))⟩, (by rw [e1531]; exact fa_fr.u fa_fr.rf (by omega))⟩⟩)
set_option maxHeartbeats 4000000 in
set_option maxRecDepth 100000 in
theorem g_fault (l : Launch) (G : fa_G) (n : Nat) (hn : 397 ≤ n) (v : fa_V) (r : fa_R) (hC : fa_CI v r) : fa_MI l G n yX6_fault cX6_fault 1 (some .int) 7 [.ref (fa_B G + (0))] v r (fa_voi r (fun x v1 => (((v1 395 1 = v 395 1) ∧ ∃ j, j ≤ 20 ∧ fa_FR (fa_sg (v 396) (fa_N (v 395 1))) (fa_N (v 395 1)) j x) ∧ fa_CI v1 r) ∧ (fa_fr (395) (396) v v1))) := by
  refine fa_startI (by decide +kernel) (Nat.le_of_ble_eq_true rfl) (fun p e s m args below meth c ls Q CX hl HX RET => ?_)
  have hl : lv_has ls 1 [(0, .ref (fa_B G + (0)))] := hl
  have hx := CX.1.1
  have hb := CX.1.2.1
  have hB : (1 : Nat) ∈ fa_bs := by decide
  obtain ⟨⟨nt, hnt, ht⟩, hch⟩ := fa_CI.T hC
  have hX : fa_TX v nt (v 396) := ⟨hnt, ht, rfl⟩
  have ent : fa_N (v 395 1) = nt := by rw [ht]; exact fa_N_nI (by omega)
  refine lv_aload_n hx hb dX6_fault_0 rfl (lv_at hl 0 rfl) ?_
  refine fa_getr (k := 0) (j := 395) CX HX fl_X6_29 (by omega) rfl rfl (fa_CI.A hC).2.2.2.1 dX6_fault_1 ?_
  refine fa_callViu (As := []) (rest := []) CX HX (g_findFault l G n hn v r (fa_CI.A hC) (fa_CI.T hC) nt (v 396) hX) ln_X6_78 (by omega) rfl rfl rfl rfl (Nat.le_of_ble_eq_true rfl) hl.1 ⟨Nat.le_of_ble_eq_true rfl, Nat.le_of_ble_eq_true rfl⟩ ⟨Nat.le_refl _, Nat.le_refl _⟩ dX6_fault_4 (fun x1534 v1535 H locs h1533 HX1536 => ?_)
  obtain ⟨hx_x1534, hs_x1534⟩ := h1533.1
  have hC_v1535 : fa_CI v1535 r := fa_CI.tx hC (fa_IT.rows (fa_CI.T hC) (hs_x1534 1 (by decide) (by decide) (by decide) (by decide)) (h1533.2 396 (by decide))) (fa_fr.wide h1533.2 (by omega) (by omega))
  exact RET _ _ _ _ _ _ _ HX1536 dX6_fault_7 (⟨rfl, ⟨⟨⟨(show v1535 395 1 = v 395 1 from (hs_x1534 1 (by decide) (by decide) (by decide) (by decide))), (by rw [ent]; exact hx_x1534)⟩, hC_v1535⟩, (fa_fr.tr fa_fr.rf (fa_fr.wide h1533.2 (by omega) (by omega)))⟩⟩)
set_option maxHeartbeats 4000000 in
set_option maxRecDepth 100000 in
theorem g_report (l : Launch) (G : fa_G) (n : Nat) (hn : 397 ≤ n) (v : fa_V) (r : fa_R) (hC : fa_CI v r) (a1 : Int32) (a2 : Int32) (a3 : Int32) : fa_MV l G n yX6_report cX6_report 4 1 [.ref (fa_B G + (0)), .int (a1), .int (a2), .int (a3)] v r (fa_vo r (fun v1 => ((v1 0 4 = a1 ∧ v1 0 5 = a2 ∧ v1 0 6 = a3) ∧ fa_CI v1 r) ∧ (fa_fr (0) (1) v v1))) := by
  refine fa_startV (by decide +kernel) (Nat.le_of_ble_eq_true rfl) (fun p e s m args below meth c ls Q CX hl HX RET => ?_)
  have hl : lv_has ls 4 [(0, .ref (fa_B G + (0))), (1, .int (a1)), (2, .int (a2)), (3, .int (a3))] := hl
  have hx := CX.1.1
  have hb := CX.1.2.1
  have hB : (1 : Nat) ∈ fa_bs := by decide
  refine lv_aload_n hx hb dX6_report_0 rfl (lv_at hl 0 rfl) ?_
  refine lv_iload_n hx hb dX6_report_1 rfl (lv_at hl 1 rfl) ?_
  refine fa_puti (k := 0) CX HX fl_X6_109 (by omega) rfl rfl rfl rfl dX6_report_2 (fun H locs v1537 e1538 HX1539 => ?_)
  refine lv_aload_n hx hb dX6_report_5 rfl (lv_at hl 0 rfl) ?_
  refine lv_iload_n hx hb dX6_report_6 rfl (lv_at hl 2 rfl) ?_
  refine fa_puti (k := 0) CX HX1539 fl_X6_112 (by omega) rfl rfl rfl rfl dX6_report_7 (fun H locs v1540 e1541 HX1542 => ?_)
  refine lv_aload_n hx hb dX6_report_10 rfl (lv_at hl 0 rfl) ?_
  refine lv_iload_n hx hb dX6_report_11 rfl (lv_at hl 3 rfl) ?_
  refine fa_puti (k := 0) CX HX1542 fl_X6_82 (by omega) rfl rfl rfl rfl dX6_report_12 (fun H locs v1543 e1544 HX1545 => ?_)
  exact RET _ _ _ _ _ _ HX1545 dX6_report_15 (⟨rfl, ⟨⟨⟨(by show v1543 0 4 = a1; rw [e1544, fa_u_n _ _ (by omega), e1541, fa_u_n _ _ (by omega), e1538, fa_u_s]), (by show v1543 0 5 = a2; rw [e1544, fa_u_n _ _ (by omega), e1541, fa_u_s]), (by show v1543 0 6 = a3; rw [e1544, fa_u_s])⟩, (show fa_CI v1543 r from by rw [e1544]; exact fa_CI.u0 (show fa_CI v1540 r from by rw [e1541]; exact fa_CI.u0 (show fa_CI v1537 r from by rw [e1538]; exact fa_CI.u0 hC)))⟩, (by rw [e1544]; exact fa_fr.u (by rw [e1541]; exact fa_fr.u (by rw [e1538]; exact fa_fr.u fa_fr.rf (by omega)) (by omega)) (by omega))⟩⟩)
set_option maxHeartbeats 4000000 in
set_option maxRecDepth 100000 in
theorem g_obey (l : Launch) (G : fa_G) (n : Nat) (hn : 397 ≤ n) (v : fa_V) (r : fa_R) (hC : fa_CI v r) : fa_MI l G n yX6_obey cX6_obey 1 (some .int) 7 [.ref (fa_B G + (0))] v r (fun x w => ((∀ k, ¬ k = 2 → w.2 k = r k) ∧ ∀ A, fb_okA A → fb_cA v r 1 A → x = (fb_doA A (v 395 3) (v 395 4) (v 395 5)).1 ∧ fb_cA w.1 w.2 1 (fb_doA A (v 395 3) (v 395 4) (v 395 5)).2) ∧ (fa_CI w.1 w.2) ∧ (fa_fr 1 57 v w.1) ∧ (∀ k, 395 ≤ k → w.2 k = r k)) := by
  refine fa_startI (by decide +kernel) (Nat.le_of_ble_eq_true rfl) (fun p e s m args below meth c ls Q CX hl HX RET => ?_)
  have hl : lv_has ls 1 [(0, .ref (fa_B G + (0)))] := hl
  have hx := CX.1.1
  have hb := CX.1.2.1
  have hB : (1 : Nat) ∈ fa_bs := by decide
  refine lv_aload_n hx hb dX6_obey_0 rfl (lv_at hl 0 rfl) ?_
  refine fa_getr (k := 0) (j := 395) CX HX fl_X6_29 (by omega) rfl rfl (fa_CI.A hC).2.2.2.1 dX6_obey_1 ?_
  refine fa_geti (k := 395) CX HX fl_X6_249 (by omega) rfl rfl dX6_obey_4 ?_
  by_cases c_7_97 : v 395 3 = (97 : Int32)
  · refine lv_lookup (off := 71) (tgt := 78) hx hb dX6_obey_7 (by decide) (by rw [c_7_97]; decide) (by decide) ?_
    refine lv_aload_n hx hb dX6_obey_78 rfl (lv_at hl 0 rfl) ?_
    refine fa_getr (k := 0) (j := 1) CX HX fl_X6_10 (by omega) rfl rfl (fa_CI.A hC).1 dX6_obey_79 ?_
    refine lv_aload_n hx hb dX6_obey_82 rfl (lv_at hl 0 rfl) ?_
    refine fa_getr (k := 0) (j := 395) CX HX fl_X6_29 (by omega) rfl rfl (fa_CI.A hC).2.2.2.1 dX6_obey_83 ?_
    refine fa_geti (k := 395) CX HX fl_X6_253 (by omega) rfl rfl dX6_obey_86 ?_
    refine fa_callViu (As := [.int (v 395 4)]) (rest := []) CX HX (g_askFor l G n hn v r 1 (by decide) (fa_CI.S hC 1 (by decide)).1 (fa_CI.S hC 1 (by decide)).2 (v 395 4) ) ln_X6_45 (fa_lt (by decide) 0 (by decide) hn) (fa_s0 (by decide)) rfl rfl rfl (Nat.le_of_ble_eq_true rfl) hl.1 ⟨Nat.le_of_ble_eq_true rfl, Nat.le_of_ble_eq_true rfl⟩ ⟨Nat.le_refl _, Nat.le_refl _⟩ dX6_obey_89 (fun x1547 v1548 H locs h1546 HX1549 => ?_)
    have h_askFor := h1546.1
    have hIS_v1548 : fa_IS v1548 1 := h1546.1.2
    have hC_v1548 : fa_CI v1548 r := fa_CI.st hC (by decide) hIS_v1548 (fa_CI.S hC 1 (by decide)).1 (fa_fr.wide h1546.2 (by omega) (by omega)) (fun _ _ => rfl)
    exact RET _ _ _ _ _ _ _ HX1549 dX6_obey_92 (⟨⟨(fun _ _ => rfl), fun A hok hc => by (rw [fb_doA_a c_7_97]; exact h_askFor.1 A hok hc)⟩, hC_v1548, (fa_fr.tr fa_fr.rf (fa_fr.wide h1546.2 (by omega) (by omega))), (fun k hk => rfl)⟩)
  by_cases c_7_102 : v 395 3 = (102 : Int32)
  · refine lv_lookup (off := 131) (tgt := 138) hx hb dX6_obey_7 (by decide) (by rw [c_7_102]; decide) (by decide) ?_
    refine lv_aload_n hx hb dX6_obey_138 rfl (lv_at hl 0 rfl) ?_
    refine fa_getr (k := 0) (j := 1) CX HX fl_X6_10 (by omega) rfl rfl (fa_CI.A hC).1 dX6_obey_139 ?_
    refine lv_aload_n hx hb dX6_obey_142 rfl (lv_at hl 0 rfl) ?_
    refine fa_getr (k := 0) (j := 395) CX HX fl_X6_29 (by omega) rfl rfl (fa_CI.A hC).2.2.2.1 dX6_obey_143 ?_
    refine fa_geti (k := 395) CX HX fl_X6_253 (by omega) rfl rfl dX6_obey_146 ?_
    refine lv_aload_n hx hb dX6_obey_149 rfl (lv_at hl 0 rfl) ?_
    refine fa_getr (k := 0) (j := 395) CX HX fl_X6_29 (by omega) rfl rfl (fa_CI.A hC).2.2.2.1 dX6_obey_150 ?_
    refine fa_geti (k := 395) CX HX fl_X6_256 (by omega) rfl rfl dX6_obey_153 ?_
    refine fa_callViu (As := [.int (v 395 4), .int (v 395 5)]) (rest := []) CX HX (g_putReference l G n hn v r 1 (by decide) (fa_CI.S hC 1 (by decide)).1 (fa_CI.S hC 1 (by decide)).2 (v 395 4) (v 395 5) ) ln_X6_55 (fa_lt (by decide) 0 (by decide) hn) (fa_s0 (by decide)) rfl rfl rfl (Nat.le_of_ble_eq_true rfl) hl.1 ⟨Nat.le_of_ble_eq_true rfl, Nat.le_of_ble_eq_true rfl⟩ ⟨Nat.le_refl _, Nat.le_refl _⟩ dX6_obey_156 (fun x1551 v1552 H locs h1550 HX1553 => ?_)
    have h_putReference := h1550.1
    have hIS_v1552 : fa_IS v1552 1 := h1550.1.2
    have hC_v1552 : fa_CI v1552 r := fa_CI.st hC (by decide) hIS_v1552 (fa_CI.S hC 1 (by decide)).1 (fa_fr.wide h1550.2 (by omega) (by omega)) (fun _ _ => rfl)
    exact RET _ _ _ _ _ _ _ HX1553 dX6_obey_159 (⟨⟨(fun _ _ => rfl), fun A hok hc => by (rw [fb_doA_f c_7_102]; exact h_putReference.1 A hok hc)⟩, hC_v1552, (fa_fr.tr fa_fr.rf (fa_fr.wide h1550.2 (by omega) (by omega))), (fun k hk => rfl)⟩)
  by_cases c_7_108 : v 395 3 = (108 : Int32)
  · refine lv_lookup (off := 109) (tgt := 116) hx hb dX6_obey_7 (by decide) (by rw [c_7_108]; decide) (by decide) ?_
    refine lv_aload_n hx hb dX6_obey_116 rfl (lv_at hl 0 rfl) ?_
    refine fa_getr (k := 0) (j := 1) CX HX fl_X6_10 (by omega) rfl rfl (fa_CI.A hC).1 dX6_obey_117 ?_
    refine lv_aload_n hx hb dX6_obey_120 rfl (lv_at hl 0 rfl) ?_
    refine fa_getr (k := 0) (j := 395) CX HX fl_X6_29 (by omega) rfl rfl (fa_CI.A hC).2.2.2.1 dX6_obey_121 ?_
    refine fa_geti (k := 395) CX HX fl_X6_253 (by omega) rfl rfl dX6_obey_124 ?_
    refine lv_aload_n hx hb dX6_obey_127 rfl (lv_at hl 0 rfl) ?_
    refine fa_getr (k := 0) (j := 395) CX HX fl_X6_29 (by omega) rfl rfl (fa_CI.A hC).2.2.2.1 dX6_obey_128 ?_
    refine fa_geti (k := 395) CX HX fl_X6_256 (by omega) rfl rfl dX6_obey_131 ?_
    refine fa_callViu (As := [.int (v 395 4), .int (v 395 5)]) (rest := []) CX HX (g_takeSeal l G n hn v r 1 (by decide) (fa_CI.S hC 1 (by decide)).1 (fa_CI.S hC 1 (by decide)).2 (v 395 4) (v 395 5) ) ln_X6_52 (fa_lt (by decide) 0 (by decide) hn) (fa_s0 (by decide)) rfl rfl rfl (Nat.le_of_ble_eq_true rfl) hl.1 ⟨Nat.le_of_ble_eq_true rfl, Nat.le_of_ble_eq_true rfl⟩ ⟨Nat.le_refl _, Nat.le_refl _⟩ dX6_obey_134 (fun x1555 v1556 H locs h1554 HX1557 => ?_)
    have h_takeSeal := h1554.1
    have hIS_v1556 : fa_IS v1556 1 := h1554.1.2
    have hC_v1556 : fa_CI v1556 r := fa_CI.st hC (by decide) hIS_v1556 (fa_CI.S hC 1 (by decide)).1 (fa_fr.wide h1554.2 (by omega) (by omega)) (fun _ _ => rfl)
    exact RET _ _ _ _ _ _ _ HX1557 dX6_obey_137 (⟨⟨(fun _ _ => rfl), fun A hok hc => by (rw [fb_doA_l c_7_108]; exact h_takeSeal.1 A hok hc)⟩, hC_v1556, (fa_fr.tr fa_fr.rf (fa_fr.wide h1554.2 (by omega) (by omega))), (fun k hk => rfl)⟩)
  by_cases c_7_110 : v 395 3 = (110 : Int32)
  · refine lv_lookup (off := 49) (tgt := 56) hx hb dX6_obey_7 (by decide) (by rw [c_7_110]; decide) (by decide) ?_
    refine lv_aload_n hx hb dX6_obey_56 rfl (lv_at hl 0 rfl) ?_
    refine fa_getr (k := 0) (j := 1) CX HX fl_X6_10 (by omega) rfl rfl (fa_CI.A hC).1 dX6_obey_57 ?_
    refine lv_aload_n hx hb dX6_obey_60 rfl (lv_at hl 0 rfl) ?_
    refine fa_getr (k := 0) (j := 395) CX HX fl_X6_29 (by omega) rfl rfl (fa_CI.A hC).2.2.2.1 dX6_obey_61 ?_
    refine fa_geti (k := 395) CX HX fl_X6_253 (by omega) rfl rfl dX6_obey_64 ?_
    refine lv_aload_n hx hb dX6_obey_67 rfl (lv_at hl 0 rfl) ?_
    refine fa_getr (k := 0) (j := 395) CX HX fl_X6_29 (by omega) rfl rfl (fa_CI.A hC).2.2.2.1 dX6_obey_68 ?_
    refine fa_geti (k := 395) CX HX fl_X6_256 (by omega) rfl rfl dX6_obey_71 ?_
    refine fa_callViu (As := [.int (v 395 4), .int (v 395 5)]) (rest := []) CX HX (g_addFile l G n hn v r 1 (by decide) (fa_CI.S hC 1 (by decide)).1 (fa_CI.S hC 1 (by decide)).2 (v 395 4) (v 395 5) ) ln_X6_37 (fa_lt (by decide) 0 (by decide) hn) (fa_s0 (by decide)) rfl rfl rfl (Nat.le_of_ble_eq_true rfl) hl.1 ⟨Nat.le_of_ble_eq_true rfl, Nat.le_of_ble_eq_true rfl⟩ ⟨Nat.le_refl _, Nat.le_refl _⟩ dX6_obey_74 (fun x1559 v1560 H locs h1558 HX1561 => ?_)
    have h_addFile := h1558.1
    have hIS_v1560 : fa_IS v1560 1 := h1558.1.2
    have hC_v1560 : fa_CI v1560 r := fa_CI.st hC (by decide) hIS_v1560 (fa_CI.S hC 1 (by decide)).1 (fa_fr.wide h1558.2 (by omega) (by omega)) (fun _ _ => rfl)
    exact RET _ _ _ _ _ _ _ HX1561 dX6_obey_77 (⟨⟨(fun _ _ => rfl), fun A hok hc => by (rw [fb_doA_n c_7_110]; exact h_addFile.1 A hok hc)⟩, hC_v1560, (fa_fr.tr fa_fr.rf (fa_fr.wide h1558.2 (by omega) (by omega))), (fun k hk => rfl)⟩)
  by_cases c_7_115 : v 395 3 = (115 : Int32)
  · refine lv_lookup (off := 86) (tgt := 93) hx hb dX6_obey_7 (by decide) (by rw [c_7_115]; decide) (by decide) ?_
    refine lv_aload_n hx hb dX6_obey_93 rfl (lv_at hl 0 rfl) ?_
    refine fa_getr (k := 0) (j := 1) CX HX fl_X6_10 (by omega) rfl rfl (fa_CI.A hC).1 dX6_obey_94 ?_
    refine lv_aload_n hx hb dX6_obey_97 rfl (lv_at hl 0 rfl) ?_
    refine fa_getr (k := 0) (j := 395) CX HX fl_X6_29 (by omega) rfl rfl (fa_CI.A hC).2.2.2.1 dX6_obey_98 ?_
    refine fa_geti (k := 395) CX HX fl_X6_253 (by omega) rfl rfl dX6_obey_101 ?_
    refine lv_aload_n hx hb dX6_obey_104 rfl (lv_at hl 0 rfl) ?_
    refine fa_getr (k := 0) (j := 395) CX HX fl_X6_29 (by omega) rfl rfl (fa_CI.A hC).2.2.2.1 dX6_obey_105 ?_
    refine fa_geti (k := 395) CX HX fl_X6_256 (by omega) rfl rfl dX6_obey_108 ?_
    refine lv_iconst (v := (-1 : Int32)) hx hb dX6_obey_111 (by decide) ?_
    refine fa_callViu (As := [.int (v 395 4), .int (v 395 5), .int ((-1 : Int32))]) (rest := []) CX HX (g_putSeal l G n hn v r 1 (by decide) (fa_CI.S hC 1 (by decide)).1 (fa_CI.S hC 1 (by decide)).2 (v 395 4) (v 395 5) ((-1 : Int32)) ) ln_X6_48 (fa_lt (by decide) 0 (by decide) hn) (fa_s0 (by decide)) rfl rfl rfl (Nat.le_of_ble_eq_true rfl) hl.1 ⟨Nat.le_of_ble_eq_true rfl, Nat.le_of_ble_eq_true rfl⟩ ⟨Nat.le_refl _, Nat.le_refl _⟩ dX6_obey_112 (fun x1563 v1564 H locs h1562 HX1565 => ?_)
    have h_putSeal := h1562.1
    have hIS_v1564 : fa_IS v1564 1 := h1562.1.2
    have hC_v1564 : fa_CI v1564 r := fa_CI.st hC (by decide) hIS_v1564 (fa_CI.S hC 1 (by decide)).1 (fa_fr.wide h1562.2 (by omega) (by omega)) (fun _ _ => rfl)
    exact RET _ _ _ _ _ _ _ HX1565 dX6_obey_115 (⟨⟨(fun _ _ => rfl), fun A hok hc => by (rw [fb_doA_s c_7_115]; exact h_putSeal.1 A hok hc)⟩, hC_v1564, (fa_fr.tr fa_fr.rf (fa_fr.wide h1562.2 (by omega) (by omega))), (fun k hk => rfl)⟩)
  refine lv_lookup (off := 153) (tgt := 160) hx hb dX6_obey_7 (by decide) (by show Op.lookupswitch.offset [(97, 71), (102, 131), (108, 109), (110, 49), (115, 86)] 153 _ = _; rw [lv_osw (k := 97) c_7_97 (by decide), lv_osw (k := 102) c_7_102 (by decide), lv_osw (k := 108) c_7_108 (by decide), lv_osw (k := 110) c_7_110 (by decide), lv_osw (k := 115) c_7_115 (by decide)]; rfl) (by decide) ?_
  refine lv_aload_n hx hb dX6_obey_160 rfl (lv_at hl 0 rfl) ?_
  refine fa_getr (k := 0) (j := 1) CX HX fl_X6_10 (by omega) rfl rfl (fa_CI.A hC).1 dX6_obey_161 ?_
  refine lv_aload_n hx hb dX6_obey_164 rfl (lv_at hl 0 rfl) ?_
  refine fa_getr (k := 0) (j := 395) CX HX fl_X6_29 (by omega) rfl rfl (fa_CI.A hC).2.2.2.1 dX6_obey_165 ?_
  refine fa_geti (k := 395) CX HX fl_X6_253 (by omega) rfl rfl dX6_obey_168 ?_
  refine fa_callVi (As := [.int (v 395 4)]) (rest := []) CX HX (g_passDays l G n hn v r 1 (by decide) (fa_CI.S hC 1 (by decide)).1 (fa_CI.S hC 1 (by decide)).2 (v 395 4) ) ln_X6_64 (fa_lt (by decide) 0 (by decide) hn) (fa_s0 (by decide)) rfl rfl rfl (Nat.le_of_ble_eq_true rfl) hl.1 ⟨Nat.le_of_ble_eq_true rfl, Nat.le_of_ble_eq_true rfl⟩ ⟨Nat.le_refl _, Nat.le_refl _⟩ dX6_obey_171 (fun x1567 v1568 r1569 H locs h1566 HX1570 => ?_)
  dsimp only at h1566
  have hIS_v1568 := h1566.2.1
  have hr1_r1569 := h1566.2.2.1
  have hrr_r1569 := h1566.2.2.2.2
  have h_passDays := h1566.1
  have hC_v1568 : fa_CI v1568 r1569 := fa_CI.st hC (by decide) hIS_v1568 hr1_r1569 (fa_fr.wide h1566.2.2.2.1 (by omega) (by omega)) h1566.2.2.2.2
  exact RET _ _ _ _ _ _ _ HX1570 dX6_obey_174 (⟨⟨(fun k hk => h1566.2.2.2.2 k (by omega)), fun A hok hc => by (rw [fb_doA_o c_7_110 c_7_97 c_7_115 c_7_108 c_7_102]; exact h_passDays A hok hc)⟩, hC_v1568, (fa_fr.tr fa_fr.rf (fa_fr.wide h1566.2.2.2.1 (by omega) (by omega))), (fun k hk => ((h1566.2.2.2.2 k (by omega)).trans rfl))⟩)
set_option maxHeartbeats 4000000 in
set_option maxRecDepth 100000 in
theorem g_run (l : Launch) (G : fa_G) (n : Nat) (hn : 397 ≤ n) (v : fa_V) (r : fa_R) (hC : fa_CI v r) : fa_MI l G n yX6_run cX6_run 6 (some .int) 8 [.ref (fa_B G + (0))] v r (fun x w => ((w.1 395 1 = v 395 1) ∧ ∀ A H, fb_CV v r A H → (∃ j y, j ≤ 20 ∧ fa_FR (fa_sg (v 396) (fa_N (v 395 1))) (fa_N (v 395 1)) j y ∧ ¬ y = (-6 : Int32) ∧ x = (-3 : Int32) ∧ fb_CV w.1 w.2 A H ∧ w.1 0 = v 0) ∨ (∃ j e, j ≤ 20 ∧ fa_FR (fa_sg (v 396) (fa_N (v 395 1))) (fa_N (v 395 1)) j (-6 : Int32) ∧ fb_runP A (fa_sg (v 396) (fa_N (v 395 1))) (j + 1) e ∧ x = nI e ∧ fb_CV w.1 w.2 (fb_fin A (fa_sg (v 396) (fa_N (v 395 1))) (j + 1) e) (fb_push H A) ∧ fb_rpt A (fa_sg (v 396) (fa_N (v 395 1))) (j + 1) e (w.1 0 6) (w.1 0 4) (w.1 0 5))) ∧ (fa_CI w.1 w.2) ∧ (fa_fr 0 396 v w.1) ∧ (∀ k, 395 ≤ k → w.2 k = r k)) := by
  refine fa_startI (by decide +kernel) (Nat.le_of_ble_eq_true rfl) (fun p e s m args below meth c ls Q CX hl HX RET => ?_)
  have hl : lv_has ls 6 [(0, .ref (fa_B G + (0)))] := hl
  have hx := CX.1.1
  have hb := CX.1.2.1
  have hB : (1 : Nat) ∈ fa_bs := by decide
  obtain ⟨⟨nt, hnt, ht⟩, hch⟩ := fa_CI.T hC
  have hX : fa_TX v nt (v 396) := ⟨hnt, ht, rfl⟩
  have ent : fa_N (v 395 1) = nt := by rw [ht]; exact fa_N_nI (by omega)
  rw [ent] at RET
  refine lv_aload_n hx hb dX6_run_0 rfl (lv_at hl 0 rfl) ?_
  refine fa_getr (k := 0) (j := 395) CX HX fl_X6_29 (by omega) rfl rfl (fa_CI.A hC).2.2.2.1 dX6_run_1 ?_
  refine fa_callViu (As := []) (rest := []) CX HX (g_findFault l G n hn v r (fa_CI.A hC) (fa_CI.T hC) nt (v 396) hX) ln_X6_78 (by omega) rfl rfl rfl rfl (Nat.le_of_ble_eq_true rfl) hl.1 ⟨Nat.le_of_ble_eq_true rfl, Nat.le_of_ble_eq_true rfl⟩ ⟨Nat.le_refl _, Nat.le_refl _⟩ dX6_run_4 (fun x1572 v1573 H locs h1571 HX1574 => ?_)
  obtain ⟨hx_x1572, hs_x1572⟩ := h1571.1
  have hC_v1573 : fa_CI v1573 r := fa_CI.tx hC (fa_IT.rows (fa_CI.T hC) (hs_x1572 1 (by decide) (by decide) (by decide) (by decide)) (h1571.2 396 (by decide))) (fa_fr.wide h1571.2 (by omega) (by omega))
  refine lv_bipush (v := (-6 : Int32)) hx hb dX6_run_7 (by decide) ?_
  refine lv_icmp_eq (tgt := 15) hx hb dX6_run_9 (by decide) (fun c_9 => ?_) (fun c_9 => ?_)
  · refine lv_aload_n hx hb dX6_run_15 rfl (lv_at hl 0 rfl) ?_
    refine fa_getr (k := 0) (j := 113) CX HX1574 fl_X6_22 (by omega) rfl rfl (fa_CI.A hC_v1573).2.2.1 dX6_run_16 ?_
    refine lv_aload_n hx hb dX6_run_19 rfl (lv_at hl 0 rfl) ?_
    refine fa_getr (k := 0) (j := 1) CX HX1574 fl_X6_10 (by omega) rfl rfl (fa_CI.A hC_v1573).1 dX6_run_20 ?_
    refine fa_callVvu (As := [.ref (fa_B G + (1))]) (rest := []) CX HX1574 (g_draft l G n hn v1573 r hC_v1573 ) ln_X6_33 (by omega) rfl rfl rfl rfl (Nat.le_of_ble_eq_true rfl) hl.1 ⟨Nat.le_of_ble_eq_true rfl, Nat.le_of_ble_eq_true rfl⟩ ⟨Nat.le_refl _, Nat.le_refl _⟩ dX6_run_23 (fun v1576 H locs h1575 HX1577 => ?_)
    have hC_v1576 := h1575.1.2
    have h_draft := h1575.1.1
    refine lv_aload_n hx hb dX6_run_26 rfl (lv_at hl 0 rfl) ?_
    refine lv_iconst (v := nI (0)) hx hb dX6_run_27 (by decide) ?_
    refine fa_puti (k := 0) CX HX1577 fl_X6_82 (by omega) rfl rfl rfl rfl dX6_run_28 (fun H locs v1578 e1579 HX1580 => ?_)
    refine lv_aload_n hx hb dX6_run_31 rfl (lv_at hl 0 rfl) ?_
    refine fa_getr (k := 0) (j := 395) CX HX1580 fl_X6_29 (by omega) rfl rfl (fa_CI.A (show fa_CI v1578 r from by rw [e1579]; exact fa_CI.u0 hC_v1576)).2.2.2.1 dX6_run_32 ?_
    refine lv_iconst (v := nI (0)) hx hb dX6_run_35 (by decide) ?_
    refine fa_puti (k := 395) CX HX1580 fl_X6_85 (by omega) rfl rfl rfl rfl dX6_run_36 (fun H locs v1581 e1582 HX1583 => ?_)
    refine lv_iconst (v := nI (0)) hx hb dX6_run_39 (by decide) ?_
    refine lv_istore_n (lv' := [(1, .int (nI (0))), (0, .ref (fa_B G + (0)))]) hx hb dX6_run_40 rfl hl (by decide) rfl (fun ls hl => ?_)
    refine lv_iconst (v := nI (1)) hx hb dX6_run_41 (by decide) ?_
    refine lv_istore_n (lv' := [(2, .int (nI (1))), (1, .int (nI (0))), (0, .ref (fa_B G + (0)))]) hx hb dX6_run_42 rfl hl (by decide) rfl (fun ls hl => ?_)
    refine lv_iconst (v := nI (0)) hx hb dX6_run_43 (by decide) ?_
    refine lv_istore_n (lv' := [(3, .int (nI (0))), (2, .int (nI (1))), (1, .int (nI (0))), (0, .ref (fa_B G + (0)))]) hx hb dX6_run_44 rfl hl (by decide) rfl (fun ls hl => ?_)
    have LOOP_45 : ∀ (fu : Nat) (j : Nat) (ex : Int32) (mo : Int32) (mt : Nat) (v1584 : fa_V) (r1585 : fa_R) (H : Heap) (locs : List Loc) (ls : Array Slot), 60 - j < fu → (j ≤ 60 ∧ fa_CI v1584 r1585 ∧ v1584 395 1 = v 395 1 ∧ (mt ≤ nt ∧ v1584 395 2 = nI mt) ∧ fa_fr 0 396 v v1584 ∧ (∀ k, 395 ≤ k → r1585 k = r k) ∧ (∀ A H o, fb_CV v r A H → fb_txo (fa_sg (v 396) nt) nt o → fb_rnI A H (fa_sg (v 396) nt) o v1584 r1585 j mt ex mo)) → lv_has ls 6 [(0, .ref (fa_B G + (0))), (1, .int (ex)), (2, .int (mo)), (3, .int (nI (j)))] → fa_HX G (n) v1584 r1585 s H locs → W p l e (fa_rm 8) s m args below meth c H locs (0) (0) Q (F0 m 45 ls []) := by
      intro fu
      induction fu with
      | zero => intro j ex mo mt v1584 r1585 H locs ls hk; exact absurd hk (Nat.not_lt_zero _)
      | succ fu ih_45 =>
        intro j ex mo mt v1584 r1585 H locs ls hk_45 hi_45 hl HX1586
        refine lv_iload_n hx hb dX6_run_45 rfl (lv_at hl 2 rfl) ?_
        refine lv_if_eq (tgt := 120) hx hb dX6_run_46 (by decide) (fun c_46 => ?_) (fun c_46 => ?_)
        · refine lv_aload_n hx hb dX6_run_120 rfl (lv_at hl 0 rfl) ?_
          refine fa_getr (k := 0) (j := 113) CX HX1586 fl_X6_22 (by omega) rfl rfl (fa_CI.A hi_45.2.1).2.2.1 dX6_run_121 ?_
          refine fa_callVv (As := []) (rest := []) CX HX1586 (g_keepDraft l G n hn v1584 r1585 hi_45.2.1 ) ln_X6_106 (by omega) rfl rfl rfl rfl (Nat.le_of_ble_eq_true rfl) hl.1 ⟨Nat.le_of_ble_eq_true rfl, Nat.le_of_ble_eq_true rfl⟩ ⟨Nat.le_refl _, Nat.le_refl _⟩ dX6_run_124 (fun v1588 r1589 H locs h1587 HX1590 => ?_)
          dsimp only at h1587
          have hC_v1588 := h1587.2.1
          have h_keepDraft := h1587.1
          refine lv_iload_n hx hb dX6_run_127 rfl (lv_at hl 1 rfl) ?_
          exact RET _ _ _ _ _ _ _ HX1590 dX6_run_128 (⟨⟨(show v1588 395 1 = v 395 1 from ((congrFun (h1587.2.2.1 395 (by omega)) 1).trans hi_45.2.2.1)), fun A H hV => by (obtain ⟨j0, hj0, hF⟩ := hx_x1572; have hO := fb_txo_of (by omega) hF c_9; obtain ⟨e, q1, q2, q3, q4⟩ := fb_rnI.e hnt hV.1 hO (hi_45.2.2.2.2.2.2 A H _ hV hO) (Or.inl (by first | exact c_46 | exact Decidable.not_not.mp c_46)) h_keepDraft; rw [c_9] at hF; exact Or.inr ⟨j0, e, hj0, hF, q1, q2, q3, q4⟩)⟩, hC_v1588, (fa_fr.tr (fa_fr.tr fa_fr.rf (fa_fr.wide hi_45.2.2.2.2.1 (by omega) (by omega))) (fa_fr.wide h1587.2.2.1 (by omega) (by omega))), (fun k hk => ((h1587.2.2.2 k hk).trans ((hi_45.2.2.2.2.2.1 k hk).trans rfl)))⟩)
        · refine lv_iload_n hx hb dX6_run_49 rfl (lv_at hl 3 rfl) ?_
          refine lv_bipush (v := nI (60)) hx hb dX6_run_50 (by decide) ?_
          refine lv_icmp_ge (tgt := 120) hx hb dX6_run_52 (by decide) (fun c_52 => ?_) (fun c_52 => ?_)
          · refine lv_aload_n hx hb dX6_run_120 rfl (lv_at hl 0 rfl) ?_
            refine fa_getr (k := 0) (j := 113) CX HX1586 fl_X6_22 (by omega) rfl rfl (fa_CI.A hi_45.2.1).2.2.1 dX6_run_121 ?_
            refine fa_callVv (As := []) (rest := []) CX HX1586 (g_keepDraft l G n hn v1584 r1585 hi_45.2.1 ) ln_X6_106 (by omega) rfl rfl rfl rfl (Nat.le_of_ble_eq_true rfl) hl.1 ⟨Nat.le_of_ble_eq_true rfl, Nat.le_of_ble_eq_true rfl⟩ ⟨Nat.le_refl _, Nat.le_refl _⟩ dX6_run_124 (fun v1592 r1593 H locs h1591 HX1594 => ?_)
            dsimp only at h1591
            have hC_v1592 := h1591.2.1
            have h_keepDraft := h1591.1
            refine lv_iload_n hx hb dX6_run_127 rfl (lv_at hl 1 rfl) ?_
            exact RET _ _ _ _ _ _ _ HX1594 dX6_run_128 (⟨⟨(show v1592 395 1 = v 395 1 from ((congrFun (h1591.2.2.1 395 (by omega)) 1).trans hi_45.2.2.1)), fun A H hV => by (obtain ⟨j0, hj0, hF⟩ := hx_x1572; have hO := fb_txo_of (by omega) hF c_9; obtain ⟨e, q1, q2, q3, q4⟩ := fb_rnI.e hnt hV.1 hO (hi_45.2.2.2.2.2.2 A H _ hV hO) (Or.inr (fa_leN (by omega) (by omega) c_52)) h_keepDraft; rw [c_9] at hF; exact Or.inr ⟨j0, e, hj0, hF, q1, q2, q3, q4⟩)⟩, hC_v1592, (fa_fr.tr (fa_fr.tr fa_fr.rf (fa_fr.wide hi_45.2.2.2.2.1 (by omega) (by omega))) (fa_fr.wide h1591.2.2.1 (by omega) (by omega))), (fun k hk => ((h1591.2.2.2 k hk).trans ((hi_45.2.2.2.2.2.1 k hk).trans rfl)))⟩)
          · have hj := fa_ltN (by omega) (by omega) c_52
            refine lv_aload_n hx hb dX6_run_55 rfl (lv_at hl 0 rfl) ?_
            refine fa_getr (k := 0) (j := 395) CX HX1586 fl_X6_29 (by omega) rfl rfl (fa_CI.A hi_45.2.1).2.2.2.1 dX6_run_56 ?_
            refine fa_geti (k := 395) CX HX1586 fl_X6_85 (by omega) rfl rfl dX6_run_59 ?_
            rw [show v1584 395 2 = nI (mt) from hi_45.2.2.2.1.2]
            refine lv_istore (lv' := [(4, .int (nI (mt))), (0, .ref (fa_B G + (0))), (1, .int (ex)), (2, .int (mo)), (3, .int (nI (j)))]) hx hb dX6_run_62 hl (by decide) rfl (fun ls hl => ?_)
            refine lv_aload_n hx hb dX6_run_64 rfl (lv_at hl 1 rfl) ?_
            refine fa_getr (k := 0) (j := 395) CX HX1586 fl_X6_29 (by omega) rfl rfl (fa_CI.A hi_45.2.1).2.2.2.1 dX6_run_65 ?_
            refine fa_callViu (As := []) (rest := []) CX HX1586 (g_readOrder l G n hn v1584 r1585 (fa_CI.A hi_45.2.1) (fa_CI.T hi_45.2.1) nt (v 396) (fa_TX.rows hX hi_45.2.2.1 ((hi_45.2.2.2.2.1 396 (by omega)).trans rfl)) (mt) (by omega) hi_45.2.2.2.1.2) ln_X6_88 (by omega) rfl rfl rfl rfl (Nat.le_of_ble_eq_true rfl) hl.1 ⟨Nat.le_of_ble_eq_true rfl, Nat.le_of_ble_eq_true rfl⟩ ⟨Nat.le_refl _, Nat.le_refl _⟩ dX6_run_68 (fun x1596 v1597 H locs h1595 HX1598 => ?_)
            obtain ⟨hx_x1596, ⟨m_x1596, hm_x1596, hle_x1596, gm_x1596, he_x1596⟩, hs_x1596⟩ := h1595.1
            have hC_v1597 : fa_CI v1597 r1585 := fa_CI.tx hi_45.2.1 (fa_IT.rows (fa_CI.T hi_45.2.1) (hs_x1596 1 (by decide) (by decide) (by decide) (by decide)) (h1595.2 396 (by decide))) (fa_fr.wide h1595.2 (by omega) (by omega))
            refine lv_pop hx hb dX6_run_71 rfl ?_
            refine lv_aload_n hx hb dX6_run_72 rfl (lv_at hl 1 rfl) ?_
            refine fa_callVi (As := []) (rest := []) CX HX1598 (g_obey l G n hn v1597 r1585 hC_v1597 ) ln_X6_92 (by omega) rfl rfl rfl rfl (Nat.le_of_ble_eq_true rfl) hl.1 ⟨Nat.le_of_ble_eq_true rfl, Nat.le_of_ble_eq_true rfl⟩ ⟨Nat.le_refl _, Nat.le_refl _⟩ dX6_run_73 (fun x1600 v1601 r1602 H locs h1599 HX1603 => ?_)
            dsimp only at h1599
            have hC_v1601 := h1599.2.1
            have h_obey := h1599.1
            refine lv_istore (lv' := [(5, .int (x1600)), (4, .int (nI (mt))), (0, .ref (fa_B G + (0))), (1, .int (ex)), (2, .int (mo)), (3, .int (nI (j)))]) hx hb dX6_run_76 hl (by decide) rfl (fun ls hl => ?_)
            refine lv_iload hx hb dX6_run_78 (lv_at hl 0 rfl) ?_
            refine fa_callSip (As := [.int (x1600)]) (rest := []) CX HX1603 (c_X6_isError l G n v1601 r1602 (x1600)) ln_X6_95 rfl rfl (Nat.le_of_ble_eq_true rfl) hl.1 ⟨Nat.le_of_ble_eq_true rfl, Nat.le_of_ble_eq_true rfl⟩ ⟨Nat.le_refl _, Nat.le_refl _⟩ dX6_run_80 (fun x1605 H locs h1604 HX1606 => ?_)
            have h_isError := h1604
            refine lv_if_eq (tgt := 101) hx hb dX6_run_83 (by decide) (fun c_83 => ?_) (fun c_83 => ?_)
            · refine lv_iinc (v := ex + (1)) (lv' := [(1, .int (ex + (1))), (5, .int (x1600)), (4, .int (nI (mt))), (0, .ref (fa_B G + (0))), (2, .int (mo)), (3, .int (nI (j)))]) hx hb dX6_run_101 hl (k := 3) rfl rfl (by decide) rfl (fun ls hl => ?_)
              refine lv_aload_n hx hb dX6_run_104 rfl (lv_at hl 3 rfl) ?_
              refine fa_getr (k := 0) (j := 395) CX HX1606 fl_X6_29 (by omega) rfl rfl (fa_CI.A hC_v1601).2.2.2.1 dX6_run_105 ?_
              refine lv_bipush (v := nI (59)) hx hb dX6_run_108 (by decide) ?_
              refine fa_callViu (As := [.int (nI (59))]) (rest := []) CX HX1606 (g_readSign l G n hn v1601 r1602 (fa_CI.A hC_v1601) (fa_CI.T hC_v1601) nt (v 396) (fa_TX.rows hX ((congrFun (h1599.2.2.1 395 (by omega)) 1).trans ((hs_x1596 1 (by decide) (by decide) (by decide) (by decide)).trans hi_45.2.2.1)) ((h1599.2.2.1 396 (by omega)).trans ((h1595.2 396 (by omega)).trans ((hi_45.2.2.2.2.1 396 (by omega)).trans rfl)))) (m_x1596) (by omega) (by rw [h1599.2.2.1 _ (by omega)]; exact gm_x1596) (nI (59)) (by decide)) ln_X6_103 (by omega) rfl rfl rfl rfl (Nat.le_of_ble_eq_true rfl) hl.1 ⟨Nat.le_of_ble_eq_true rfl, Nat.le_of_ble_eq_true rfl⟩ ⟨Nat.le_refl _, Nat.le_refl _⟩ dX6_run_110 (fun x1608 v1609 H locs h1607 HX1610 => ?_)
              obtain ⟨hx_x1608, ⟨m_x1608, hm_x1608, hle_x1608, gm_x1608⟩, hs_x1608⟩ := h1607.1
              have hC_v1609 : fa_CI v1609 r1602 := fa_CI.tx hC_v1601 (fa_IT.rows (fa_CI.T hC_v1601) (hs_x1608 1 (by decide)) (h1607.2 396 (by decide))) (fa_fr.wide h1607.2 (by omega) (by omega))
              refine lv_istore_n (lv' := [(2, .int (x1608)), (1, .int (ex + (1))), (5, .int (x1600)), (4, .int (nI (mt))), (0, .ref (fa_B G + (0))), (3, .int (nI (j)))]) hx hb dX6_run_113 rfl hl (by decide) rfl (fun ls hl => ?_)
              refine lv_iinc (v := nI (j + 1)) (lv' := [(3, .int (nI (j + 1))), (2, .int (x1608)), (1, .int (ex + (1))), (5, .int (x1600)), (4, .int (nI (mt))), (0, .ref (fa_B G + (0)))]) hx hb dX6_run_114 hl (k := 5) rfl (nI_add (j) 1) (by decide) rfl (fun ls hl => ?_)
              refine lv_goto (tgt := 45) hx hb dX6_run_117 (by decide) ?_
              exact ih_45 (j + 1) (ex + (1)) (x1608) (m_x1608) v1609 r1602 _ _ _ (by omega) (⟨by omega, hC_v1609, ((hs_x1608 1 (by decide)).trans ((congrFun (h1599.2.2.1 395 (by omega)) 1).trans ((hs_x1596 1 (by decide) (by decide) (by decide) (by decide)).trans hi_45.2.2.1))), ⟨by omega, gm_x1608⟩, (fa_fr.tr (fa_fr.tr (fa_fr.tr (fa_fr.tr fa_fr.rf (fa_fr.wide hi_45.2.2.2.2.1 (by omega) (by omega))) (fa_fr.wide h1595.2 (by omega) (by omega))) (fa_fr.wide h1599.2.2.1 (by omega) (by omega))) (fa_fr.wide h1607.2 (by omega) (by omega))), (fun k hk => ((h1599.2.2.2 k hk).trans ((hi_45.2.2.2.2.2.1 k hk).trans rfl))), (fun A H o hV hO => fb_rnI.ok hO ((hi_45.2.2.2.2.2.2 A H o hV hO).s hV.1 hO (by first | exact c_46 | exact Decidable.not_not.mp c_46) h1595.2 hm_x1596 he_x1596.1 he_x1596.2 h1599.2.2.1 h_obey.1 h_obey.2) (fa_err0 h_isError (by first | exact c_83 | exact Decidable.not_not.mp c_83)) h1607.2 hx_x1608 hm_x1608)⟩) (lv_sub hl [5, 2, 1, 0] rfl) HX1610
            · refine lv_aload_n hx hb dX6_run_86 rfl (lv_at hl 2 rfl) ?_
              refine lv_iload_n hx hb dX6_run_87 rfl (lv_at hl 3 rfl) ?_
              refine lv_iload hx hb dX6_run_88 (lv_at hl 1 rfl) ?_
              refine lv_iload hx hb dX6_run_90 (lv_at hl 0 rfl) ?_
              refine lv_ineg hx hb dX6_run_92 ?_
              refine fa_callVvu (As := [.int (ex), .int (nI (mt)), .int (-(x1600))]) (rest := []) CX HX1606 (g_report l G n hn v1601 r1602 hC_v1601 (ex) (nI (mt)) (-(x1600))) ln_X6_99 (by omega) rfl rfl rfl rfl (Nat.le_of_ble_eq_true rfl) hl.1 ⟨Nat.le_of_ble_eq_true rfl, Nat.le_of_ble_eq_true rfl⟩ ⟨Nat.le_refl _, Nat.le_refl _⟩ dX6_run_93 (fun v1612 H locs h1611 HX1613 => ?_)
              have hC_v1612 := h1611.1.2
              have h_report := h1611.1.1
              refine lv_iconst (v := nI (0)) hx hb dX6_run_96 (by decide) ?_
              refine lv_istore_n (lv' := [(2, .int (nI (0))), (5, .int (x1600)), (4, .int (nI (mt))), (0, .ref (fa_B G + (0))), (1, .int (ex)), (3, .int (nI (j)))]) hx hb dX6_run_97 rfl hl (by decide) rfl (fun ls hl => ?_)
              refine lv_goto (tgt := 114) hx hb dX6_run_98 (by decide) ?_
              refine lv_iinc (v := nI (j + 1)) (lv' := [(3, .int (nI (j + 1))), (2, .int (nI (0))), (5, .int (x1600)), (4, .int (nI (mt))), (0, .ref (fa_B G + (0))), (1, .int (ex))]) hx hb dX6_run_114 hl (k := 5) rfl (nI_add (j) 1) (by decide) rfl (fun ls hl => ?_)
              refine lv_goto (tgt := 45) hx hb dX6_run_117 (by decide) ?_
              exact ih_45 (j + 1) (ex) (nI (0)) (m_x1596) v1612 r1602 _ _ _ (by omega) (⟨by omega, hC_v1612, ((congrFun (h1611.2 395 (by omega)) 1).trans ((congrFun (h1599.2.2.1 395 (by omega)) 1).trans ((hs_x1596 1 (by decide) (by decide) (by decide) (by decide)).trans hi_45.2.2.1))), ⟨by omega, (by rw [h1611.2 _ (by omega)]; exact (by rw [h1599.2.2.1 _ (by omega)]; exact gm_x1596))⟩, (fa_fr.tr (fa_fr.tr (fa_fr.tr (fa_fr.tr fa_fr.rf (fa_fr.wide hi_45.2.2.2.2.1 (by omega) (by omega))) (fa_fr.wide h1595.2 (by omega) (by omega))) (fa_fr.wide h1599.2.2.1 (by omega) (by omega))) (fa_fr.wide h1611.2 (by omega) (by omega))), (fun k hk => ((h1599.2.2.2 k hk).trans ((hi_45.2.2.2.2.2.1 k hk).trans rfl))), (fun A H o hV hO => fb_rnI.er ((hi_45.2.2.2.2.2.2 A H o hV hO).s hV.1 hO (by first | exact c_46 | exact Decidable.not_not.mp c_46) h1595.2 hm_x1596 he_x1596.1 he_x1596.2 h1599.2.2.1 h_obey.1 h_obey.2) (fa_err1 h_isError c_83) h1611.2 ⟨h_report.1, h_report.2.1, h_report.2.2⟩)⟩) (lv_sub hl [4, 5, 1, 0] rfl) HX1613
    exact LOOP_45 (60 - 0 + 1) (0) (nI (0)) (nI (1)) (0) v1581 r _ _ _ (Nat.lt_succ_self _) (⟨Nat.zero_le _, (show fa_CI v1581 r from by rw [e1582]; exact fa_CI.u395 (show fa_CI v1578 r from by rw [e1579]; exact fa_CI.u0 hC_v1576) (by decide)), ((congrFun (congrFun e1582 395) 1).trans ((fa_u_n _ _ (by decide)).trans ((congrFun (congrFun e1579 395) 1).trans ((fa_u_n _ _ (by decide)).trans ((congrFun (h1575.2 395 (by omega)) 1).trans (hs_x1572 1 (by decide) (by decide) (by decide) (by decide))))))), ⟨by omega, (by rw [e1582, fa_u_s])⟩, (by rw [e1582]; exact fa_fr.u (by rw [e1579]; exact fa_fr.u (fa_fr.tr (fa_fr.tr fa_fr.rf (fa_fr.wide h1571.2 (by omega) (by omega))) (fa_fr.wide h1575.2 (by omega) (by omega))) (by omega)) (by omega)), (fun k hk => rfl), (fun A H o hV hO => fb_rnI.start hV hC_v1573 h1571.2 h_draft e1579 e1582 hO)⟩) (lv_sub hl [3, 2, 1, 0] rfl) HX1583
  · refine lv_bipush (v := (-3 : Int32)) hx hb dX6_run_12 (by decide) ?_
    exact RET _ _ _ _ _ _ _ HX1574 dX6_run_14 (⟨⟨(show v1573 395 1 = v 395 1 from (hs_x1572 1 (by decide) (by decide) (by decide) (by decide))), fun A H hV => by (obtain ⟨j, hj, hF⟩ := hx_x1572; exact Or.inl ⟨j, x1572, hj, hF, c_9, rfl, hV.cong (fun k k1 k2 => h1571.2 k (by omega)), h1571.2 0 (by omega)⟩)⟩, hC_v1573, (fa_fr.tr fa_fr.rf (fa_fr.wide h1571.2 (by omega) (by omega))), (fun k hk => rfl)⟩)
/-! WHAT IS TOLD, as numbers -/
def fb_cntA (A : fb_At) (w : Int32) : Int32 := if w = (0 : Int32) then nI A.n else if w = (1 : Int32) then A.g 8 else if w = (2 : Int32) then fb_pgs A else if w = (3 : Int32) then A.g 9 else if w = (4 : Int32) then A.g 10 else if w = (5 : Int32) then A.g 11 else if w = (6 : Int32) then A.g 12 else if w = (7 : Int32) then A.g 13 else if w = (8 : Int32) then nI A.q.length else if w = (9 : Int32) then nI A.m else (-2 : Int32)
theorem fb_cntA_0 {A : fb_At} {w : Int32} (h : w = (0 : Int32)) : fb_cntA A w = nI A.n := by
  rw [fb_cntA, h, if_pos rfl]
theorem fb_cntA_1 {A : fb_At} {w : Int32} (h : w = (1 : Int32)) : fb_cntA A w = A.g 8 := by
  rw [fb_cntA, h, if_neg (by decide), if_pos rfl]
theorem fb_cntA_2 {A : fb_At} {w : Int32} (h : w = (2 : Int32)) : fb_cntA A w = fb_pgs A := by
  rw [fb_cntA, h, if_neg (by decide), if_neg (by decide), if_pos rfl]
theorem fb_cntA_3 {A : fb_At} {w : Int32} (h : w = (3 : Int32)) : fb_cntA A w = A.g 9 := by
  rw [fb_cntA, h, if_neg (by decide), if_neg (by decide), if_neg (by decide), if_pos rfl]
theorem fb_cntA_4 {A : fb_At} {w : Int32} (h : w = (4 : Int32)) : fb_cntA A w = A.g 10 := by
  rw [fb_cntA, h, if_neg (by decide), if_neg (by decide), if_neg (by decide), if_neg (by decide), if_pos rfl]
theorem fb_cntA_5 {A : fb_At} {w : Int32} (h : w = (5 : Int32)) : fb_cntA A w = A.g 11 := by
  rw [fb_cntA, h, if_neg (by decide), if_neg (by decide), if_neg (by decide), if_neg (by decide), if_neg (by decide), if_pos rfl]
theorem fb_cntA_6 {A : fb_At} {w : Int32} (h : w = (6 : Int32)) : fb_cntA A w = A.g 12 := by
  rw [fb_cntA, h, if_neg (by decide), if_neg (by decide), if_neg (by decide), if_neg (by decide), if_neg (by decide), if_neg (by decide), if_pos rfl]
theorem fb_cntA_7 {A : fb_At} {w : Int32} (h : w = (7 : Int32)) : fb_cntA A w = A.g 13 := by
  rw [fb_cntA, h, if_neg (by decide), if_neg (by decide), if_neg (by decide), if_neg (by decide), if_neg (by decide), if_neg (by decide), if_neg (by decide), if_pos rfl]
theorem fb_cntA_8 {A : fb_At} {w : Int32} (h : w = (8 : Int32)) : fb_cntA A w = nI A.q.length := by
  rw [fb_cntA, h, if_neg (by decide), if_neg (by decide), if_neg (by decide), if_neg (by decide), if_neg (by decide), if_neg (by decide), if_neg (by decide), if_neg (by decide), if_pos rfl]
theorem fb_cntA_9 {A : fb_At} {w : Int32} (h : w = (9 : Int32)) : fb_cntA A w = nI A.m := by
  rw [fb_cntA, h, if_neg (by decide), if_neg (by decide), if_neg (by decide), if_neg (by decide), if_neg (by decide), if_neg (by decide), if_neg (by decide), if_neg (by decide), if_neg (by decide), if_pos rfl]
theorem fb_cntA_o {A : fb_At} {w : Int32} (h0 : ¬ w = (0 : Int32)) (h1 : ¬ w = (1 : Int32)) (h2 : ¬ w = (2 : Int32)) (h3 : ¬ w = (3 : Int32)) (h4 : ¬ w = (4 : Int32)) (h5 : ¬ w = (5 : Int32)) (h6 : ¬ w = (6 : Int32)) (h7 : ¬ w = (7 : Int32)) (h8 : ¬ w = (8 : Int32)) (h9 : ¬ w = (9 : Int32)) : fb_cntA A w = (-2 : Int32) := by
  rw [fb_cntA, if_neg h0, if_neg h1, if_neg h2, if_neg h3, if_neg h4, if_neg h5, if_neg h6, if_neg h7, if_neg h8, if_neg h9]
def fb_fatA (A : fb_At) (p : Int32) : Int32 := if p < 0 then (-2 : Int32) else if ¬ p < nI A.n then (-6 : Int32) else A.F (fa_N p) 0
def fb_m6 (x : Int32) : Int32 := if x < 0 then (-6 : Int32) else x
def fb_filP (A : fb_At) (p : Nat) (w : Int32) : Int32 := if w = (0 : Int32) then A.F p 1 else if w = (1 : Int32) then A.F p 2 else if w = (2 : Int32) then A.F p 3 else if w = (3 : Int32) then fb_m6 (A.F p 4) else if w = (4 : Int32) then A.F p 5 else if w = (5 : Int32) then fb_m6 (A.F p 6) else if w = (6 : Int32) then fb_dueA A p else if w = (7 : Int32) then fb_maskA A p else if w = (8 : Int32) then fb_refs A (A.F p 0) else if w = (9 : Int32) then fb_nres A (A.F p 0) else (-2 : Int32)
theorem fb_filP_0 {A : fb_At} {p : Nat} {w : Int32} (h : w = (0 : Int32)) : fb_filP A p w = A.F p 1 := by
  rw [fb_filP, h, if_pos rfl]
theorem fb_filP_1 {A : fb_At} {p : Nat} {w : Int32} (h : w = (1 : Int32)) : fb_filP A p w = A.F p 2 := by
  rw [fb_filP, h, if_neg (by decide), if_pos rfl]
theorem fb_filP_2 {A : fb_At} {p : Nat} {w : Int32} (h : w = (2 : Int32)) : fb_filP A p w = A.F p 3 := by
  rw [fb_filP, h, if_neg (by decide), if_neg (by decide), if_pos rfl]
theorem fb_filP_3 {A : fb_At} {p : Nat} {w : Int32} (h : w = (3 : Int32)) : fb_filP A p w = fb_m6 (A.F p 4) := by
  rw [fb_filP, h, if_neg (by decide), if_neg (by decide), if_neg (by decide), if_pos rfl]
theorem fb_filP_4 {A : fb_At} {p : Nat} {w : Int32} (h : w = (4 : Int32)) : fb_filP A p w = A.F p 5 := by
  rw [fb_filP, h, if_neg (by decide), if_neg (by decide), if_neg (by decide), if_neg (by decide), if_pos rfl]
theorem fb_filP_5 {A : fb_At} {p : Nat} {w : Int32} (h : w = (5 : Int32)) : fb_filP A p w = fb_m6 (A.F p 6) := by
  rw [fb_filP, h, if_neg (by decide), if_neg (by decide), if_neg (by decide), if_neg (by decide), if_neg (by decide), if_pos rfl]
theorem fb_filP_6 {A : fb_At} {p : Nat} {w : Int32} (h : w = (6 : Int32)) : fb_filP A p w = fb_dueA A p := by
  rw [fb_filP, h, if_neg (by decide), if_neg (by decide), if_neg (by decide), if_neg (by decide), if_neg (by decide), if_neg (by decide), if_pos rfl]
theorem fb_filP_7 {A : fb_At} {p : Nat} {w : Int32} (h : w = (7 : Int32)) : fb_filP A p w = fb_maskA A p := by
  rw [fb_filP, h, if_neg (by decide), if_neg (by decide), if_neg (by decide), if_neg (by decide), if_neg (by decide), if_neg (by decide), if_neg (by decide), if_pos rfl]
theorem fb_filP_8 {A : fb_At} {p : Nat} {w : Int32} (h : w = (8 : Int32)) : fb_filP A p w = fb_refs A (A.F p 0) := by
  rw [fb_filP, h, if_neg (by decide), if_neg (by decide), if_neg (by decide), if_neg (by decide), if_neg (by decide), if_neg (by decide), if_neg (by decide), if_neg (by decide), if_pos rfl]
theorem fb_filP_9 {A : fb_At} {p : Nat} {w : Int32} (h : w = (9 : Int32)) : fb_filP A p w = fb_nres A (A.F p 0) := by
  rw [fb_filP, h, if_neg (by decide), if_neg (by decide), if_neg (by decide), if_neg (by decide), if_neg (by decide), if_neg (by decide), if_neg (by decide), if_neg (by decide), if_neg (by decide), if_pos rfl]
theorem fb_filP_o {A : fb_At} {p : Nat} {w : Int32} (h0 : ¬ w = (0 : Int32)) (h1 : ¬ w = (1 : Int32)) (h2 : ¬ w = (2 : Int32)) (h3 : ¬ w = (3 : Int32)) (h4 : ¬ w = (4 : Int32)) (h5 : ¬ w = (5 : Int32)) (h6 : ¬ w = (6 : Int32)) (h7 : ¬ w = (7 : Int32)) (h8 : ¬ w = (8 : Int32)) (h9 : ¬ w = (9 : Int32)) : fb_filP A p w = (-2 : Int32) := by
  rw [fb_filP, if_neg h0, if_neg h1, if_neg h2, if_neg h3, if_neg h4, if_neg h5, if_neg h6, if_neg h7, if_neg h8, if_neg h9]
def fb_filA (A : fb_At) (a w : Int32) : Int32 := match fb_ix A.F a A.n with
  | none => (-1 : Int32)
  | some p => fb_filP A p w
theorem fb_filA_n {A : fb_At} {a w : Int32} (e : fb_ix A.F a A.n = none) : fb_filA A a w = (-1 : Int32) := by rw [fb_filA, e]
theorem fb_filA_s {A : fb_At} {a w : Int32} {p : Nat} (e : fb_ix A.F a A.n = some p) : fb_filA A a w = fb_filP A p w := by rw [fb_filA, e]
theorem fb_m6_of {x y : Int32} (h : fb_e6 x = y) (hy : y = (-1 : Int32) ∨ 0 ≤ y) : x = fb_m6 y := by
  rcases hy with z | z
  · rw [z] at h
    rw [fb_e6_m1 h, z]
    rfl
  · rw [fb_e6_inv h z, fb_m6, if_neg (Int32.not_lt.mpr z)]
theorem fb_okA.f4 {A : fb_At} (h : fb_okA A) {p : Nat} (hp : p < A.n) : A.F p 4 = (-1 : Int32) ∨ 0 ≤ A.F p 4 := (h.1.2.2.2.2.2 p hp).2.1
theorem fb_okA.f6 {A : fb_At} (h : fb_okA A) {p : Nat} (hp : p < A.n) : A.F p 6 = (-1 : Int32) ∨ 0 ≤ A.F p 6 := by
  rcases (h.1.2.2.2.2.2 p hp).2.2.1 with z | ⟨k, hk, z⟩
  · exact Or.inl z
  · exact Or.inr (by rw [← z]; exact h.npos hk)
def fb_sloA (A : fb_At) (h a : Int32) : Int32 := match fb_ix A.F a A.n with
  | none => (-1 : Int32)
  | some p => if h < 0 ∨ ¬ h < nI 8 then (-1 : Int32) else if A.F p (7 + fa_N h) = 0 then (-6 : Int32) else A.F p (7 + fa_N h) - 1
theorem fb_sloA_n {A : fb_At} {h a : Int32} (e : fb_ix A.F a A.n = none) : fb_sloA A h a = (-1 : Int32) := by rw [fb_sloA, e]
theorem fb_sloA_h {A : fb_At} {h a : Int32} {p : Nat} (e : fb_ix A.F a A.n = some p) (c : h < 0 ∨ ¬ h < nI 8) : fb_sloA A h a = (-1 : Int32) := by
  rw [fb_sloA, e]
  exact if_pos c
theorem fb_sloA_s {A : fb_At} {h a : Int32} {p j : Nat} (e : fb_ix A.F a A.n = some p) (c : ¬ (h < 0 ∨ ¬ h < nI 8)) (hj : h = nI j) (hj8 : j < 8) : fb_sloA A h a = if A.F p (7 + j) = 0 then (-6 : Int32) else A.F p (7 + j) - 1 := by
  have ej : fa_N h = j := by rw [hj, fa_N_nI (by omega)]
  rw [← ej, fb_sloA, e]
  exact if_neg c
def fb_trcA (A : fb_At) (k w : Int32) : Int32 := if k < 0 ∨ w < 0 ∨ ¬ w < nI 5 then (-2 : Int32) else if ¬ k < nI A.m then (-6 : Int32) else A.T (A.m - 1 - fa_N k) (fa_N w)
/-- the reservations, sorted -/
def fb_rsvP (A : fb_At) (k w x : Int32) : Prop := ∀ L : List (Int32 × Int32), L.Perm A.q → L.Pairwise fb_bef → x = if k < 0 ∨ w < 0 ∨ ¬ w ≤ nI 1 then (-2 : Int32) else match L[fa_N k]? with
  | none => (-6 : Int32)
  | some y => if w = 0 then y.1 else y.2
def fb_stgA (A : fb_At) (s : Int32) : Int32 := if s < 0 ∨ ¬ s < nI 7 then (-1 : Int32) else A.g (fa_N s)
def fb_ages (A : fb_At) : Int32 := fa_sum (fun p => A.g 7 - A.F p 3) A.n
noncomputable def fb_styA (A : fb_At) (a : Int32) : Int32 := match fb_ix A.F a A.n with
  | none => (-1 : Int32)
  | some p => fb_why A p
theorem fb_styA_n {A : fb_At} {a : Int32} (e : fb_ix A.F a A.n = none) : fb_styA A a = (-1 : Int32) := by rw [fb_styA, e]
theorem fb_styA_s {A : fb_At} {a : Int32} {p : Nat} (e : fb_ix A.F a A.n = some p) : fb_styA A a = fb_why A p := by rw [fb_styA, e]
/-- the lowest one that stays and refers to a -/
noncomputable def fb_kpr (A : fb_At) (a : Int32) : Nat → Int32
  | 0 => (-6 : Int32)
  | n + 1 => if fb_kpr A a n = (-6 : Int32) then (if A.F n 6 = a ∧ fb_stb A n = true then A.F n 0 else (-6 : Int32)) else fb_kpr A a n
noncomputable def fb_kprA (A : fb_At) (a : Int32) : Int32 := if fb_styA A a = (-1 : Int32) then (-1 : Int32) else if fb_styA A a = nI 4 then fb_kpr A a A.n else (-6 : Int32)
theorem fb_kpr_no {A : fb_At} {a : Int32} : ∀ n, (∀ k, k < n → ¬ (A.F k 6 = a ∧ fb_stb A k = true)) → fb_kpr A a n = (-6 : Int32)
  | 0, _ => rfl
  | n + 1, h => by rw [fb_kpr, fb_kpr_no n (fun k hk => h k (by omega)), if_pos rfl, if_neg (h n (by omega))]
theorem fb_kpr_at {A : fb_At} {a : Int32} {p : Nat} (h : A.F p 6 = a ∧ fb_stb A p = true) (hp : 0 ≤ A.F p 0) (hl : ∀ k, k < p → ¬ (A.F k 6 = a ∧ fb_stb A k = true)) : ∀ n, p < n → fb_kpr A a n = A.F p 0
  | 0, hn => absurd hn (Nat.not_lt_zero _)
  | n + 1, hn => by
    have n6 : ¬ A.F p 0 = (-6 : Int32) := fun z => by rw [z] at hp; exact absurd hp (by decide)
    rw [fb_kpr]
    by_cases z : p = n
    · rw [← z, fb_kpr_no p hl, if_pos rfl, if_pos h]
    · rw [fb_kpr_at h hp hl n (by omega), if_neg n6]
theorem fb_cA.ages {v : fa_V} {r : fa_R} {b : Nat} {A : fb_At} (h : fb_cA v r b A) : fa_sum (fun p => v b 0 - v (fa_pf r b p) 3) (fa_N (v b 1)) = fb_ages A := by
  rw [h.n]
  exact fa_sum_congr _ (fun k hk => by rw [h.now, h.f hk (by decide) (by decide)])
/-- the class's row of reservations is the sorted one -/
theorem fb_srt_uniq {L M : List (Int32 × Int32)} (h : L.Perm M) (h1 : L.Pairwise fb_bef) (h2 : M.Pairwise fb_bef) : L = M := List.Perm.eq_of_pairwise (fun a b _ _ x y => absurd (fb_bef_tr x y) fb_bef_irr) h1 h2 h
theorem fb_cQ.at {v : fa_V} {b : Nat} {q L : List (Int32 × Int32)} (h : fb_cQ v b q) (hP : L.Perm q) (hS : L.Pairwise fb_bef) : fb_cL v b L := by
  obtain ⟨M, hM, hQ, hT⟩ := h
  rw [fb_srt_uniq (hP.trans hQ.symm) hS hT]
  exact hM
theorem fb_c_rsv0 {A : fb_At} {k w : Int32} (h : k < 0 ∨ w < 0 ∨ ¬ w ≤ nI 1) : fb_rsvP A k w (-2 : Int32) := fun L _ _ => (if_pos h).symm
theorem fb_c_rsv1 {v : fa_V} {b : Nat} {A : fb_At} {k w : Int32} (hc : fb_cQ v b A.q) (h : ¬ (k < 0 ∨ w < 0 ∨ ¬ w ≤ nI 1)) (h2 : ¬ k < v (b + 2) 0) : fb_rsvP A k w (-6 : Int32) := fun L hP hS => by
  have hL := hc.at hP hS
  have l8 := hL.2.1
  obtain ⟨j, hj, ej⟩ := nI_of (x := k) (fun z => h (Or.inl z))
  rw [hL.1, ej, nI_ltI hj (by omega)] at h2
  rw [if_neg h, ej, fa_N_nI hj, List.getElem?_eq_none (by omega)]
theorem fb_c_rsv2 {v : fa_V} {b j : Nat} {A : fb_At} {k w x : Int32} (hc : fb_cQ v b A.q) (h : ¬ (k < 0 ∨ w < 0 ∨ ¬ w ≤ nI 1)) (ej : k = nI j) (hj : j < fa_N (v (b + 2) 0)) (hx : x = if w = 0 then v (b + 3) j else v (b + 4) j) : fb_rsvP A k w x := fun L hP hS => by
  have hL := hc.at hP hS
  have l8 := hL.2.1
  rw [hL.n] at hj
  rw [if_neg h, ej, fa_N_nI (by omega), List.getElem?_eq_getElem hj, hx, hL.at hj]
theorem fb_trc0 {A : fb_At} {k w : Int32} (h : k < 0 ∨ w < 0 ∨ ¬ w < nI 5) : fb_trcA A k w = (-2 : Int32) := if_pos h
theorem fb_trc1 {A : fb_At} {k w : Int32} (h : ¬ (k < 0 ∨ w < 0 ∨ ¬ w < nI 5)) (h2 : ¬ k < nI A.m) : fb_trcA A k w = (-6 : Int32) := by rw [fb_trcA, if_neg h, if_pos h2]
theorem fb_trc2 {A : fb_At} {k w : Int32} {j i : Nat} (h : ¬ (k < 0 ∨ w < 0 ∨ ¬ w < nI 5)) (ek : k = nI j) (ew : w = nI i) (hj : j < A.m) (hm : A.m ≤ 12) (hi : i < 5) : fb_trcA A k w = A.T (A.m - 1 - j) i := by
  rw [fb_trcA, if_neg h, if_neg (fun z => z (by rw [ek]; exact nI_lt hj (by omega))), ek, ew, fa_N_nI (by omega), fa_N_nI (by omega)]
/-- the one that keeps, as the class finds it -/
theorem fb_c_kpr {v : fa_V} {r : fa_R} {b : Nat} {A : fb_At} {a x : Int32} (hok : fb_okA A) (hc : fb_cA v r b A) (ha : 0 ≤ a) (hw : ∀ p, p < A.n → v (fa_pf r b p) 8 = fb_why A p) (h : (∃ p, p < fa_N (v b 1) ∧ (v (fa_pf r b p) 6 = a ∧ ¬ v (fa_pf r b p) 8 = 0) ∧ x = v (fa_pf r b p) 0 ∧ ∀ k, k < p → ¬ (v (fa_pf r b k) 6 = a ∧ ¬ v (fa_pf r b k) 8 = 0)) ∨ (x = (-6 : Int32) ∧ ∀ k, k < fa_N (v b 1) → ¬ (v (fa_pf r b k) 6 = a ∧ ¬ v (fa_pf r b k) 8 = 0))) : x = fb_kpr A a A.n := by
  rw [hc.n] at h
  have iff : ∀ k, k < A.n → ((v (fa_pf r b k) 6 = a ∧ ¬ v (fa_pf r b k) 8 = 0) ↔ (A.F k 6 = a ∧ fb_stb A k = true)) := fun k hk => by
    rw [hw k hk, fb_why0 hk, fb_e6_eq ha, hc.f6 hk (Or.inr rfl), Decidable.not_not]
  rcases h with ⟨p, hp, h1, h2, h3⟩ | ⟨h1, h2⟩
  · rw [h2, hc.f hp (by decide) (by decide), fb_kpr_at ((iff p hp).mp h1) (hok.npos hp) (fun k hk z => h3 k hk ((iff k (by omega)).mpr z)) A.n hp]
  · rw [h1, fb_kpr_no A.n (fun k hk z => h2 k hk ((iff k hk).mpr z))]
theorem fb_sty4 {A : fb_At} {a : Int32} (hok : fb_okA A) (h : fb_styA A a = nI 4) : 0 ≤ a := by
  rcases fb_ix_elim A.n (F := A.F) (a := a) with z | ⟨p, z, hp, ep, -⟩
  · rw [fb_styA_n z.1] at h
    exact absurd h (by decide)
  · rw [← ep]; exact hok.npos hp
theorem fb_mean {v : fa_V} {r : fa_R} {b : Nat} {A : fb_At} (hc : fb_cA v r b A) : fa_N (v b 1) = A.n := hc.n
noncomputable def fb_meanA (A : fb_At) : UInt32 := if A.n = 0 then FP.fconst0 else FP.fdiv (FP.i2f (fb_ages A)) (FP.i2f (nI A.n))
set_option maxHeartbeats 4000000 in
set_option maxRecDepth 100000 in
theorem g_why (l : Launch) (G : fa_G) (n : Nat) (hn : 397 ≤ n) (v : fa_V) (r : fa_R) (hC : fa_CI v r) (a1 : Int32) : fa_MI l G n yX6_why cX6_why 2 (some .int) 1 [.ref (fa_B G + (0)), .int (a1)] v r (fun x w => w = (v, r) ∧ (x = fb_whyA (v 0 6) (v 0 4) (v 0 5) a1)) := by
  refine fa_startI (by decide +kernel) (Nat.le_of_ble_eq_true rfl) (fun p e s m args below meth c ls Q CX hl HX RET => ?_)
  have hl : lv_has ls 2 [(0, .ref (fa_B G + (0))), (1, .int (a1))] := hl
  have hx := CX.1.1
  have hb := CX.1.2.1
  have hB : (1 : Nat) ∈ fa_bs := by decide
  refine lv_iload_n hx hb dX6_why_0 rfl (lv_at hl 1 rfl) ?_
  refine lv_if_lt (tgt := 9) hx hb dX6_why_1 (by decide) (fun c_1 => ?_) (fun c_1 => ?_)
  · refine lv_bipush (v := (-2 : Int32)) hx hb dX6_why_9 (by decide) ?_
    exact RET _ _ _ _ _ _ _ HX dX6_why_11 (⟨rfl, (by rw [fb_whyA, if_pos (Or.inl c_1)])⟩)
  · refine lv_iload_n hx hb dX6_why_4 rfl (lv_at hl 1 rfl) ?_
    refine lv_iconst (v := nI (2)) hx hb dX6_why_5 (by decide) ?_
    refine lv_icmp_le (tgt := 12) hx hb dX6_why_6 (by decide) (fun c_6 => ?_) (fun c_6 => ?_)
    · refine lv_aload_n hx hb dX6_why_12 rfl (lv_at hl 0 rfl) ?_
      refine fa_geti (k := 0) CX HX fl_X6_82 (by omega) rfl rfl dX6_why_13 ?_
      refine lv_if_ne (tgt := 22) hx hb dX6_why_16 (by decide) (fun c_16 => ?_) (fun c_16 => ?_)
      · refine lv_iload_n hx hb dX6_why_22 rfl (lv_at hl 1 rfl) ?_
        by_cases c_23_0 : a1 = (0 : Int32)
        · refine lv_lookup (off := 25) (tgt := 48) hx hb dX6_why_23 (by decide) (by rw [c_23_0]; decide) (by decide) ?_
          refine lv_aload_n hx hb dX6_why_48 rfl (lv_at hl 0 rfl) ?_
          refine fa_geti (k := 0) CX HX fl_X6_109 (by omega) rfl rfl dX6_why_49 ?_
          exact RET _ _ _ _ _ _ _ HX dX6_why_52 (⟨rfl, (by rw [fb_whyA, if_neg (fun z => z.elim c_1 (fun z => z c_6)), if_neg c_16, if_pos c_23_0])⟩)
        by_cases c_23_1 : a1 = (1 : Int32)
        · refine lv_lookup (off := 30) (tgt := 53) hx hb dX6_why_23 (by decide) (by rw [c_23_1]; decide) (by decide) ?_
          refine lv_aload_n hx hb dX6_why_53 rfl (lv_at hl 0 rfl) ?_
          refine fa_geti (k := 0) CX HX fl_X6_112 (by omega) rfl rfl dX6_why_54 ?_
          exact RET _ _ _ _ _ _ _ HX dX6_why_57 (⟨rfl, (by rw [fb_whyA, if_neg (fun z => z.elim c_1 (fun z => z c_6)), if_neg c_16, if_neg c_23_0, if_pos c_23_1])⟩)
        refine lv_lookup (off := 35) (tgt := 58) hx hb dX6_why_23 (by decide) (by show Op.lookupswitch.offset [(0, 25), (1, 30)] 35 _ = _; rw [lv_osw (k := 0) c_23_0 (by decide), lv_osw (k := 1) c_23_1 (by decide)]; rfl) (by decide) ?_
        refine lv_aload_n hx hb dX6_why_58 rfl (lv_at hl 0 rfl) ?_
        refine fa_geti (k := 0) CX HX fl_X6_82 (by omega) rfl rfl dX6_why_59 ?_
        exact RET _ _ _ _ _ _ _ HX dX6_why_62 (⟨rfl, (by rw [fb_whyA, if_neg (fun z => z.elim c_1 (fun z => z c_6)), if_neg c_16, if_neg c_23_0, if_neg c_23_1])⟩)
      · refine lv_bipush (v := (-6 : Int32)) hx hb dX6_why_19 (by decide) ?_
        exact RET _ _ _ _ _ _ _ HX dX6_why_21 (⟨rfl, (by rw [fb_whyA, if_neg (fun z => z.elim c_1 (fun z => z c_6)), if_pos (by first | exact c_16 | exact Decidable.not_not.mp c_16)])⟩)
    · refine lv_bipush (v := (-2 : Int32)) hx hb dX6_why_9 (by decide) ?_
      exact RET _ _ _ _ _ _ _ HX dX6_why_11 (⟨rfl, (by rw [fb_whyA, if_pos (Or.inr c_6)])⟩)
set_option maxHeartbeats 4000000 in
set_option maxRecDepth 100000 in
theorem g_undo (l : Launch) (G : fa_G) (n : Nat) (hn : 397 ≤ n) (v : fa_V) (r : fa_R) (hC : fa_CI v r) : fa_MI l G n yX6_undo cX6_undo 2 (some .int) 4 [.ref (fa_B G + (0))] v r (fa_voi r (fun x v1 => ((∀ A H, fb_CV v r A H → x = (fb_undoA A H).1 ∧ fb_CV v1 r (fb_undoA A H).2.1 (fb_undoA A H).2.2) ∧ fa_CI v1 r) ∧ (fa_fr (1) (395) v v1))) := by
  refine fa_startI (by decide +kernel) (Nat.le_of_ble_eq_true rfl) (fun p e s m args below meth c ls Q CX hl HX RET => ?_)
  have hl : lv_has ls 2 [(0, .ref (fa_B G + (0)))] := hl
  have hx := CX.1.1
  have hb := CX.1.2.1
  have hB : (1 : Nat) ∈ fa_bs := by decide
  refine lv_aload_n hx hb dX6_undo_0 rfl (lv_at hl 0 rfl) ?_
  refine fa_getr (k := 0) (j := 113) CX HX fl_X6_22 (by omega) rfl rfl (fa_CI.A hC).2.2.1 dX6_undo_1 ?_
  refine fa_callVru (As := []) (rest := []) CX HX (g_takeLatest l G n hn v r hC ) ln_X6_115 (by omega) rfl rfl rfl rfl (Nat.le_of_ble_eq_true rfl) hl.1 ⟨Nat.le_of_ble_eq_true rfl, Nat.le_of_ble_eq_true rfl⟩ ⟨Nat.le_refl _, Nat.le_refl _⟩ dX6_undo_4 (fun v1615 H locs h1614 HX1616 => ?_) (fun q1617 v1615 H locs h1614 HX1616 => ?_)
  · have hC_v1615 := h1614.1.2
    refine lv_astore_nN (lv' := [(1, .null), (0, .ref (fa_B G + (0)))]) hx hb dX6_undo_7 rfl hl (by decide) rfl (fun ls hl => ?_)
    refine lv_aload_nN hx hb dX6_undo_8 rfl (lv_at hl 0 rfl) ?_
    refine lv_ifnonnullN hx hb dX6_undo_9 ?_
    refine lv_bipush (v := (-6 : Int32)) hx hb dX6_undo_12 (by decide) ?_
    exact RET _ _ _ _ _ _ _ HX1616 dX6_undo_14 (⟨rfl, ⟨⟨(fun A H hV => by (have z := fb_undo0 hV (h1614.1.1.2 rfl).1; rw [(h1614.1.1.2 rfl).2]; exact z)), hC_v1615⟩, (fa_fr.tr fa_fr.rf (fa_fr.wide h1614.2 (by omega) (by omega)))⟩⟩)
  · have hC_v1615 := h1614.1.2
    obtain ⟨hbd, k3, hk3, e3k, e4k, e5k⟩ := h1614.1.1.1 q1617 rfl
    have hbl := fa_hb_lo q1617 hbd
    refine lv_astore_n (lv' := [(1, .ref (fa_B G + (q1617))), (0, .ref (fa_B G + (0)))]) hx hb dX6_undo_7 rfl hl (by decide) rfl (fun ls hl => ?_)
    refine lv_aload_n hx hb dX6_undo_8 rfl (lv_at hl 0 rfl) ?_
    refine lv_ifnonnull (tgt := 15) hx hb dX6_undo_9 (by decide) ?_
    refine lv_aload_n hx hb dX6_undo_15 rfl (lv_at hl 1 rfl) ?_
    refine fa_getr (k := 0) (j := 1) CX HX1616 fl_X6_10 (by omega) rfl rfl (fa_CI.A hC_v1615).1 dX6_undo_16 ?_
    refine lv_aload_n hx hb dX6_undo_19 rfl (lv_at hl 0 rfl) ?_
    refine fa_callVvu (As := [.ref (fa_B G + (q1617))]) (rest := []) CX HX1616 (g_copyFrom l G n hn v1615 r 1 (by decide) (fa_CI.S hC_v1615 1 (by decide)).1 q1617 (fa_hb_bs _ hbd) (fa_CI.S hC_v1615 q1617 (fa_hb_bs _ hbd)).1 (by omega) (fa_CI.S hC_v1615 1 (by decide)).2 (fa_CI.S hC_v1615 q1617 (fa_hb_bs _ hbd)).2) ln_X6_119 (fa_lt (by decide) 0 (by decide) hn) (fa_s0 (by decide)) rfl rfl rfl (Nat.le_of_ble_eq_true rfl) hl.1 ⟨Nat.le_of_ble_eq_true rfl, Nat.le_of_ble_eq_true rfl⟩ ⟨Nat.le_refl _, Nat.le_refl _⟩ dX6_undo_20 (fun v1619 H locs h1618 HX1620 => ?_)
    have h_copyFrom := h1618.1.2
    have hIS_v1619 : fa_IS v1619 1 := h1618.1.1
    have hC_v1619 : fa_CI v1619 r := fa_CI.st hC_v1615 (by decide) hIS_v1619 (fa_CI.S hC_v1615 1 (by decide)).1 (fa_fr.wide h1618.2 (by omega) (by omega)) (fun _ _ => rfl)
    refine lv_aload_n hx hb dX6_undo_23 rfl (lv_at hl 1 rfl) ?_
    refine fa_getr (k := 0) (j := 113) CX HX1620 fl_X6_22 (by omega) rfl rfl (fa_CI.A hC_v1619).2.2.1 dX6_undo_24 ?_
    refine fa_geti (k := 113) CX HX1620 fl_X6_122 (by omega) rfl rfl dX6_undo_27 ?_
    exact RET _ _ _ _ _ _ _ HX1620 dX6_undo_30 (⟨rfl, ⟨⟨(fun A H hV => fb_undo1 hV e3k e4k hk3 e5k h1614.2 h1618.2 h_copyFrom), hC_v1619⟩, (fa_fr.tr (fa_fr.tr fa_fr.rf (fa_fr.wide h1614.2 (by omega) (by omega))) (fa_fr.wide h1618.2 (by omega) (by omega)))⟩⟩)
set_option maxHeartbeats 4000000 in
set_option maxRecDepth 100000 in
theorem g_now (l : Launch) (G : fa_G) (n : Nat) (hn : 397 ≤ n) (v : fa_V) (r : fa_R) (hC : fa_CI v r) : fa_MI l G n yX6_now cX6_now 1 (some .int) 1 [.ref (fa_B G + (0))] v r (fun x w => w = (v, r) ∧ (x = v 1 0)) := by
  refine fa_startI (by decide +kernel) (Nat.le_of_ble_eq_true rfl) (fun p e s m args below meth c ls Q CX hl HX RET => ?_)
  have hl : lv_has ls 1 [(0, .ref (fa_B G + (0)))] := hl
  have hx := CX.1.1
  have hb := CX.1.2.1
  have hB : (1 : Nat) ∈ fa_bs := by decide
  refine lv_aload_n hx hb dX6_now_0 rfl (lv_at hl 0 rfl) ?_
  refine fa_getr (k := 0) (j := 1) CX HX fl_X6_10 (by omega) rfl rfl (fa_CI.A hC).1 dX6_now_1 ?_
  refine fa_geti (k := 1) CX HX fl_X6_125 (fa_lt (by decide) 0 (by decide) hn) (fa_s0 (by decide)) rfl dX6_now_4 ?_
  exact RET _ _ _ _ _ _ _ HX dX6_now_7 (⟨rfl, rfl⟩)
set_option maxHeartbeats 4000000 in
set_option maxRecDepth 100000 in
theorem g_count (l : Launch) (G : fa_G) (n : Nat) (hn : 397 ≤ n) (v : fa_V) (r : fa_R) (hC : fa_CI v r) (a1 : Int32) : fa_MI l G n yX6_count cX6_count 2 (some .int) 3 [.ref (fa_B G + (0)), .int (a1)] v r (fun x w => w = (v, r) ∧ (∀ A, fb_okA A → fb_cA v r 1 A → x = fb_cntA A a1)) := by
  refine fa_startI (by decide +kernel) (Nat.le_of_ble_eq_true rfl) (fun p e s m args below meth c ls Q CX hl HX RET => ?_)
  have hl : lv_has ls 2 [(0, .ref (fa_B G + (0))), (1, .int (a1))] := hl
  have hx := CX.1.1
  have hb := CX.1.2.1
  have hB : (1 : Nat) ∈ fa_bs := by decide
  obtain ⟨n0, en0⟩ : ∃ n0, n0 = fa_N (v 1 1) := ⟨_, rfl⟩
  obtain ⟨hn0, h1⟩ := (fa_CI.S hC 1 (by decide)).2.n1 en0
  obtain ⟨n2, en2⟩ : ∃ n2, n2 = fa_N (v (1 + 2) 0) := ⟨_, rfl⟩
  obtain ⟨hn2, h2⟩ := (fa_CI.S hC 1 (by decide)).2.n2 en2
  obtain ⟨n5, en5⟩ : ∃ n5, n5 = fa_N (v (1 + 5) 0) := ⟨_, rfl⟩
  obtain ⟨hn5, h5⟩ := (fa_CI.S hC 1 (by decide)).2.n5 en5
  refine lv_iload_n hx hb dX6_count_0 rfl (lv_at hl 1 rfl) ?_
  by_cases c_1_0 : a1 = (0 : Int32)
  · refine lv_tableIn (off := 55) (tgt := 56) hx hb dX6_count_1 (by rw [c_1_0]; decide) (by rw [c_1_0]; decide) (by rw [c_1_0]; decide) (by decide) ?_
    refine lv_aload_n hx hb dX6_count_56 rfl (lv_at hl 0 rfl) ?_
    refine fa_getr (k := 0) (j := 1) CX HX fl_X6_10 (by omega) rfl rfl (fa_CI.A hC).1 dX6_count_57 ?_
    refine fa_geti (k := 1) CX HX fl_X6_128 (fa_lt (by decide) 0 (by decide) hn) (fa_s0 (by decide)) rfl dX6_count_60 ?_
    rw [show v 1 1 = nI (n0) from h1]
    exact RET _ _ _ _ _ _ _ HX dX6_count_63 (⟨rfl, (fun A hok hc => by (rw [fb_cntA_0 c_1_0]; exact congrArg nI (by rw [en0, hc.n])))⟩)
  by_cases c_1_1 : a1 = (1 : Int32)
  · refine lv_tableIn (off := 63) (tgt := 64) hx hb dX6_count_1 (by rw [c_1_1]; decide) (by rw [c_1_1]; decide) (by rw [c_1_1]; decide) (by decide) ?_
    refine lv_aload_n hx hb dX6_count_64 rfl (lv_at hl 0 rfl) ?_
    refine fa_getr (k := 0) (j := 1) CX HX fl_X6_10 (by omega) rfl rfl (fa_CI.A hC).1 dX6_count_65 ?_
    refine fa_geti (k := 1) CX HX fl_X6_131 (fa_lt (by decide) 0 (by decide) hn) (fa_s0 (by decide)) rfl dX6_count_68 ?_
    exact RET _ _ _ _ _ _ _ HX dX6_count_71 (⟨rfl, (fun A hok hc => by (rw [fb_cntA_1 c_1_1]; exact (hc.gk 8 (by decide) (by decide))))⟩)
  by_cases c_1_2 : a1 = (2 : Int32)
  · refine lv_tableIn (off := 71) (tgt := 72) hx hb dX6_count_1 (by rw [c_1_2]; decide) (by rw [c_1_2]; decide) (by rw [c_1_2]; decide) (by decide) ?_
    refine lv_aload_n hx hb dX6_count_72 rfl (lv_at hl 0 rfl) ?_
    refine fa_getr (k := 0) (j := 1) CX HX fl_X6_10 (by omega) rfl rfl (fa_CI.A hC).1 dX6_count_73 ?_
    refine fa_callVip (As := []) (rest := []) CX HX (g_storedPages l G n hn v r 1 (by decide) (fa_CI.S hC 1 (by decide)).1 (fa_CI.S hC 1 (by decide)).2  ) ln_X6_134 (fa_lt (by decide) 0 (by decide) hn) (fa_s0 (by decide)) rfl rfl rfl (Nat.le_of_ble_eq_true rfl) hl.1 ⟨Nat.le_of_ble_eq_true rfl, Nat.le_of_ble_eq_true rfl⟩ ⟨Nat.le_refl _, Nat.le_refl _⟩ dX6_count_76 (fun x1622 H locs h1621 HX1623 => ?_)
    have h_storedPages := h1621
    exact RET _ _ _ _ _ _ _ HX1623 dX6_count_79 (⟨rfl, (fun A hok hc => by (rw [fb_cntA_2 c_1_2]; exact (h_storedPages.trans hc.pgs)))⟩)
  by_cases c_1_3 : a1 = (3 : Int32)
  · refine lv_tableIn (off := 79) (tgt := 80) hx hb dX6_count_1 (by rw [c_1_3]; decide) (by rw [c_1_3]; decide) (by rw [c_1_3]; decide) (by decide) ?_
    refine lv_aload_n hx hb dX6_count_80 rfl (lv_at hl 0 rfl) ?_
    refine fa_getr (k := 0) (j := 1) CX HX fl_X6_10 (by omega) rfl rfl (fa_CI.A hC).1 dX6_count_81 ?_
    refine fa_geti (k := 1) CX HX fl_X6_137 (fa_lt (by decide) 0 (by decide) hn) (fa_s0 (by decide)) rfl dX6_count_84 ?_
    exact RET _ _ _ _ _ _ _ HX dX6_count_87 (⟨rfl, (fun A hok hc => by (rw [fb_cntA_3 c_1_3]; exact (hc.gk 9 (by decide) (by decide))))⟩)
  by_cases c_1_4 : a1 = (4 : Int32)
  · refine lv_tableIn (off := 87) (tgt := 88) hx hb dX6_count_1 (by rw [c_1_4]; decide) (by rw [c_1_4]; decide) (by rw [c_1_4]; decide) (by decide) ?_
    refine lv_aload_n hx hb dX6_count_88 rfl (lv_at hl 0 rfl) ?_
    refine fa_getr (k := 0) (j := 1) CX HX fl_X6_10 (by omega) rfl rfl (fa_CI.A hC).1 dX6_count_89 ?_
    refine fa_geti (k := 1) CX HX fl_X6_140 (fa_lt (by decide) 0 (by decide) hn) (fa_s0 (by decide)) rfl dX6_count_92 ?_
    exact RET _ _ _ _ _ _ _ HX dX6_count_95 (⟨rfl, (fun A hok hc => by (rw [fb_cntA_4 c_1_4]; exact (hc.gk 10 (by decide) (by decide))))⟩)
  by_cases c_1_5 : a1 = (5 : Int32)
  · refine lv_tableIn (off := 95) (tgt := 96) hx hb dX6_count_1 (by rw [c_1_5]; decide) (by rw [c_1_5]; decide) (by rw [c_1_5]; decide) (by decide) ?_
    refine lv_aload_n hx hb dX6_count_96 rfl (lv_at hl 0 rfl) ?_
    refine fa_getr (k := 0) (j := 1) CX HX fl_X6_10 (by omega) rfl rfl (fa_CI.A hC).1 dX6_count_97 ?_
    refine fa_geti (k := 1) CX HX fl_X6_143 (fa_lt (by decide) 0 (by decide) hn) (fa_s0 (by decide)) rfl dX6_count_100 ?_
    exact RET _ _ _ _ _ _ _ HX dX6_count_103 (⟨rfl, (fun A hok hc => by (rw [fb_cntA_5 c_1_5]; exact (hc.gk 11 (by decide) (by decide))))⟩)
  by_cases c_1_6 : a1 = (6 : Int32)
  · refine lv_tableIn (off := 103) (tgt := 104) hx hb dX6_count_1 (by rw [c_1_6]; decide) (by rw [c_1_6]; decide) (by rw [c_1_6]; decide) (by decide) ?_
    refine lv_aload_n hx hb dX6_count_104 rfl (lv_at hl 0 rfl) ?_
    refine fa_getr (k := 0) (j := 1) CX HX fl_X6_10 (by omega) rfl rfl (fa_CI.A hC).1 dX6_count_105 ?_
    refine fa_geti (k := 1) CX HX fl_X6_146 (fa_lt (by decide) 0 (by decide) hn) (fa_s0 (by decide)) rfl dX6_count_108 ?_
    exact RET _ _ _ _ _ _ _ HX dX6_count_111 (⟨rfl, (fun A hok hc => by (rw [fb_cntA_6 c_1_6]; exact (hc.gk 12 (by decide) (by decide))))⟩)
  by_cases c_1_7 : a1 = (7 : Int32)
  · refine lv_tableIn (off := 111) (tgt := 112) hx hb dX6_count_1 (by rw [c_1_7]; decide) (by rw [c_1_7]; decide) (by rw [c_1_7]; decide) (by decide) ?_
    refine lv_aload_n hx hb dX6_count_112 rfl (lv_at hl 0 rfl) ?_
    refine fa_getr (k := 0) (j := 1) CX HX fl_X6_10 (by omega) rfl rfl (fa_CI.A hC).1 dX6_count_113 ?_
    refine fa_geti (k := 1) CX HX fl_X6_149 (fa_lt (by decide) 0 (by decide) hn) (fa_s0 (by decide)) rfl dX6_count_116 ?_
    exact RET _ _ _ _ _ _ _ HX dX6_count_119 (⟨rfl, (fun A hok hc => by (rw [fb_cntA_7 c_1_7]; exact (hc.gk 13 (by decide) (by decide))))⟩)
  by_cases c_1_8 : a1 = (8 : Int32)
  · refine lv_tableIn (off := 119) (tgt := 120) hx hb dX6_count_1 (by rw [c_1_8]; decide) (by rw [c_1_8]; decide) (by rw [c_1_8]; decide) (by decide) ?_
    refine lv_aload_n hx hb dX6_count_120 rfl (lv_at hl 0 rfl) ?_
    refine fa_getr (k := 0) (j := 1) CX HX fl_X6_10 (by omega) rfl rfl (fa_CI.A hC).1 dX6_count_121 ?_
    refine fa_getr (k := 1) (j := 1 + 2) CX HX fl_X6_152 (fa_lt (by decide) 0 (by decide) hn) (fa_s0 (by decide)) rfl (fa_CI.S hC 1 (by decide)).1.2.1 dX6_count_124 ?_
    refine fa_geti (k := 1 + 2) CX HX fl_X6_156 (fa_lt (by decide) 2 (by decide) hn) (fa_s2 (by decide)) rfl dX6_count_127 ?_
    rw [show v (1 + 2) 0 = nI (n2) from h2]
    exact RET _ _ _ _ _ _ _ HX dX6_count_130 (⟨rfl, (fun A hok hc => by (rw [fb_cntA_8 c_1_8]; exact congrArg nI (by rw [en2, hc.2.2.2.2.1.len.2.2])))⟩)
  by_cases c_1_9 : a1 = (9 : Int32)
  · refine lv_tableIn (off := 130) (tgt := 131) hx hb dX6_count_1 (by rw [c_1_9]; decide) (by rw [c_1_9]; decide) (by rw [c_1_9]; decide) (by decide) ?_
    refine lv_aload_n hx hb dX6_count_131 rfl (lv_at hl 0 rfl) ?_
    refine fa_getr (k := 0) (j := 1) CX HX fl_X6_10 (by omega) rfl rfl (fa_CI.A hC).1 dX6_count_132 ?_
    refine fa_getr (k := 1) (j := 1 + 5) CX HX fl_X6_159 (fa_lt (by decide) 0 (by decide) hn) (fa_s0 (by decide)) rfl (fa_CI.S hC 1 (by decide)).1.2.2.1 dX6_count_135 ?_
    refine fa_geti (k := 1 + 5) CX HX fl_X6_163 (fa_lt (by decide) 5 (by decide) hn) (fa_s5 (by decide)) rfl dX6_count_138 ?_
    rw [show v (1 + 5) 0 = nI (n5) from h5]
    exact RET _ _ _ _ _ _ _ HX dX6_count_141 (⟨rfl, (fun A hok hc => by (rw [fb_cntA_9 c_1_9]; exact congrArg nI (by rw [en5, hc.2.2.2.2.2.2.1, fa_N_nI (by have := hc.2.2.2.2.2.1; omega)])))⟩)
  have hout_1 : (a1).toInt < 0 ∨ 9 < (a1).toInt := by
    have z0 := lv_neT (a := 0) c_1_0 (by decide)
    have z1 := lv_neT (a := 1) c_1_1 (by decide)
    have z2 := lv_neT (a := 2) c_1_2 (by decide)
    have z3 := lv_neT (a := 3) c_1_3 (by decide)
    have z4 := lv_neT (a := 4) c_1_4 (by decide)
    have z5 := lv_neT (a := 5) c_1_5 (by decide)
    have z6 := lv_neT (a := 6) c_1_6 (by decide)
    have z7 := lv_neT (a := 7) c_1_7 (by decide)
    have z8 := lv_neT (a := 8) c_1_8 (by decide)
    have z9 := lv_neT (a := 9) c_1_9 (by decide)
    omega
  refine lv_tableOut (tgt := 142) hx hb dX6_count_1 hout_1 (by decide) ?_
  refine lv_bipush (v := (-2 : Int32)) hx hb dX6_count_142 (by decide) ?_
  exact RET _ _ _ _ _ _ _ HX dX6_count_144 (⟨rfl, (fun A hok hc => (fb_cntA_o c_1_0 c_1_1 c_1_2 c_1_3 c_1_4 c_1_5 c_1_6 c_1_7 c_1_8 c_1_9).symm)⟩)
set_option maxHeartbeats 4000000 in
set_option maxRecDepth 100000 in
theorem g_fileAt (l : Launch) (G : fa_G) (n : Nat) (hn : 397 ≤ n) (v : fa_V) (r : fa_R) (hC : fa_CI v r) (a1 : Int32) : fa_MI l G n yX6_fileAt cX6_fileAt 2 (some .int) 1 [.ref (fa_B G + (0)), .int (a1)] v r (fun x w => w = (v, r) ∧ (∀ A, fb_okA A → fb_cA v r 1 A → x = fb_fatA A a1)) := by
  refine fa_startI (by decide +kernel) (Nat.le_of_ble_eq_true rfl) (fun p e s m args below meth c ls Q CX hl HX RET => ?_)
  have hl : lv_has ls 2 [(0, .ref (fa_B G + (0))), (1, .int (a1))] := hl
  have hx := CX.1.1
  have hb := CX.1.2.1
  have hB : (1 : Nat) ∈ fa_bs := by decide
  obtain ⟨n0, en0⟩ : ∃ n0, n0 = fa_N (v 1 1) := ⟨_, rfl⟩
  obtain ⟨hn0, h1⟩ := (fa_CI.S hC 1 (by decide)).2.n1 en0
  obtain ⟨n2, en2⟩ : ∃ n2, n2 = fa_N (v (1 + 2) 0) := ⟨_, rfl⟩
  obtain ⟨hn2, h2⟩ := (fa_CI.S hC 1 (by decide)).2.n2 en2
  obtain ⟨n5, en5⟩ : ∃ n5, n5 = fa_N (v (1 + 5) 0) := ⟨_, rfl⟩
  obtain ⟨hn5, h5⟩ := (fa_CI.S hC 1 (by decide)).2.n5 en5
  refine lv_iload_n hx hb dX6_fileAt_0 rfl (lv_at hl 1 rfl) ?_
  refine lv_if_ge (tgt := 7) hx hb dX6_fileAt_1 (by decide) (fun c_1 => ?_) (fun c_1 => ?_)
  · refine lv_iload_n hx hb dX6_fileAt_7 rfl (lv_at hl 1 rfl) ?_
    refine lv_aload_n hx hb dX6_fileAt_8 rfl (lv_at hl 0 rfl) ?_
    refine fa_getr (k := 0) (j := 1) CX HX fl_X6_10 (by omega) rfl rfl (fa_CI.A hC).1 dX6_fileAt_9 ?_
    refine fa_geti (k := 1) CX HX fl_X6_128 (fa_lt (by decide) 0 (by decide) hn) (fa_s0 (by decide)) rfl dX6_fileAt_12 ?_
    rw [show v 1 1 = nI (n0) from h1]
    refine lv_icmp_ge (tgt := 33) hx hb dX6_fileAt_15 (by decide) (fun c_15 => ?_) (fun c_15 => ?_)
    · refine lv_bipush (v := (-6 : Int32)) hx hb dX6_fileAt_33 (by decide) ?_
      exact RET _ _ _ _ _ _ _ HX dX6_fileAt_35 (⟨rfl, (fun A hok hc => by (have e : A.n = n0 := (by rw [← hc.n, ← en0]); rw [fb_fatA, if_neg (Int32.not_lt.mpr c_1), if_pos (by rw [e]; exact Int32.not_lt.mpr c_15)]))⟩)
    · obtain ⟨ja, hja, eja⟩ := fa_ixN (by omega) (Int32.not_lt.mpr c_1) (Int32.not_le.mp c_15)
      refine lv_aload_n hx hb dX6_fileAt_18 rfl (lv_at hl 0 rfl) ?_
      refine fa_getr (k := 0) (j := 1) CX HX fl_X6_10 (by omega) rfl rfl (fa_CI.A hC).1 dX6_fileAt_19 ?_
      refine fa_getr (k := 1) (j := 1 + 1) CX HX fl_X6_166 (fa_lt (by decide) 0 (by decide) hn) (fa_s0 (by decide)) rfl (fa_CI.S hC 1 (by decide)).1.1 dX6_fileAt_22 ?_
      refine lv_iload_n hx hb dX6_fileAt_25 rfl (lv_at hl 1 rfl) ?_
      rw [show a1 = nI (ja) from eja]
      refine fa_aald (k := 1 + 1) (j := ja) (q := fa_pf r 1 ja) CX HX (fa_lt (by decide) 1 (by decide) hn) (fa_s1 (by decide)) rfl (by decide) (by omega) (by first | decide | assumption) (fa_pf_at (fa_CI.S hC 1 (by decide)).1 (by omega)) dX6_fileAt_26 ?_
      refine fa_geti (k := fa_pf r 1 ja) CX HX fl_X6_170 (fa_isF_lt hB (fa_pf_isF (fa_CI.S hC 1 (by decide)).1 (by omega)) hn) (fa_isF_sh hB (fa_pf_isF (fa_CI.S hC 1 (by decide)).1 (by omega))) rfl dX6_fileAt_27 ?_
      refine lv_goto (tgt := 35) hx hb dX6_fileAt_30 (by decide) ?_
      exact RET _ _ _ _ _ _ _ HX dX6_fileAt_35 (⟨rfl, (fun A hok hc => by (have e : A.n = n0 := (by rw [← hc.n, ← en0]); rw [fb_fatA, if_neg (Int32.not_lt.mpr c_1), if_neg (fun z => z (by rw [e]; exact Int32.not_le.mp c_15)), eja, fa_N_nI (by omega)]; exact hc.f (by rw [e]; exact hja) (by decide) (by decide)))⟩)
  · refine lv_bipush (v := (-2 : Int32)) hx hb dX6_fileAt_4 (by decide) ?_
    exact RET _ _ _ _ _ _ _ HX dX6_fileAt_6 (⟨rfl, (fun A hok hc => by (rw [fb_fatA, if_pos (Int32.not_le.mp c_1)]))⟩)
set_option maxHeartbeats 4000000 in
set_option maxRecDepth 100000 in
theorem g_file (l : Launch) (G : fa_G) (n : Nat) (hn : 397 ≤ n) (v : fa_V) (r : fa_R) (hC : fa_CI v r) (a1 : Int32) (a2 : Int32) : fa_MI l G n yX6_file cX6_file 4 (some .int) 3 [.ref (fa_B G + (0)), .int (a1), .int (a2)] v r (fun x w => w = (v, r) ∧ (∀ A, fb_okA A → fb_cA v r 1 A → x = fb_filA A a1 a2)) := by
  refine fa_startI (by decide +kernel) (Nat.le_of_ble_eq_true rfl) (fun p e s m args below meth c ls Q CX hl HX RET => ?_)
  have hl : lv_has ls 4 [(0, .ref (fa_B G + (0))), (1, .int (a1)), (2, .int (a2))] := hl
  have hx := CX.1.1
  have hb := CX.1.2.1
  have hB : (1 : Nat) ∈ fa_bs := by decide
  refine lv_aload_n hx hb dX6_file_0 rfl (lv_at hl 0 rfl) ?_
  refine fa_getr (k := 0) (j := 1) CX HX fl_X6_10 (by omega) rfl rfl (fa_CI.A hC).1 dX6_file_1 ?_
  refine lv_iload_n hx hb dX6_file_4 rfl (lv_at hl 1 rfl) ?_
  refine fa_callVrp (As := [.int (a1)]) (rest := []) CX HX (g_find l G n hn v r 1 (by decide) (fa_CI.S hC 1 (by decide)).1 (fa_CI.S hC 1 (by decide)).2 (a1) ) ln_X6_175 (fa_lt (by decide) 0 (by decide) hn) (fa_s0 (by decide)) rfl rfl rfl (Nat.le_of_ble_eq_true rfl) hl.1 ⟨Nat.le_of_ble_eq_true rfl, Nat.le_of_ble_eq_true rfl⟩ ⟨Nat.le_refl _, Nat.le_refl _⟩ dX6_file_5 (fun H locs h1624 HX1625 => ?_) (fun q1626 H locs h1624 HX1625 => ?_)
  · have hf_none := h1624.2 rfl
    refine lv_astore_nN (lv' := [(3, .null), (0, .ref (fa_B G + (0))), (1, .int (a1)), (2, .int (a2))]) hx hb dX6_file_8 rfl hl (by decide) rfl (fun ls hl => ?_)
    refine lv_aload_nN hx hb dX6_file_9 rfl (lv_at hl 0 rfl) ?_
    refine lv_ifnonnullN hx hb dX6_file_10 ?_
    refine lv_iconst (v := (-1 : Int32)) hx hb dX6_file_13 (by decide) ?_
    exact RET _ _ _ _ _ _ _ HX1625 dX6_file_14 (⟨rfl, (fun A hok hc => (fb_filA_n (hc.find0 hf_none)).symm)⟩)
  · have hf_q1626 := h1624.1 q1626 rfl
    have hq1626 := hf_q1626.1
    have hiq1626 := fa_isF_in hq1626
    refine lv_astore_n (lv' := [(3, .ref (fa_B G + (q1626))), (0, .ref (fa_B G + (0))), (1, .int (a1)), (2, .int (a2))]) hx hb dX6_file_8 rfl hl (by decide) rfl (fun ls hl => ?_)
    refine lv_aload_n hx hb dX6_file_9 rfl (lv_at hl 0 rfl) ?_
    refine lv_ifnonnull (tgt := 15) hx hb dX6_file_10 (by decide) ?_
    refine lv_iload_n hx hb dX6_file_15 rfl (lv_at hl 3 rfl) ?_
    by_cases c_16_0 : a2 = (0 : Int32)
    · refine lv_tableIn (off := 56) (tgt := 72) hx hb dX6_file_16 (by rw [c_16_0]; decide) (by rw [c_16_0]; decide) (by rw [c_16_0]; decide) (by decide) ?_
      refine lv_aload_n hx hb dX6_file_72 rfl (lv_at hl 0 rfl) ?_
      refine fa_geti (k := q1626) CX HX1625 fl_X6_179 (fa_isF_lt hB hq1626 hn) (fa_isF_sh hB hq1626) rfl dX6_file_73 ?_
      exact RET _ _ _ _ _ _ _ HX1625 dX6_file_76 (⟨rfl, (fun A hok hc => by (obtain ⟨p, hp, eq, ix, ep⟩ := hc.find1 hf_q1626; rw [fb_filA_s ix, fb_filP_0 c_16_0]; rw [eq]; exact hc.f hp (by decide) (by decide)))⟩)
    by_cases c_16_1 : a2 = (1 : Int32)
    · refine lv_tableIn (off := 61) (tgt := 77) hx hb dX6_file_16 (by rw [c_16_1]; decide) (by rw [c_16_1]; decide) (by rw [c_16_1]; decide) (by decide) ?_
      refine lv_aload_n hx hb dX6_file_77 rfl (lv_at hl 0 rfl) ?_
      refine fa_geti (k := q1626) CX HX1625 fl_X6_182 (fa_isF_lt hB hq1626 hn) (fa_isF_sh hB hq1626) rfl dX6_file_78 ?_
      exact RET _ _ _ _ _ _ _ HX1625 dX6_file_81 (⟨rfl, (fun A hok hc => by (obtain ⟨p, hp, eq, ix, ep⟩ := hc.find1 hf_q1626; rw [fb_filA_s ix, fb_filP_1 c_16_1]; rw [eq]; exact hc.f hp (by decide) (by decide)))⟩)
    by_cases c_16_2 : a2 = (2 : Int32)
    · refine lv_tableIn (off := 66) (tgt := 82) hx hb dX6_file_16 (by rw [c_16_2]; decide) (by rw [c_16_2]; decide) (by rw [c_16_2]; decide) (by decide) ?_
      refine lv_aload_n hx hb dX6_file_82 rfl (lv_at hl 0 rfl) ?_
      refine fa_geti (k := q1626) CX HX1625 fl_X6_185 (fa_isF_lt hB hq1626 hn) (fa_isF_sh hB hq1626) rfl dX6_file_83 ?_
      exact RET _ _ _ _ _ _ _ HX1625 dX6_file_86 (⟨rfl, (fun A hok hc => by (obtain ⟨p, hp, eq, ix, ep⟩ := hc.find1 hf_q1626; rw [fb_filA_s ix, fb_filP_2 c_16_2]; rw [eq]; exact hc.f hp (by decide) (by decide)))⟩)
    by_cases c_16_3 : a2 = (3 : Int32)
    · refine lv_tableIn (off := 71) (tgt := 87) hx hb dX6_file_16 (by rw [c_16_3]; decide) (by rw [c_16_3]; decide) (by rw [c_16_3]; decide) (by decide) ?_
      refine lv_aload_n hx hb dX6_file_87 rfl (lv_at hl 0 rfl) ?_
      refine fa_geti (k := q1626) CX HX1625 fl_X6_188 (fa_isF_lt hB hq1626 hn) (fa_isF_sh hB hq1626) rfl dX6_file_88 ?_
      exact RET _ _ _ _ _ _ _ HX1625 dX6_file_91 (⟨rfl, (fun A hok hc => by (obtain ⟨p, hp, eq, ix, ep⟩ := hc.find1 hf_q1626; rw [fb_filA_s ix, fb_filP_3 c_16_3]; rw [eq]; exact fb_m6_of (hc.f6 hp (Or.inl rfl)) (hok.f4 hp)))⟩)
    by_cases c_16_4 : a2 = (4 : Int32)
    · refine lv_tableIn (off := 76) (tgt := 92) hx hb dX6_file_16 (by rw [c_16_4]; decide) (by rw [c_16_4]; decide) (by rw [c_16_4]; decide) (by decide) ?_
      refine lv_aload_n hx hb dX6_file_92 rfl (lv_at hl 0 rfl) ?_
      refine fa_geti (k := q1626) CX HX1625 fl_X6_191 (fa_isF_lt hB hq1626 hn) (fa_isF_sh hB hq1626) rfl dX6_file_93 ?_
      exact RET _ _ _ _ _ _ _ HX1625 dX6_file_96 (⟨rfl, (fun A hok hc => by (obtain ⟨p, hp, eq, ix, ep⟩ := hc.find1 hf_q1626; rw [fb_filA_s ix, fb_filP_4 c_16_4]; rw [eq]; exact hc.f hp (by decide) (by decide)))⟩)
    by_cases c_16_5 : a2 = (5 : Int32)
    · refine lv_tableIn (off := 81) (tgt := 97) hx hb dX6_file_16 (by rw [c_16_5]; decide) (by rw [c_16_5]; decide) (by rw [c_16_5]; decide) (by decide) ?_
      refine lv_aload_n hx hb dX6_file_97 rfl (lv_at hl 0 rfl) ?_
      refine fa_geti (k := q1626) CX HX1625 fl_X6_194 (fa_isF_lt hB hq1626 hn) (fa_isF_sh hB hq1626) rfl dX6_file_98 ?_
      exact RET _ _ _ _ _ _ _ HX1625 dX6_file_101 (⟨rfl, (fun A hok hc => by (obtain ⟨p, hp, eq, ix, ep⟩ := hc.find1 hf_q1626; rw [fb_filA_s ix, fb_filP_5 c_16_5]; rw [eq]; exact fb_m6_of (hc.f6 hp (Or.inr rfl)) (hok.f6 hp)))⟩)
    by_cases c_16_6 : a2 = (6 : Int32)
    · refine lv_tableIn (off := 86) (tgt := 102) hx hb dX6_file_16 (by rw [c_16_6]; decide) (by rw [c_16_6]; decide) (by rw [c_16_6]; decide) (by decide) ?_
      refine lv_aload_n hx hb dX6_file_102 rfl (lv_at hl 1 rfl) ?_
      refine fa_getr (k := 0) (j := 1) CX HX1625 fl_X6_10 (by omega) rfl rfl (fa_CI.A hC).1 dX6_file_103 ?_
      refine lv_aload_n hx hb dX6_file_106 rfl (lv_at hl 0 rfl) ?_
      refine fa_callVip (As := [.ref (fa_B G + (q1626))]) (rest := []) CX HX1625 (g_dueDay l G n hn v r 1 (by decide) (fa_CI.S hC 1 (by decide)).1 (fa_CI.S hC 1 (by decide)).2 (q1626) hq1626) ln_X6_197 (fa_lt (by decide) 0 (by decide) hn) (fa_s0 (by decide)) rfl rfl rfl (Nat.le_of_ble_eq_true rfl) hl.1 ⟨Nat.le_of_ble_eq_true rfl, Nat.le_of_ble_eq_true rfl⟩ ⟨Nat.le_refl _, Nat.le_refl _⟩ dX6_file_107 (fun x1628 H locs h1627 HX1629 => ?_)
      have h_dueDay := h1627
      exact RET _ _ _ _ _ _ _ HX1629 dX6_file_110 (⟨rfl, (fun A hok hc => by (obtain ⟨p, hp, eq, ix, ep⟩ := hc.find1 hf_q1626; rw [fb_filA_s ix, fb_filP_6 c_16_6]; rw [eq] at h_dueDay; exact h_dueDay.trans (hc.due hok hp)))⟩)
    by_cases c_16_7 : a2 = (7 : Int32)
    · refine lv_tableIn (off := 95) (tgt := 111) hx hb dX6_file_16 (by rw [c_16_7]; decide) (by rw [c_16_7]; decide) (by rw [c_16_7]; decide) (by decide) ?_
      refine lv_aload_n hx hb dX6_file_111 rfl (lv_at hl 0 rfl) ?_
      refine lv_aload_n hx hb dX6_file_112 rfl (lv_at hl 1 rfl) ?_
      refine fa_getr (k := 0) (j := 1) CX HX1625 fl_X6_10 (by omega) rfl rfl (fa_CI.A hC).1 dX6_file_113 ?_
      refine fa_geti (k := 1) CX HX1625 fl_X6_125 (fa_lt (by decide) 0 (by decide) hn) (fa_s0 (by decide)) rfl dX6_file_116 ?_
      refine fa_callVip (As := [.int (v 1 0)]) (rest := []) CX HX1625 (g_holdersOn l G n hn v r 1 (by decide) (fa_CI.S hC 1 (by decide)).1 (fa_CI.S hC 1 (by decide)).2 q1626 (v 1 0) hq1626 ) ln_X6_201 (fa_isF_lt hB hq1626 hn) (fa_isF_sh hB hq1626) rfl rfl rfl (Nat.le_of_ble_eq_true rfl) hl.1 ⟨Nat.le_of_ble_eq_true rfl, Nat.le_of_ble_eq_true rfl⟩ ⟨Nat.le_refl _, Nat.le_refl _⟩ dX6_file_119 (fun x1631 H locs h1630 HX1632 => ?_)
      have h_holdersOn := h1630
      exact RET _ _ _ _ _ _ _ HX1632 dX6_file_122 (⟨rfl, (fun A hok hc => by (obtain ⟨p, hp, eq, ix, ep⟩ := hc.find1 hf_q1626; rw [fb_filA_s ix, fb_filP_7 c_16_7]; rw [eq] at h_holdersOn; exact h_holdersOn.trans (hc.mask hok hp)))⟩)
    by_cases c_16_8 : a2 = (8 : Int32)
    · refine lv_tableIn (off := 107) (tgt := 123) hx hb dX6_file_16 (by rw [c_16_8]; decide) (by rw [c_16_8]; decide) (by rw [c_16_8]; decide) (by decide) ?_
      refine lv_aload_n hx hb dX6_file_123 rfl (lv_at hl 1 rfl) ?_
      refine fa_getr (k := 0) (j := 1) CX HX1625 fl_X6_10 (by omega) rfl rfl (fa_CI.A hC).1 dX6_file_124 ?_
      refine lv_iload_n hx hb dX6_file_127 rfl (lv_at hl 2 rfl) ?_
      refine fa_callVip (As := [.int (a1)]) (rest := []) CX HX1625 (g_referrersOf l G n hn v r 1 (by decide) (fa_CI.S hC 1 (by decide)).1 (fa_CI.S hC 1 (by decide)).2 (a1) ) ln_X6_204 (fa_lt (by decide) 0 (by decide) hn) (fa_s0 (by decide)) rfl rfl rfl (Nat.le_of_ble_eq_true rfl) hl.1 ⟨Nat.le_of_ble_eq_true rfl, Nat.le_of_ble_eq_true rfl⟩ ⟨Nat.le_refl _, Nat.le_refl _⟩ dX6_file_128 (fun x1634 H locs h1633 HX1635 => ?_)
      have h_referrersOf := h1633
      exact RET _ _ _ _ _ _ _ HX1635 dX6_file_131 (⟨rfl, (fun A hok hc => by (obtain ⟨p, hp, eq, ix, ep⟩ := hc.find1 hf_q1626; rw [fb_filA_s ix, fb_filP_8 c_16_8]; rw [ep]; exact h_referrersOf.trans (hc.refs (by rw [← ep]; exact hok.npos hp))))⟩)
    by_cases c_16_9 : a2 = (9 : Int32)
    · refine lv_tableIn (off := 116) (tgt := 132) hx hb dX6_file_16 (by rw [c_16_9]; decide) (by rw [c_16_9]; decide) (by rw [c_16_9]; decide) (by decide) ?_
      refine lv_aload_n hx hb dX6_file_132 rfl (lv_at hl 1 rfl) ?_
      refine fa_getr (k := 0) (j := 1) CX HX1625 fl_X6_10 (by omega) rfl rfl (fa_CI.A hC).1 dX6_file_133 ?_
      refine fa_getr (k := 1) (j := 1 + 2) CX HX1625 fl_X6_152 (fa_lt (by decide) 0 (by decide) hn) (fa_s0 (by decide)) rfl (fa_CI.S hC 1 (by decide)).1.2.1 dX6_file_136 ?_
      refine lv_iload_n hx hb dX6_file_139 rfl (lv_at hl 2 rfl) ?_
      refine fa_callVip (As := [.int (a1)]) (rest := []) CX HX1625 (g_numberFor l G n hn v r 1 (by decide) (fa_CI.S hC 1 (by decide)).1 (fa_CI.S hC 1 (by decide)).2 (a1) ) ln_X6_207 (fa_lt (by decide) 2 (by decide) hn) (fa_s2 (by decide)) rfl rfl rfl (Nat.le_of_ble_eq_true rfl) hl.1 ⟨Nat.le_of_ble_eq_true rfl, Nat.le_of_ble_eq_true rfl⟩ ⟨Nat.le_refl _, Nat.le_refl _⟩ dX6_file_140 (fun x1637 H locs h1636 HX1638 => ?_)
      have h_numberFor := h1636
      exact RET _ _ _ _ _ _ _ HX1638 dX6_file_143 (⟨rfl, (fun A hok hc => by (obtain ⟨p, hp, eq, ix, ep⟩ := hc.find1 hf_q1626; rw [fb_filA_s ix, fb_filP_9 c_16_9]; rw [ep]; exact h_numberFor.trans (hc.2.2.2.2.1.nres a1)))⟩)
    have hout_16 : (a2).toInt < 0 ∨ 9 < (a2).toInt := by
      have z0 := lv_neT (a := 0) c_16_0 (by decide)
      have z1 := lv_neT (a := 1) c_16_1 (by decide)
      have z2 := lv_neT (a := 2) c_16_2 (by decide)
      have z3 := lv_neT (a := 3) c_16_3 (by decide)
      have z4 := lv_neT (a := 4) c_16_4 (by decide)
      have z5 := lv_neT (a := 5) c_16_5 (by decide)
      have z6 := lv_neT (a := 6) c_16_6 (by decide)
      have z7 := lv_neT (a := 7) c_16_7 (by decide)
      have z8 := lv_neT (a := 8) c_16_8 (by decide)
      have z9 := lv_neT (a := 9) c_16_9 (by decide)
      omega
    refine lv_tableOut (tgt := 144) hx hb dX6_file_16 hout_16 (by decide) ?_
    refine lv_bipush (v := (-2 : Int32)) hx hb dX6_file_144 (by decide) ?_
    exact RET _ _ _ _ _ _ _ HX1625 dX6_file_146 (⟨rfl, (fun A hok hc => by (obtain ⟨p, hp, eq, ix, ep⟩ := hc.find1 hf_q1626; rw [fb_filA_s ix, fb_filP_o c_16_0 c_16_1 c_16_2 c_16_3 c_16_4 c_16_5 c_16_6 c_16_7 c_16_8 c_16_9]))⟩)
set_option maxHeartbeats 4000000 in
set_option maxRecDepth 100000 in
theorem g_sealOf (l : Launch) (G : fa_G) (n : Nat) (hn : 397 ≤ n) (v : fa_V) (r : fa_R) (hC : fa_CI v r) (a1 : Int32) (a2 : Int32) : fa_MI l G n yX6_sealOf cX6_sealOf 5 (some .int) 3 [.ref (fa_B G + (0)), .int (a1), .int (a2)] v r (fun x w => w = (v, r) ∧ (∀ A, fb_okA A → fb_cA v r 1 A → x = fb_sloA A a1 a2)) := by
  refine fa_startI (by decide +kernel) (Nat.le_of_ble_eq_true rfl) (fun p e s m args below meth c ls Q CX hl HX RET => ?_)
  have hl : lv_has ls 5 [(0, .ref (fa_B G + (0))), (1, .int (a1)), (2, .int (a2))] := hl
  have hx := CX.1.1
  have hb := CX.1.2.1
  have hB : (1 : Nat) ∈ fa_bs := by decide
  refine lv_aload_n hx hb dX6_sealOf_0 rfl (lv_at hl 0 rfl) ?_
  refine fa_getr (k := 0) (j := 1) CX HX fl_X6_10 (by omega) rfl rfl (fa_CI.A hC).1 dX6_sealOf_1 ?_
  refine lv_iload_n hx hb dX6_sealOf_4 rfl (lv_at hl 2 rfl) ?_
  refine fa_callVrp (As := [.int (a2)]) (rest := []) CX HX (g_find l G n hn v r 1 (by decide) (fa_CI.S hC 1 (by decide)).1 (fa_CI.S hC 1 (by decide)).2 (a2) ) ln_X6_175 (fa_lt (by decide) 0 (by decide) hn) (fa_s0 (by decide)) rfl rfl rfl (Nat.le_of_ble_eq_true rfl) hl.1 ⟨Nat.le_of_ble_eq_true rfl, Nat.le_of_ble_eq_true rfl⟩ ⟨Nat.le_refl _, Nat.le_refl _⟩ dX6_sealOf_5 (fun H locs h1639 HX1640 => ?_) (fun q1641 H locs h1639 HX1640 => ?_)
  · have hf_none := h1639.2 rfl
    refine lv_astore_nN (lv' := [(3, .null), (0, .ref (fa_B G + (0))), (1, .int (a1)), (2, .int (a2))]) hx hb dX6_sealOf_8 rfl hl (by decide) rfl (fun ls hl => ?_)
    refine lv_iload_n hx hb dX6_sealOf_9 rfl (lv_at hl 2 rfl) ?_
    refine fa_callSip (As := [.int (a1)]) (rest := []) CX HX1640 (c_X6_isNoHolder l G n v r (a1)) ln_X6_210 rfl rfl (Nat.le_of_ble_eq_true rfl) hl.1 ⟨Nat.le_of_ble_eq_true rfl, Nat.le_of_ble_eq_true rfl⟩ ⟨Nat.le_refl _, Nat.le_refl _⟩ dX6_sealOf_10 (fun x1643 H locs h1642 HX1644 => ?_)
    have h_ns := h1642
    refine lv_if_ne (tgt := 20) hx hb dX6_sealOf_13 (by decide) (fun c_13 => ?_) (fun c_13 => ?_)
    · refine lv_iconst (v := (-1 : Int32)) hx hb dX6_sealOf_20 (by decide) ?_
      exact RET _ _ _ _ _ _ _ HX1644 dX6_sealOf_21 (⟨rfl, (fun A hok hc => (fb_sloA_n (hc.find0 hf_none)).symm)⟩)
    · obtain ⟨jh, hjh, ejh⟩ := fa_ix7 (by decide) (fa_ifn h_ns (by first | exact c_13 | exact Decidable.not_not.mp c_13))
      refine lv_aload_nN hx hb dX6_sealOf_16 rfl (lv_at hl 0 rfl) ?_
      refine lv_ifnonnullN hx hb dX6_sealOf_17 ?_
      refine lv_iconst (v := (-1 : Int32)) hx hb dX6_sealOf_20 (by decide) ?_
      exact RET _ _ _ _ _ _ _ HX1644 dX6_sealOf_21 (⟨rfl, (fun A hok hc => (fb_sloA_n (hc.find0 hf_none)).symm)⟩)
  · have hf_q1641 := h1639.1 q1641 rfl
    have hq1641 := hf_q1641.1
    have hiq1641 := fa_isF_in hq1641
    refine lv_astore_n (lv' := [(3, .ref (fa_B G + (q1641))), (0, .ref (fa_B G + (0))), (1, .int (a1)), (2, .int (a2))]) hx hb dX6_sealOf_8 rfl hl (by decide) rfl (fun ls hl => ?_)
    refine lv_iload_n hx hb dX6_sealOf_9 rfl (lv_at hl 2 rfl) ?_
    refine fa_callSip (As := [.int (a1)]) (rest := []) CX HX1640 (c_X6_isNoHolder l G n v r (a1)) ln_X6_210 rfl rfl (Nat.le_of_ble_eq_true rfl) hl.1 ⟨Nat.le_of_ble_eq_true rfl, Nat.le_of_ble_eq_true rfl⟩ ⟨Nat.le_refl _, Nat.le_refl _⟩ dX6_sealOf_10 (fun x1646 H locs h1645 HX1647 => ?_)
    have h_ns := h1645
    refine lv_if_ne (tgt := 20) hx hb dX6_sealOf_13 (by decide) (fun c_13 => ?_) (fun c_13 => ?_)
    · refine lv_iconst (v := (-1 : Int32)) hx hb dX6_sealOf_20 (by decide) ?_
      exact RET _ _ _ _ _ _ _ HX1647 dX6_sealOf_21 (⟨rfl, (fun A hok hc => by (obtain ⟨p, hp, eq, ix, ep⟩ := hc.find1 hf_q1641; rw [fb_sloA_h ix (fa_ift h_ns (by first | exact c_13 | exact Decidable.not_not.mp c_13))]))⟩)
    · obtain ⟨jh, hjh, ejh⟩ := fa_ix7 (by decide) (fa_ifn h_ns (by first | exact c_13 | exact Decidable.not_not.mp c_13))
      refine lv_aload_n hx hb dX6_sealOf_16 rfl (lv_at hl 0 rfl) ?_
      refine lv_ifnonnull (tgt := 22) hx hb dX6_sealOf_17 (by decide) ?_
      refine lv_aload_n hx hb dX6_sealOf_22 rfl (lv_at hl 0 rfl) ?_
      refine fa_getr (k := q1641) (j := q1641 + 1) CX HX1647 fl_X6_213 (fa_isF_lt hB hq1641 hn) (fa_isF_sh hB hq1641) rfl (fa_isF_ref (fa_CI.S hC 1 (by decide)).1 hq1641) dX6_sealOf_23 ?_
      refine lv_iload_n hx hb dX6_sealOf_26 rfl (lv_at hl 2 rfl) ?_
      rw [show a1 = nI (jh) from ejh]
      refine fa_iald (k := q1641 + 1) (j := jh) CX HX1647 (fa_isF_lt1 hB hq1641 hn) (fa_isF_sh1 hB hq1641) (by omega) (by first | decide | assumption) dX6_sealOf_27 ?_
      refine lv_istore (lv' := [(4, .int (v (q1641 + 1) jh)), (3, .ref (fa_B G + (q1641))), (0, .ref (fa_B G + (0))), (1, .int (a1)), (2, .int (a2))]) hx hb dX6_sealOf_28 hl (by decide) rfl (fun ls hl => ?_)
      refine lv_iload hx hb dX6_sealOf_30 (lv_at hl 0 rfl) ?_
      refine lv_iconst (v := (-1 : Int32)) hx hb dX6_sealOf_32 (by decide) ?_
      refine lv_icmp_ne (tgt := 41) hx hb dX6_sealOf_33 (by decide) (fun c_33 => ?_) (fun c_33 => ?_)
      · refine lv_iload hx hb dX6_sealOf_41 (lv_at hl 0 rfl) ?_
        exact RET _ _ _ _ _ _ _ HX1647 dX6_sealOf_43 (⟨rfl, (fun A hok hc => by (obtain ⟨p, hp, eq, ix, ep⟩ := hc.find1 hf_q1641; rw [fb_sloA_s ix (fa_ifn h_ns (by first | exact c_13 | exact Decidable.not_not.mp c_13)) ejh hjh, if_neg (fun y => c_33 (by rw [← hc.s hp hjh, ← eq] at y; exact fb_m1 y)), ← hc.s hp hjh, ← eq, Int32.add_sub_cancel]))⟩)
      · refine lv_bipush (v := (-6 : Int32)) hx hb dX6_sealOf_36 (by decide) ?_
        refine lv_goto (tgt := 43) hx hb dX6_sealOf_38 (by decide) ?_
        exact RET _ _ _ _ _ _ _ HX1647 dX6_sealOf_43 (⟨rfl, (fun A hok hc => by (obtain ⟨p, hp, eq, ix, ep⟩ := hc.find1 hf_q1641; rw [fb_sloA_s ix (fa_ifn h_ns (by first | exact c_13 | exact Decidable.not_not.mp c_13)) ejh hjh, if_pos (by rw [← hc.s hp hjh, ← eq, show v (_ + 1) jh = (-1 : Int32) from (by first | exact c_33 | exact Decidable.not_not.mp c_33)]; decide)]))⟩)
set_option maxHeartbeats 4000000 in
set_option maxRecDepth 100000 in
theorem g_trace (l : Launch) (G : fa_G) (n : Nat) (hn : 397 ≤ n) (v : fa_V) (r : fa_R) (hC : fa_CI v r) (a1 : Int32) (a2 : Int32) : fa_MI l G n yX6_trace cX6_trace 3 (some .int) 3 [.ref (fa_B G + (0)), .int (a1), .int (a2)] v r (fun x w => w = (v, r) ∧ (∀ A, fb_okA A → fb_cA v r 1 A → x = fb_trcA A a1 a2)) := by
  refine fa_startI (by decide +kernel) (Nat.le_of_ble_eq_true rfl) (fun p e s m args below meth c ls Q CX hl HX RET => ?_)
  have hl : lv_has ls 3 [(0, .ref (fa_B G + (0))), (1, .int (a1)), (2, .int (a2))] := hl
  have hx := CX.1.1
  have hb := CX.1.2.1
  have hB : (1 : Nat) ∈ fa_bs := by decide
  obtain ⟨n0, en0⟩ : ∃ n0, n0 = fa_N (v 1 1) := ⟨_, rfl⟩
  obtain ⟨hn0, h1⟩ := (fa_CI.S hC 1 (by decide)).2.n1 en0
  obtain ⟨n2, en2⟩ : ∃ n2, n2 = fa_N (v (1 + 2) 0) := ⟨_, rfl⟩
  obtain ⟨hn2, h2⟩ := (fa_CI.S hC 1 (by decide)).2.n2 en2
  obtain ⟨n5, en5⟩ : ∃ n5, n5 = fa_N (v (1 + 5) 0) := ⟨_, rfl⟩
  obtain ⟨hn5, h5⟩ := (fa_CI.S hC 1 (by decide)).2.n5 en5
  refine lv_iload_n hx hb dX6_trace_0 rfl (lv_at hl 1 rfl) ?_
  refine lv_if_lt (tgt := 13) hx hb dX6_trace_1 (by decide) (fun c_1 => ?_) (fun c_1 => ?_)
  · refine lv_bipush (v := (-2 : Int32)) hx hb dX6_trace_13 (by decide) ?_
    exact RET _ _ _ _ _ _ _ HX dX6_trace_15 (⟨rfl, (fun A hok hc => (fb_trc0 (Or.inl c_1)).symm)⟩)
  · refine lv_iload_n hx hb dX6_trace_4 rfl (lv_at hl 2 rfl) ?_
    refine lv_if_lt (tgt := 13) hx hb dX6_trace_5 (by decide) (fun c_5 => ?_) (fun c_5 => ?_)
    · refine lv_bipush (v := (-2 : Int32)) hx hb dX6_trace_13 (by decide) ?_
      exact RET _ _ _ _ _ _ _ HX dX6_trace_15 (⟨rfl, (fun A hok hc => (fb_trc0 (Or.inr (Or.inl c_5))).symm)⟩)
    · refine lv_iload_n hx hb dX6_trace_8 rfl (lv_at hl 2 rfl) ?_
      refine lv_iconst (v := nI (5)) hx hb dX6_trace_9 (by decide) ?_
      refine lv_icmp_lt (tgt := 16) hx hb dX6_trace_10 (by decide) (fun c_10 => ?_) (fun c_10 => ?_)
      · refine lv_iload_n hx hb dX6_trace_16 rfl (lv_at hl 1 rfl) ?_
        refine lv_aload_n hx hb dX6_trace_17 rfl (lv_at hl 0 rfl) ?_
        refine fa_getr (k := 0) (j := 1) CX HX fl_X6_10 (by omega) rfl rfl (fa_CI.A hC).1 dX6_trace_18 ?_
        refine fa_getr (k := 1) (j := 1 + 5) CX HX fl_X6_159 (fa_lt (by decide) 0 (by decide) hn) (fa_s0 (by decide)) rfl (fa_CI.S hC 1 (by decide)).1.2.2.1 dX6_trace_21 ?_
        refine fa_geti (k := 1 + 5) CX HX fl_X6_163 (fa_lt (by decide) 5 (by decide) hn) (fa_s5 (by decide)) rfl dX6_trace_24 ?_
        rw [show v (1 + 5) 0 = nI (n5) from h5]
        refine lv_icmp_ge (tgt := 45) hx hb dX6_trace_27 (by decide) (fun c_27 => ?_) (fun c_27 => ?_)
        · refine lv_bipush (v := (-6 : Int32)) hx hb dX6_trace_45 (by decide) ?_
          exact RET _ _ _ _ _ _ _ HX dX6_trace_47 (⟨rfl, (fun A hok hc => (fb_trc1 (fun z => z.elim c_1 (fun z => z.elim c_5 (fun z => z c_10))) (by rw [(show A.m = n5 from by rw [en5, hc.2.2.2.2.2.2.1, fa_N_nI (by have := hc.2.2.2.2.2.1; omega)])]; exact Int32.not_lt.mpr c_27)).symm)⟩)
        · refine lv_aload_n hx hb dX6_trace_30 rfl (lv_at hl 0 rfl) ?_
          refine fa_getr (k := 0) (j := 1) CX HX fl_X6_10 (by omega) rfl rfl (fa_CI.A hC).1 dX6_trace_31 ?_
          refine fa_getr (k := 1) (j := 1 + 5) CX HX fl_X6_159 (fa_lt (by decide) 0 (by decide) hn) (fa_s0 (by decide)) rfl (fa_CI.S hC 1 (by decide)).1.2.2.1 dX6_trace_34 ?_
          refine lv_iload_n hx hb dX6_trace_37 rfl (lv_at hl 1 rfl) ?_
          refine lv_iload_n hx hb dX6_trace_38 rfl (lv_at hl 2 rfl) ?_
          refine fa_callVip (As := [.int (a1), .int (a2)]) (rest := []) CX HX (g_cellOf l G n hn v r 1 (by decide) (fa_CI.S hC 1 (by decide)).1 (fa_CI.S hC 1 (by decide)).2 (a1) (a2) ) ln_X6_217 (fa_lt (by decide) 5 (by decide) hn) (fa_s5 (by decide)) rfl rfl rfl (Nat.le_of_ble_eq_true rfl) hl.1 ⟨Nat.le_of_ble_eq_true rfl, Nat.le_of_ble_eq_true rfl⟩ ⟨Nat.le_refl _, Nat.le_refl _⟩ dX6_trace_39 (fun x1649 H locs h1648 HX1650 => ?_)
          have h_cellOf := h1648
          refine lv_goto (tgt := 47) hx hb dX6_trace_42 (by decide) ?_
          exact RET _ _ _ _ _ _ _ HX1650 dX6_trace_47 (⟨rfl, (fun A hok hc => by (obtain ⟨ja, hja, eja⟩ := fa_ixN (N := n5) (by omega) c_1 (Int32.not_le.mp c_27); obtain ⟨jb, hjb, ejb⟩ := fa_ixN (N := 5) (by decide) c_5 c_10; have em : A.m = n5 := (show A.m = n5 from by rw [en5, hc.2.2.2.2.2.2.1, fa_N_nI (by have := hc.2.2.2.2.2.1; omega)]); rw [fb_trc2 (fun z => z.elim c_1 (fun z => z.elim c_5 (fun z => z c_10))) eja ejb (by rw [em]; exact hja) hc.2.2.2.2.2.1 hjb, ← hc.2.2.2.2.2.2.2 _ _ (by omega) hjb, em]; have z := h_cellOf ja jb eja ejb (by rw [← en5]; exact hja) hjb; rw [← en5] at z; exact z))⟩)
      · refine lv_bipush (v := (-2 : Int32)) hx hb dX6_trace_13 (by decide) ?_
        exact RET _ _ _ _ _ _ _ HX dX6_trace_15 (⟨rfl, (fun A hok hc => (fb_trc0 (Or.inr (Or.inr (c_10)))).symm)⟩)
set_option maxHeartbeats 4000000 in
set_option maxRecDepth 100000 in
theorem g_reservation (l : Launch) (G : fa_G) (n : Nat) (hn : 397 ≤ n) (v : fa_V) (r : fa_R) (hC : fa_CI v r) (a1 : Int32) (a2 : Int32) : fa_MI l G n yX6_reservation cX6_reservation 3 (some .int) 3 [.ref (fa_B G + (0)), .int (a1), .int (a2)] v r (fun x w => w = (v, r) ∧ (∀ A, fb_okA A → fb_cA v r 1 A → fb_rsvP A a1 a2 x)) := by
  refine fa_startI (by decide +kernel) (Nat.le_of_ble_eq_true rfl) (fun p e s m args below meth c ls Q CX hl HX RET => ?_)
  have hl : lv_has ls 3 [(0, .ref (fa_B G + (0))), (1, .int (a1)), (2, .int (a2))] := hl
  have hx := CX.1.1
  have hb := CX.1.2.1
  have hB : (1 : Nat) ∈ fa_bs := by decide
  obtain ⟨n0, en0⟩ : ∃ n0, n0 = fa_N (v 1 1) := ⟨_, rfl⟩
  obtain ⟨hn0, h1⟩ := (fa_CI.S hC 1 (by decide)).2.n1 en0
  obtain ⟨n2, en2⟩ : ∃ n2, n2 = fa_N (v (1 + 2) 0) := ⟨_, rfl⟩
  obtain ⟨hn2, h2⟩ := (fa_CI.S hC 1 (by decide)).2.n2 en2
  obtain ⟨n5, en5⟩ : ∃ n5, n5 = fa_N (v (1 + 5) 0) := ⟨_, rfl⟩
  obtain ⟨hn5, h5⟩ := (fa_CI.S hC 1 (by decide)).2.n5 en5
  refine lv_iload_n hx hb dX6_reservation_0 rfl (lv_at hl 1 rfl) ?_
  refine lv_if_lt (tgt := 13) hx hb dX6_reservation_1 (by decide) (fun c_1 => ?_) (fun c_1 => ?_)
  · refine lv_bipush (v := (-2 : Int32)) hx hb dX6_reservation_13 (by decide) ?_
    exact RET _ _ _ _ _ _ _ HX dX6_reservation_15 (⟨rfl, (fun A hok hc => fb_c_rsv0 (Or.inl c_1))⟩)
  · refine lv_iload_n hx hb dX6_reservation_4 rfl (lv_at hl 2 rfl) ?_
    refine lv_if_lt (tgt := 13) hx hb dX6_reservation_5 (by decide) (fun c_5 => ?_) (fun c_5 => ?_)
    · refine lv_bipush (v := (-2 : Int32)) hx hb dX6_reservation_13 (by decide) ?_
      exact RET _ _ _ _ _ _ _ HX dX6_reservation_15 (⟨rfl, (fun A hok hc => fb_c_rsv0 (Or.inr (Or.inl c_5)))⟩)
    · refine lv_iload_n hx hb dX6_reservation_8 rfl (lv_at hl 2 rfl) ?_
      refine lv_iconst (v := nI (1)) hx hb dX6_reservation_9 (by decide) ?_
      refine lv_icmp_le (tgt := 16) hx hb dX6_reservation_10 (by decide) (fun c_10 => ?_) (fun c_10 => ?_)
      · refine lv_iload_n hx hb dX6_reservation_16 rfl (lv_at hl 1 rfl) ?_
        refine lv_aload_n hx hb dX6_reservation_17 rfl (lv_at hl 0 rfl) ?_
        refine fa_getr (k := 0) (j := 1) CX HX fl_X6_10 (by omega) rfl rfl (fa_CI.A hC).1 dX6_reservation_18 ?_
        refine fa_getr (k := 1) (j := 1 + 2) CX HX fl_X6_152 (fa_lt (by decide) 0 (by decide) hn) (fa_s0 (by decide)) rfl (fa_CI.S hC 1 (by decide)).1.2.1 dX6_reservation_21 ?_
        refine fa_geti (k := 1 + 2) CX HX fl_X6_156 (fa_lt (by decide) 2 (by decide) hn) (fa_s2 (by decide)) rfl dX6_reservation_24 ?_
        rw [show v (1 + 2) 0 = nI (n2) from h2]
        refine lv_icmp_lt (tgt := 33) hx hb dX6_reservation_27 (by decide) (fun c_27 => ?_) (fun c_27 => ?_)
        · obtain ⟨ja, hja, eja⟩ := fa_ixN (by omega) c_1 c_27
          refine lv_iload_n hx hb dX6_reservation_33 rfl (lv_at hl 2 rfl) ?_
          refine lv_if_ne (tgt := 52) hx hb dX6_reservation_34 (by decide) (fun c_34 => ?_) (fun c_34 => ?_)
          · refine lv_aload_n hx hb dX6_reservation_52 rfl (lv_at hl 0 rfl) ?_
            refine fa_getr (k := 0) (j := 1) CX HX fl_X6_10 (by omega) rfl rfl (fa_CI.A hC).1 dX6_reservation_53 ?_
            refine fa_getr (k := 1) (j := 1 + 2) CX HX fl_X6_152 (fa_lt (by decide) 0 (by decide) hn) (fa_s0 (by decide)) rfl (fa_CI.S hC 1 (by decide)).1.2.1 dX6_reservation_56 ?_
            refine fa_getr (k := 1 + 2) (j := 1 + 4) CX HX fl_X6_222 (fa_lt (by decide) 2 (by decide) hn) (fa_s2 (by decide)) rfl (fa_CI.S hC 1 (by decide)).1.2.2.2.2.2.1 dX6_reservation_59 ?_
            refine lv_iload_n hx hb dX6_reservation_62 rfl (lv_at hl 1 rfl) ?_
            rw [show a1 = nI (ja) from eja]
            refine fa_iald (k := 1 + 4) (j := ja) CX HX (fa_lt (by decide) 4 (by decide) hn) (fa_s4 (by decide)) (by omega) (by first | decide | assumption) dX6_reservation_63 ?_
            exact RET _ _ _ _ _ _ _ HX dX6_reservation_64 (⟨rfl, (fun A hok hc => fb_c_rsv2 hc.2.2.2.2.1 (fun z => z.elim c_1 (fun z => z.elim c_5 (fun z => z c_10))) eja (by rw [← en2]; exact hja) (if_neg c_34).symm)⟩)
          · refine lv_aload_n hx hb dX6_reservation_37 rfl (lv_at hl 0 rfl) ?_
            refine fa_getr (k := 0) (j := 1) CX HX fl_X6_10 (by omega) rfl rfl (fa_CI.A hC).1 dX6_reservation_38 ?_
            refine fa_getr (k := 1) (j := 1 + 2) CX HX fl_X6_152 (fa_lt (by decide) 0 (by decide) hn) (fa_s0 (by decide)) rfl (fa_CI.S hC 1 (by decide)).1.2.1 dX6_reservation_41 ?_
            refine fa_getr (k := 1 + 2) (j := 1 + 3) CX HX fl_X6_220 (fa_lt (by decide) 2 (by decide) hn) (fa_s2 (by decide)) rfl (fa_CI.S hC 1 (by decide)).1.2.2.2.2.1 dX6_reservation_44 ?_
            refine lv_iload_n hx hb dX6_reservation_47 rfl (lv_at hl 1 rfl) ?_
            rw [show a1 = nI (ja) from eja]
            refine fa_iald (k := 1 + 3) (j := ja) CX HX (fa_lt (by decide) 3 (by decide) hn) (fa_s3 (by decide)) (by omega) (by first | decide | assumption) dX6_reservation_48 ?_
            refine lv_goto (tgt := 64) hx hb dX6_reservation_49 (by decide) ?_
            exact RET _ _ _ _ _ _ _ HX dX6_reservation_64 (⟨rfl, (fun A hok hc => fb_c_rsv2 hc.2.2.2.2.1 (fun z => z.elim c_1 (fun z => z.elim c_5 (fun z => z c_10))) eja (by rw [← en2]; exact hja) (if_pos (by first | exact c_34 | exact Decidable.not_not.mp c_34)).symm)⟩)
        · refine lv_bipush (v := (-6 : Int32)) hx hb dX6_reservation_30 (by decide) ?_
          exact RET _ _ _ _ _ _ _ HX dX6_reservation_32 (⟨rfl, (fun A hok hc => fb_c_rsv1 hc.2.2.2.2.1 (fun z => z.elim c_1 (fun z => z.elim c_5 (fun z => z c_10))) (by rw [show v (1 + 2) 0 = nI n2 from h2]; exact c_27))⟩)
      · refine lv_bipush (v := (-2 : Int32)) hx hb dX6_reservation_13 (by decide) ?_
        exact RET _ _ _ _ _ _ _ HX dX6_reservation_15 (⟨rfl, (fun A hok hc => fb_c_rsv0 (Or.inr (Or.inr (c_10))))⟩)
set_option maxHeartbeats 4000000 in
set_option maxRecDepth 100000 in
theorem g_setting (l : Launch) (G : fa_G) (n : Nat) (hn : 397 ≤ n) (v : fa_V) (r : fa_R) (hC : fa_CI v r) (a1 : Int32) : fa_MI l G n yX6_setting cX6_setting 2 (some .int) 3 [.ref (fa_B G + (0)), .int (a1)] v r (fun x w => w = (v, r) ∧ (∀ A, fb_okA A → fb_cA v r 1 A → x = fb_stgA A a1)) := by
  refine fa_startI (by decide +kernel) (Nat.le_of_ble_eq_true rfl) (fun p e s m args below meth c ls Q CX hl HX RET => ?_)
  have hl : lv_has ls 2 [(0, .ref (fa_B G + (0))), (1, .int (a1))] := hl
  have hx := CX.1.1
  have hb := CX.1.2.1
  have hB : (1 : Nat) ∈ fa_bs := by decide
  refine lv_iload_n hx hb dX6_setting_0 rfl (lv_at hl 1 rfl) ?_
  refine fa_callSip (As := [.int (a1)]) (rest := []) CX HX (c_X6_isNoSetting l G n v r (a1)) ln_X6_225 rfl rfl (Nat.le_of_ble_eq_true rfl) hl.1 ⟨Nat.le_of_ble_eq_true rfl, Nat.le_of_ble_eq_true rfl⟩ ⟨Nat.le_refl _, Nat.le_refl _⟩ dX6_setting_1 (fun x1652 H locs h1651 HX1653 => ?_)
  have h_ns := h1651
  refine lv_if_eq (tgt := 11) hx hb dX6_setting_4 (by decide) (fun c_4 => ?_) (fun c_4 => ?_)
  · obtain ⟨jh, hjh, ejh⟩ := fa_ix7 (by decide) (fa_ifn h_ns c_4)
    refine lv_aload_n hx hb dX6_setting_11 rfl (lv_at hl 0 rfl) ?_
    refine fa_getr (k := 0) (j := 1) CX HX1653 fl_X6_10 (by omega) rfl rfl (fa_CI.A hC).1 dX6_setting_12 ?_
    refine fa_getr (k := 1) (j := 1 + 7) CX HX1653 fl_X6_228 (fa_lt (by decide) 0 (by decide) hn) (fa_s0 (by decide)) rfl (fa_CI.S hC 1 (by decide)).1.2.2.2.1 dX6_setting_15 ?_
    refine lv_iload_n hx hb dX6_setting_18 rfl (lv_at hl 1 rfl) ?_
    rw [show a1 = nI (jh) from ejh]
    refine fa_iald (k := 1 + 7) (j := jh) CX HX1653 (fa_lt (by decide) 7 (by decide) hn) (fa_s7 (by decide)) (by omega) (by first | decide | assumption) dX6_setting_19 ?_
    exact RET _ _ _ _ _ _ _ HX1653 dX6_setting_20 (⟨rfl, (fun A hok hc => by (rw [fb_stgA, if_neg (fa_ifn h_ns c_4), ejh, fa_N_nI (by omega)]; exact hc.set hjh))⟩)
  · refine lv_iconst (v := (-1 : Int32)) hx hb dX6_setting_7 (by decide) ?_
    refine lv_goto (tgt := 20) hx hb dX6_setting_8 (by decide) ?_
    exact RET _ _ _ _ _ _ _ HX1653 dX6_setting_20 (⟨rfl, (fun A hok hc => by (rw [fb_stgA, if_pos (fa_ift h_ns c_4)]))⟩)
set_option maxHeartbeats 4000000 in
set_option maxRecDepth 100000 in
theorem g_meanAge (l : Launch) (G : fa_G) (n : Nat) (hn : 397 ≤ n) (v : fa_V) (r : fa_R) (hC : fa_CI v r) : fa_MF l G n yX6_meanAge cX6_meanAge 1 3 [.ref (fa_B G + (0))] v r (fun x w => w = (v, r) ∧ ((vf_n64 (FP.f2d x)) ∧ ∀ A, fb_okA A → fb_cA v r 1 A → x = fb_meanA A)) := by
  refine fa_startF (by decide +kernel) (Nat.le_of_ble_eq_true rfl) (fun p e s m args below meth c ls Q CX hl HX RET => ?_)
  have hl : lv_has ls 1 [(0, .ref (fa_B G + (0)))] := hl
  have hx := CX.1.1
  have hb := CX.1.2.1
  have hB : (1 : Nat) ∈ fa_bs := by decide
  obtain ⟨n0, en0⟩ : ∃ n0, n0 = fa_N (v 1 1) := ⟨_, rfl⟩
  obtain ⟨hn0, h1⟩ := (fa_CI.S hC 1 (by decide)).2.n1 en0
  obtain ⟨n2, en2⟩ : ∃ n2, n2 = fa_N (v (1 + 2) 0) := ⟨_, rfl⟩
  obtain ⟨hn2, h2⟩ := (fa_CI.S hC 1 (by decide)).2.n2 en2
  obtain ⟨n5, en5⟩ : ∃ n5, n5 = fa_N (v (1 + 5) 0) := ⟨_, rfl⟩
  obtain ⟨hn5, h5⟩ := (fa_CI.S hC 1 (by decide)).2.n5 en5
  refine lv_aload_n hx hb dX6_meanAge_0 rfl (lv_at hl 0 rfl) ?_
  refine fa_getr (k := 0) (j := 1) CX HX fl_X6_10 (by omega) rfl rfl (fa_CI.A hC).1 dX6_meanAge_1 ?_
  refine fa_geti (k := 1) CX HX fl_X6_128 (fa_lt (by decide) 0 (by decide) hn) (fa_s0 (by decide)) rfl dX6_meanAge_4 ?_
  rw [show v 1 1 = nI (n0) from h1]
  refine lv_if_ne (tgt := 12) hx hb dX6_meanAge_7 (by decide) (fun c_7 => ?_) (fun c_7 => ?_)
  · have hp1 : 1 ≤ n0 := by
      refine Nat.pos_of_ne_zero (fun z => c_7 ?_)
      rw [z]; decide
    refine lv_aload_n hx hb dX6_meanAge_12 rfl (lv_at hl 0 rfl) ?_
    refine fa_getr (k := 0) (j := 1) CX HX fl_X6_10 (by omega) rfl rfl (fa_CI.A hC).1 dX6_meanAge_13 ?_
    refine fa_callVip (As := []) (rest := []) CX HX (g_sumOfAges l G n hn v r 1 (by decide) (fa_CI.S hC 1 (by decide)).1 (fa_CI.S hC 1 (by decide)).2  ) ln_X6_231 (fa_lt (by decide) 0 (by decide) hn) (fa_s0 (by decide)) rfl rfl rfl (Nat.le_of_ble_eq_true rfl) hl.1 ⟨Nat.le_of_ble_eq_true rfl, Nat.le_of_ble_eq_true rfl⟩ ⟨Nat.le_refl _, Nat.le_refl _⟩ dX6_meanAge_16 (fun x1655 H locs h1654 HX1656 => ?_)
    have h_sumOfAges := h1654
    refine lv_i2f hx hb dX6_meanAge_19 ?_
    refine lv_aload_n hx hb dX6_meanAge_20 rfl (lv_at hl 0 rfl) ?_
    refine fa_getr (k := 0) (j := 1) CX HX1656 fl_X6_10 (by omega) rfl rfl (fa_CI.A hC).1 dX6_meanAge_21 ?_
    refine fa_geti (k := 1) CX HX1656 fl_X6_128 (fa_lt (by decide) 0 (by decide) hn) (fa_s0 (by decide)) rfl dX6_meanAge_24 ?_
    rw [show v 1 1 = nI (n0) from h1]
    refine lv_i2f hx hb dX6_meanAge_27 ?_
    refine lv_fdiv hx hb dX6_meanAge_28 (fa_fdiv_ok hp1 hn0).1 ?_
    exact RET _ _ _ _ _ _ _ HX1656 dX6_meanAge_29 (⟨rfl, ⟨(fa_fdiv_ok hp1 hn0).2, fun A hok hc => by (rw [fb_meanA, if_neg (show ¬ A.n = 0 from by rw [← hc.n, ← en0]; omega), ← hc.ages, ← hc.n, ← en0, h_sumOfAges, ← en0])⟩⟩)
  · refine lv_fconst0 hx hb dX6_meanAge_10 ?_
    exact RET _ _ _ _ _ _ _ HX dX6_meanAge_11 (⟨rfl, ⟨fa_f0_ok, fun A hok hc => by (rw [fb_meanA, if_pos (show A.n = 0 from by rw [← hc.n, ← en0]; exact Decidable.byContradiction (fun z => nI_ne0 (Nat.pos_of_ne_zero z) (by omega) (by first | exact c_7 | exact Decidable.not_not.mp c_7)))])⟩⟩)
set_option maxHeartbeats 4000000 in
set_option maxRecDepth 100000 in
theorem g_stays (l : Launch) (G : fa_G) (n : Nat) (hn : 397 ≤ n) (v : fa_V) (r : fa_R) (hC : fa_CI v r) (a1 : Int32) : fa_MI l G n yX6_stays cX6_stays 3 (some .int) 5 [.ref (fa_B G + (0)), .int (a1)] v r (fa_voi r (fun x v1 => (((fa_rsn 1 v v1) ∧ ∀ A, fb_okA A → fb_cA v r 1 A → x = fb_styA A a1 ∧ (¬ x = (-1 : Int32) → ∀ p, p < A.n → v1 (fa_pf r 1 p) 8 = fb_why A p)) ∧ fa_CI v1 r) ∧ (fa_fr (9) (57) v v1))) := by
  refine fa_startI (by decide +kernel) (Nat.le_of_ble_eq_true rfl) (fun p e s m args below meth c ls Q CX hl HX RET => ?_)
  have hl : lv_has ls 3 [(0, .ref (fa_B G + (0))), (1, .int (a1))] := hl
  have hx := CX.1.1
  have hb := CX.1.2.1
  have hB : (1 : Nat) ∈ fa_bs := by decide
  refine lv_aload_n hx hb dX6_stays_0 rfl (lv_at hl 0 rfl) ?_
  refine fa_getr (k := 0) (j := 1) CX HX fl_X6_10 (by omega) rfl rfl (fa_CI.A hC).1 dX6_stays_1 ?_
  refine lv_iload_n hx hb dX6_stays_4 rfl (lv_at hl 1 rfl) ?_
  refine fa_callVrp (As := [.int (a1)]) (rest := []) CX HX (g_find l G n hn v r 1 (by decide) (fa_CI.S hC 1 (by decide)).1 (fa_CI.S hC 1 (by decide)).2 (a1) ) ln_X6_175 (fa_lt (by decide) 0 (by decide) hn) (fa_s0 (by decide)) rfl rfl rfl (Nat.le_of_ble_eq_true rfl) hl.1 ⟨Nat.le_of_ble_eq_true rfl, Nat.le_of_ble_eq_true rfl⟩ ⟨Nat.le_refl _, Nat.le_refl _⟩ dX6_stays_5 (fun H locs h1657 HX1658 => ?_) (fun q1659 H locs h1657 HX1658 => ?_)
  · have hf_none := h1657.2 rfl
    refine lv_astore_nN (lv' := [(2, .null), (0, .ref (fa_B G + (0))), (1, .int (a1))]) hx hb dX6_stays_8 rfl hl (by decide) rfl (fun ls hl => ?_)
    refine lv_aload_nN hx hb dX6_stays_9 rfl (lv_at hl 0 rfl) ?_
    refine lv_ifnonnullN hx hb dX6_stays_10 ?_
    refine lv_iconst (v := (-1 : Int32)) hx hb dX6_stays_13 (by decide) ?_
    exact RET _ _ _ _ _ _ _ HX1658 dX6_stays_14 (⟨rfl, ⟨⟨⟨fa_rsn.rf, fun A hok hc => ⟨(fb_styA_n (hc.find0 hf_none)).symm, fun z => absurd rfl z⟩⟩, hC⟩, fa_fr.rf⟩⟩)
  · have hf_q1659 := h1657.1 q1659 rfl
    have hq1659 := hf_q1659.1
    have hiq1659 := fa_isF_in hq1659
    refine lv_astore_n (lv' := [(2, .ref (fa_B G + (q1659))), (0, .ref (fa_B G + (0))), (1, .int (a1))]) hx hb dX6_stays_8 rfl hl (by decide) rfl (fun ls hl => ?_)
    refine lv_aload_n hx hb dX6_stays_9 rfl (lv_at hl 0 rfl) ?_
    refine lv_ifnonnull (tgt := 15) hx hb dX6_stays_10 (by decide) ?_
    refine lv_aload_n hx hb dX6_stays_15 rfl (lv_at hl 1 rfl) ?_
    refine fa_getr (k := 0) (j := 1) CX HX1658 fl_X6_10 (by omega) rfl rfl (fa_CI.A hC).1 dX6_stays_16 ?_
    refine fa_callVvu (As := []) (rest := []) CX HX1658 (g_markReasons l G n hn v r 1 (by decide) (fa_CI.S hC 1 (by decide)).1 (fa_CI.S hC 1 (by decide)).2  ) ln_X6_234 (fa_lt (by decide) 0 (by decide) hn) (fa_s0 (by decide)) rfl rfl rfl (Nat.le_of_ble_eq_true rfl) hl.1 ⟨Nat.le_of_ble_eq_true rfl, Nat.le_of_ble_eq_true rfl⟩ ⟨Nat.le_refl _, Nat.le_refl _⟩ dX6_stays_19 (fun v1661 H locs h1660 HX1662 => ?_)
    have h_markReasons := h1660.1.1
    have h_mr2 := h1660.1.2
    have hC_v1661 : fa_CI v1661 r := fa_CI.st hC (by decide) (fa_rsn.IS h1660.1.1 (fa_CI.S hC 1 (by decide)).2) (fa_CI.S hC 1 (by decide)).1 (fa_fr.wide h1660.2 (by omega) (by omega)) (fun _ _ => rfl)
    refine lv_aload_n hx hb dX6_stays_22 rfl (lv_at hl 0 rfl) ?_
    refine fa_geti (k := q1659) CX HX1662 fl_X6_237 (fa_isF_lt hB hq1659 hn) (fa_isF_sh hB hq1659) rfl dX6_stays_23 ?_
    exact RET _ _ _ _ _ _ _ HX1662 dX6_stays_26 (⟨rfl, ⟨⟨⟨h_markReasons, fun A hok hc => by (obtain ⟨p, hp, eq, ix, -⟩ := hc.find1 hf_q1659; have z := h_mr2 A hok hc; exact ⟨by rw [eq, z p hp, fb_styA_s ix], fun _ => z⟩)⟩, hC_v1661⟩, (fa_fr.tr fa_fr.rf (fa_fr.wide h1660.2 (by omega) (by omega)))⟩⟩)
set_option maxHeartbeats 4000000 in
set_option maxRecDepth 100000 in
theorem g_keeper (l : Launch) (G : fa_G) (n : Nat) (hn : 397 ≤ n) (v : fa_V) (r : fa_R) (hC : fa_CI v r) (a1 : Int32) : fa_MI l G n yX6_keeper cX6_keeper 3 (some .int) 6 [.ref (fa_B G + (0)), .int (a1)] v r (fa_voi r (fun x v1 => (((fa_rsn 1 v v1) ∧ ∀ A, fb_okA A → fb_cA v r 1 A → x = fb_kprA A a1) ∧ fa_CI v1 r) ∧ (fa_fr (9) (57) v v1))) := by
  refine fa_startI (by decide +kernel) (Nat.le_of_ble_eq_true rfl) (fun p e s m args below meth c ls Q CX hl HX RET => ?_)
  have hl : lv_has ls 3 [(0, .ref (fa_B G + (0))), (1, .int (a1))] := hl
  have hx := CX.1.1
  have hb := CX.1.2.1
  have hB : (1 : Nat) ∈ fa_bs := by decide
  refine lv_aload_n hx hb dX6_keeper_0 rfl (lv_at hl 0 rfl) ?_
  refine lv_iload_n hx hb dX6_keeper_1 rfl (lv_at hl 1 rfl) ?_
  refine fa_callViu (As := [.int (a1)]) (rest := []) CX HX (g_stays l G n hn v r hC (a1)) ln_X6_240 (by omega) rfl rfl rfl rfl (Nat.le_of_ble_eq_true rfl) hl.1 ⟨Nat.le_of_ble_eq_true rfl, Nat.le_of_ble_eq_true rfl⟩ ⟨Nat.le_refl _, Nat.le_refl _⟩ dX6_keeper_2 (fun x1664 v1665 H locs h1663 HX1666 => ?_)
  have hC_v1665 := h1663.1.2
  have h_stays := h1663.1.1
  refine lv_istore_n (lv' := [(2, .int (x1664)), (0, .ref (fa_B G + (0))), (1, .int (a1))]) hx hb dX6_keeper_5 rfl hl (by decide) rfl (fun ls hl => ?_)
  refine lv_iload_n hx hb dX6_keeper_6 rfl (lv_at hl 0 rfl) ?_
  refine lv_iconst (v := (-1 : Int32)) hx hb dX6_keeper_7 (by decide) ?_
  refine lv_icmp_ne (tgt := 13) hx hb dX6_keeper_8 (by decide) (fun c_8 => ?_) (fun c_8 => ?_)
  · refine lv_iload_n hx hb dX6_keeper_13 rfl (lv_at hl 0 rfl) ?_
    refine lv_iconst (v := nI (4)) hx hb dX6_keeper_14 (by decide) ?_
    refine lv_icmp_ne (tgt := 29) hx hb dX6_keeper_15 (by decide) (fun c_15 => ?_) (fun c_15 => ?_)
    · refine lv_bipush (v := (-6 : Int32)) hx hb dX6_keeper_29 (by decide) ?_
      exact RET _ _ _ _ _ _ _ HX1666 dX6_keeper_31 (⟨rfl, ⟨⟨⟨h_stays.1, fun A hok hc => by (have z := h_stays.2 A hok hc; rw [fb_kprA, if_neg (by rw [← z.1]; exact c_8), if_neg (by rw [← z.1]; exact c_15)])⟩, hC_v1665⟩, (fa_fr.tr fa_fr.rf (fa_fr.wide h1663.2 (by omega) (by omega)))⟩⟩)
    · refine lv_aload_n hx hb dX6_keeper_18 rfl (lv_at hl 1 rfl) ?_
      refine fa_getr (k := 0) (j := 1) CX HX1666 fl_X6_10 (by omega) rfl rfl (fa_CI.A hC_v1665).1 dX6_keeper_19 ?_
      refine lv_iload_n hx hb dX6_keeper_22 rfl (lv_at hl 2 rfl) ?_
      refine fa_callVip (As := [.int (a1)]) (rest := []) CX HX1666 (g_lowestKeeperOf l G n hn v1665 r 1 (by decide) (fa_CI.S hC_v1665 1 (by decide)).1 (fa_CI.S hC_v1665 1 (by decide)).2 (a1) ) ln_X6_243 (fa_lt (by decide) 0 (by decide) hn) (fa_s0 (by decide)) rfl rfl rfl (Nat.le_of_ble_eq_true rfl) hl.1 ⟨Nat.le_of_ble_eq_true rfl, Nat.le_of_ble_eq_true rfl⟩ ⟨Nat.le_refl _, Nat.le_refl _⟩ dX6_keeper_23 (fun x1668 H locs h1667 HX1669 => ?_)
      have h_lowestKeeperOf := h1667
      refine lv_goto (tgt := 31) hx hb dX6_keeper_26 (by decide) ?_
      exact RET _ _ _ _ _ _ _ HX1669 dX6_keeper_31 (⟨rfl, ⟨⟨⟨h_stays.1, fun A hok hc => by (have z := h_stays.2 A hok hc; have e4 : fb_styA A a1 = nI 4 := (by rw [← z.1]; first | exact c_15 | exact Decidable.not_not.mp c_15); rw [fb_kprA, if_neg (by rw [← z.1]; exact c_8), if_pos e4]; exact fb_c_kpr hok (hc.rsn h_stays.1) (fb_sty4 hok e4) (z.2 c_8) h_lowestKeeperOf)⟩, hC_v1665⟩, (fa_fr.tr fa_fr.rf (fa_fr.wide h1663.2 (by omega) (by omega)))⟩⟩)
  · refine lv_iconst (v := (-1 : Int32)) hx hb dX6_keeper_11 (by decide) ?_
    exact RET _ _ _ _ _ _ _ HX1666 dX6_keeper_12 (⟨rfl, ⟨⟨⟨h_stays.1, fun A hok hc => by (have z := h_stays.2 A hok hc; rw [fb_kprA, if_pos (by rw [← z.1]; first | exact c_8 | exact Decidable.not_not.mp c_8)])⟩, hC_v1665⟩, (fa_fr.tr fa_fr.rf (fa_fr.wide h1663.2 (by omega) (by omega)))⟩⟩)
set_option maxHeartbeats 4000000 in
set_option maxRecDepth 100000 in
theorem g_burntIn (l : Launch) (G : fa_G) (n : Nat) (hn : 397 ≤ n) (v : fa_V) (r : fa_R) (hC : fa_CI v r) (a1 : Int32) : fa_MI l G n yX6_burntIn cX6_burntIn 3 (some .int) 6 [.ref (fa_B G + (0)), .int (a1)] v r (fun x w => (∀ k, ¬ k = 58 → w.2 k = r k) ∧ (fa_CI w.1 w.2) ∧ (fa_fr 57 113 v w.1) ∧ (∀ k, 395 ≤ k → w.2 k = r k)) := by
  refine fa_startI (by decide +kernel) (Nat.le_of_ble_eq_true rfl) (fun p e s m args below meth c ls Q CX hl HX RET => ?_)
  have hl : lv_has ls 3 [(0, .ref (fa_B G + (0))), (1, .int (a1))] := hl
  have hx := CX.1.1
  have hb := CX.1.2.1
  have hB : (1 : Nat) ∈ fa_bs := by decide
  refine lv_aload_n hx hb dX6_burntIn_0 rfl (lv_at hl 0 rfl) ?_
  refine fa_getr (k := 0) (j := 1) CX HX fl_X6_10 (by omega) rfl rfl (fa_CI.A hC).1 dX6_burntIn_1 ?_
  refine lv_iload_n hx hb dX6_burntIn_4 rfl (lv_at hl 1 rfl) ?_
  refine fa_callVrp (As := [.int (a1)]) (rest := []) CX HX (g_find l G n hn v r 1 (by decide) (fa_CI.S hC 1 (by decide)).1 (fa_CI.S hC 1 (by decide)).2 (a1) ) ln_X6_175 (fa_lt (by decide) 0 (by decide) hn) (fa_s0 (by decide)) rfl rfl rfl (Nat.le_of_ble_eq_true rfl) hl.1 ⟨Nat.le_of_ble_eq_true rfl, Nat.le_of_ble_eq_true rfl⟩ ⟨Nat.le_refl _, Nat.le_refl _⟩ dX6_burntIn_5 (fun H locs h1670 HX1671 => ?_) (fun q1672 H locs h1670 HX1671 => ?_)
  · have hf_none := h1670.2 rfl
    refine lv_ifnonnullN hx hb dX6_burntIn_8 ?_
    refine lv_iconst (v := (-1 : Int32)) hx hb dX6_burntIn_11 (by decide) ?_
    exact RET _ _ _ _ _ _ _ HX1671 dX6_burntIn_12 (⟨(fun k hk => rfl), hC, fa_fr.rf, (fun k hk => rfl)⟩)
  · have hf_q1672 := h1670.1 q1672 rfl
    have hq1672 := hf_q1672.1
    have hiq1672 := fa_isF_in hq1672
    refine lv_ifnonnull (tgt := 13) hx hb dX6_burntIn_8 (by decide) ?_
    refine lv_aload_n hx hb dX6_burntIn_13 rfl (lv_at hl 0 rfl) ?_
    refine fa_getr (k := 0) (j := 57) CX HX1671 fl_X6_16 (by omega) rfl rfl (fa_CI.A hC).2.1 dX6_burntIn_14 ?_
    refine lv_aload_n hx hb dX6_burntIn_17 rfl (lv_at hl 0 rfl) ?_
    refine fa_getr (k := 0) (j := 1) CX HX1671 fl_X6_10 (by omega) rfl rfl (fa_CI.A hC).1 dX6_burntIn_18 ?_
    refine fa_callVvu (As := [.ref (fa_B G + (1))]) (rest := []) CX HX1671 (g_copyFrom l G n hn v r 57 (by decide) (fa_CI.S hC 57 (by decide)).1 1 (by decide) (fa_CI.S hC 1 (by decide)).1 (by omega) (fa_CI.S hC 57 (by decide)).2 (fa_CI.S hC 1 (by decide)).2) ln_X6_119 (fa_lt (by decide) 0 (by decide) hn) (fa_s0 (by decide)) rfl rfl rfl (Nat.le_of_ble_eq_true rfl) hl.1 ⟨Nat.le_of_ble_eq_true rfl, Nat.le_of_ble_eq_true rfl⟩ ⟨Nat.le_refl _, Nat.le_refl _⟩ dX6_burntIn_21 (fun v1674 H locs h1673 HX1675 => ?_)
    have h_copyFrom := h1673.1.2
    have hIS_v1674 : fa_IS v1674 57 := h1673.1.1
    have hC_v1674 : fa_CI v1674 r := fa_CI.st hC (by decide) hIS_v1674 (fa_CI.S hC 57 (by decide)).1 (fa_fr.wide h1673.2 (by omega) (by omega)) (fun _ _ => rfl)
    refine lv_iconst (v := nI (1)) hx hb dX6_burntIn_24 (by decide) ?_
    refine lv_istore_n (lv' := [(2, .int (nI (1))), (0, .ref (fa_B G + (0))), (1, .int (a1))]) hx hb dX6_burntIn_25 rfl hl (by decide) rfl (fun ls hl => ?_)
    have LOOP_26 : ∀ (fu : Nat) (j : Nat) (v1676 : fa_V) (r1677 : fa_R) (H : Heap) (locs : List Loc) (ls : Array Slot), 3001 - j < fu → (j ≤ 3001 ∧ fa_CI v1676 r1677 ∧ fa_fr 57 113 v v1676 ∧ ∀ k, ¬ k = 58 → r1677 k = r k) → lv_has ls 3 [(0, .ref (fa_B G + (0))), (1, .int (a1)), (2, .int (nI (j)))] → fa_HX G (n) v1676 r1677 s H locs → W p l e (fa_rm 6) s m args below meth c H locs (0) (0) Q (F0 m 26 ls []) := by
      intro fu
      induction fu with
      | zero => intro j v1676 r1677 H locs ls hk; exact absurd hk (Nat.not_lt_zero _)
      | succ fu ih_26 =>
        intro j v1676 r1677 H locs ls hk_26 hi_26 hl HX1678
        refine lv_iload_n hx hb dX6_burntIn_26 rfl (lv_at hl 2 rfl) ?_
        refine lv_sipush (v := nI (3000)) hx hb dX6_burntIn_27 (by decide) ?_
        refine lv_icmp_gt (tgt := 62) hx hb dX6_burntIn_30 (by decide) (fun c_30 => ?_) (fun c_30 => ?_)
        · refine lv_bipush (v := (-6 : Int32)) hx hb dX6_burntIn_62 (by decide) ?_
          exact RET _ _ _ _ _ _ _ HX1678 dX6_burntIn_64 (⟨(fun k hk => ((hi_26.2.2.2 k hk).trans rfl)), hi_26.2.1, (fa_fr.tr fa_fr.rf (fa_fr.wide hi_26.2.2.1 (by omega) (by omega))), (fun k hk => ((hi_26.2.2.2 k (by omega)).trans rfl))⟩)
        · have hj : j ≤ 3000 := fa_nltN (by omega) (by omega) c_30
          refine lv_aload_n hx hb dX6_burntIn_33 rfl (lv_at hl 0 rfl) ?_
          refine fa_getr (k := 0) (j := 57) CX HX1678 fl_X6_16 (by omega) rfl rfl (fa_CI.A hi_26.2.1).2.1 dX6_burntIn_34 ?_
          refine fa_callVi (As := []) (rest := []) CX HX1678 (g_passDay l G n hn v1676 r1677 57 (by decide) (fa_CI.S hi_26.2.1 57 (by decide)).1 (fa_CI.S hi_26.2.1 57 (by decide)).2  ) ln_X6_246 (fa_lt (by decide) 0 (by decide) hn) (fa_s0 (by decide)) rfl rfl rfl (Nat.le_of_ble_eq_true rfl) hl.1 ⟨Nat.le_of_ble_eq_true rfl, Nat.le_of_ble_eq_true rfl⟩ ⟨Nat.le_refl _, Nat.le_refl _⟩ dX6_burntIn_37 (fun x1680 v1681 r1682 H locs h1679 HX1683 => ?_)
          dsimp only at h1679
          have hIS_v1681 := h1679.2.1
          have hr57_r1682 := h1679.2.2.1
          have hrr_r1682 := h1679.2.2.2.2
          have h_passDay := h1679.1
          have hC_v1681 : fa_CI v1681 r1682 := fa_CI.st hi_26.2.1 (by decide) hIS_v1681 hr57_r1682 (fa_fr.wide h1679.2.2.2.1 (by omega) (by omega)) h1679.2.2.2.2
          refine lv_if_le (tgt := 56) hx hb dX6_burntIn_40 (by decide) (fun c_40 => ?_) (fun c_40 => ?_)
          · refine lv_iinc (v := nI (j + 1)) (lv' := [(2, .int (nI (j + 1))), (0, .ref (fa_B G + (0))), (1, .int (a1))]) hx hb dX6_burntIn_56 hl (k := 2) rfl (nI_add (j) 1) (by decide) rfl (fun ls hl => ?_)
            refine lv_goto (tgt := 26) hx hb dX6_burntIn_59 (by decide) ?_
            exact ih_26 (j + 1) v1681 r1682 _ _ _ (by omega) (⟨by omega, hC_v1681, (fa_fr.tr (fa_fr.tr fa_fr.rf (fa_fr.wide hi_26.2.2.1 (by omega) (by omega))) (fa_fr.wide h1679.2.2.2.1 (by omega) (by omega))), (fun k hk => ((h1679.2.2.2.2 k (by omega)).trans ((hi_26.2.2.2 k hk).trans rfl)))⟩) (lv_sub hl [1, 2, 0] rfl) HX1683
          · refine lv_aload_n hx hb dX6_burntIn_43 rfl (lv_at hl 0 rfl) ?_
            refine fa_getr (k := 0) (j := 57) CX HX1683 fl_X6_16 (by omega) rfl rfl (fa_CI.A hC_v1681).2.1 dX6_burntIn_44 ?_
            refine lv_iload_n hx hb dX6_burntIn_47 rfl (lv_at hl 1 rfl) ?_
            refine fa_callVrp (As := [.int (a1)]) (rest := []) CX HX1683 (g_find l G n hn v1681 r1682 57 (by decide) (fa_CI.S hC_v1681 57 (by decide)).1 (fa_CI.S hC_v1681 57 (by decide)).2 (a1) ) ln_X6_175 (fa_lt (by decide) 0 (by decide) hn) (fa_s0 (by decide)) rfl rfl rfl (Nat.le_of_ble_eq_true rfl) hl.1 ⟨Nat.le_of_ble_eq_true rfl, Nat.le_of_ble_eq_true rfl⟩ ⟨Nat.le_refl _, Nat.le_refl _⟩ dX6_burntIn_48 (fun H locs h1684 HX1685 => ?_) (fun q1686 H locs h1684 HX1685 => ?_)
            · have hf_none := h1684.2 rfl
              refine lv_ifnonnullN hx hb dX6_burntIn_51 ?_
              refine lv_iload_n hx hb dX6_burntIn_54 rfl (lv_at hl 2 rfl) ?_
              exact RET _ _ _ _ _ _ _ HX1685 dX6_burntIn_55 (⟨(fun k hk => ((h1679.2.2.2.2 k (by omega)).trans ((hi_26.2.2.2 k hk).trans rfl))), hC_v1681, (fa_fr.tr (fa_fr.tr fa_fr.rf (fa_fr.wide hi_26.2.2.1 (by omega) (by omega))) (fa_fr.wide h1679.2.2.2.1 (by omega) (by omega))), (fun k hk => ((h1679.2.2.2.2 k (by omega)).trans ((hi_26.2.2.2 k (by omega)).trans rfl)))⟩)
            · have hf_q1686 := h1684.1 q1686 rfl
              have hq1686 := hf_q1686.1
              have hiq1686 := fa_isF_in hq1686
              refine lv_ifnonnull (tgt := 56) hx hb dX6_burntIn_51 (by decide) ?_
              refine lv_iinc (v := nI (j + 1)) (lv' := [(2, .int (nI (j + 1))), (0, .ref (fa_B G + (0))), (1, .int (a1))]) hx hb dX6_burntIn_56 hl (k := 2) rfl (nI_add (j) 1) (by decide) rfl (fun ls hl => ?_)
              refine lv_goto (tgt := 26) hx hb dX6_burntIn_59 (by decide) ?_
              exact ih_26 (j + 1) v1681 r1682 _ _ _ (by omega) (⟨by omega, hC_v1681, (fa_fr.tr (fa_fr.tr fa_fr.rf (fa_fr.wide hi_26.2.2.1 (by omega) (by omega))) (fa_fr.wide h1679.2.2.2.1 (by omega) (by omega))), (fun k hk => ((h1679.2.2.2.2 k (by omega)).trans ((hi_26.2.2.2 k hk).trans rfl)))⟩) (lv_sub hl [1, 2, 0] rfl) HX1685
    exact LOOP_26 (3001 - 1 + 1) (1) v1674 r _ _ _ (Nat.lt_succ_self _) (⟨by omega, hC_v1674, (fa_fr.tr fa_fr.rf (fa_fr.wide h1673.2 (by omega) (by omega))), (fun k hk => rfl)⟩) (lv_sub hl [1, 2, 0] rfl) HX1675
set_option maxHeartbeats 4000000 in
set_option maxRecDepth 100000 in
theorem g_ifPassed (l : Launch) (G : fa_G) (n : Nat) (hn : 397 ≤ n) (v : fa_V) (r : fa_R) (hC : fa_CI v r) (a1 : Int32) (a2 : Int32) : fa_MI l G n yX6_ifPassed cX6_ifPassed 4 (some .int) 6 [.ref (fa_B G + (0)), .int (a1), .int (a2)] v r (fun x w => (∀ k, ¬ k = 58 → w.2 k = r k) ∧ (fa_CI w.1 w.2) ∧ (fa_fr 57 113 v w.1) ∧ (∀ k, 395 ≤ k → w.2 k = r k)) := by
  refine fa_startI (by decide +kernel) (Nat.le_of_ble_eq_true rfl) (fun p e s m args below meth c ls Q CX hl HX RET => ?_)
  have hl : lv_has ls 4 [(0, .ref (fa_B G + (0))), (1, .int (a1)), (2, .int (a2))] := hl
  have hx := CX.1.1
  have hb := CX.1.2.1
  have hB : (1 : Nat) ∈ fa_bs := by decide
  refine lv_iload_n hx hb dX6_ifPassed_0 rfl (lv_at hl 1 rfl) ?_
  refine lv_iconst (v := nI (1)) hx hb dX6_ifPassed_1 (by decide) ?_
  refine lv_icmp_lt (tgt := 21) hx hb dX6_ifPassed_2 (by decide) (fun c_2 => ?_) (fun c_2 => ?_)
  · refine lv_bipush (v := (-2 : Int32)) hx hb dX6_ifPassed_21 (by decide) ?_
    exact RET _ _ _ _ _ _ _ HX dX6_ifPassed_23 (⟨(fun k hk => rfl), hC, fa_fr.rf, (fun k hk => rfl)⟩)
  · refine lv_iload_n hx hb dX6_ifPassed_5 rfl (lv_at hl 1 rfl) ?_
    refine lv_sipush (v := nI (400)) hx hb dX6_ifPassed_6 (by decide) ?_
    refine lv_icmp_gt (tgt := 21) hx hb dX6_ifPassed_9 (by decide) (fun c_9 => ?_) (fun c_9 => ?_)
    · refine lv_bipush (v := (-2 : Int32)) hx hb dX6_ifPassed_21 (by decide) ?_
      exact RET _ _ _ _ _ _ _ HX dX6_ifPassed_23 (⟨(fun k hk => rfl), hC, fa_fr.rf, (fun k hk => rfl)⟩)
    · refine lv_iload_n hx hb dX6_ifPassed_12 rfl (lv_at hl 2 rfl) ?_
      refine lv_if_lt (tgt := 21) hx hb dX6_ifPassed_13 (by decide) (fun c_13 => ?_) (fun c_13 => ?_)
      · refine lv_bipush (v := (-2 : Int32)) hx hb dX6_ifPassed_21 (by decide) ?_
        exact RET _ _ _ _ _ _ _ HX dX6_ifPassed_23 (⟨(fun k hk => rfl), hC, fa_fr.rf, (fun k hk => rfl)⟩)
      · refine lv_iload_n hx hb dX6_ifPassed_16 rfl (lv_at hl 2 rfl) ?_
        refine lv_iconst (v := nI (2)) hx hb dX6_ifPassed_17 (by decide) ?_
        refine lv_icmp_le (tgt := 24) hx hb dX6_ifPassed_18 (by decide) (fun c_18 => ?_) (fun c_18 => ?_)
        · obtain ⟨ka, hka1, hka, eka⟩ := fa_natIn (by decide) c_2 (Int32.not_lt.mp c_9)
          refine lv_aload_n hx hb dX6_ifPassed_24 rfl (lv_at hl 0 rfl) ?_
          refine fa_getr (k := 0) (j := 57) CX HX fl_X6_16 (by omega) rfl rfl (fa_CI.A hC).2.1 dX6_ifPassed_25 ?_
          refine lv_aload_n hx hb dX6_ifPassed_28 rfl (lv_at hl 0 rfl) ?_
          refine fa_getr (k := 0) (j := 1) CX HX fl_X6_10 (by omega) rfl rfl (fa_CI.A hC).1 dX6_ifPassed_29 ?_
          refine fa_callVvu (As := [.ref (fa_B G + (1))]) (rest := []) CX HX (g_copyFrom l G n hn v r 57 (by decide) (fa_CI.S hC 57 (by decide)).1 1 (by decide) (fa_CI.S hC 1 (by decide)).1 (by omega) (fa_CI.S hC 57 (by decide)).2 (fa_CI.S hC 1 (by decide)).2) ln_X6_119 (fa_lt (by decide) 0 (by decide) hn) (fa_s0 (by decide)) rfl rfl rfl (Nat.le_of_ble_eq_true rfl) hl.1 ⟨Nat.le_of_ble_eq_true rfl, Nat.le_of_ble_eq_true rfl⟩ ⟨Nat.le_refl _, Nat.le_refl _⟩ dX6_ifPassed_32 (fun v1688 H locs h1687 HX1689 => ?_)
          have h_copyFrom := h1687.1.2
          have hIS_v1688 : fa_IS v1688 57 := h1687.1.1
          have hC_v1688 : fa_CI v1688 r := fa_CI.st hC (by decide) hIS_v1688 (fa_CI.S hC 57 (by decide)).1 (fa_fr.wide h1687.2 (by omega) (by omega)) (fun _ _ => rfl)
          refine lv_iconst (v := nI (0)) hx hb dX6_ifPassed_35 (by decide) ?_
          refine lv_istore_n (lv' := [(3, .int (nI (0))), (0, .ref (fa_B G + (0))), (1, .int (a1)), (2, .int (a2))]) hx hb dX6_ifPassed_36 rfl hl (by decide) rfl (fun ls hl => ?_)
          have LOOP_37 : ∀ (fu : Nat) (j : Nat) (v1690 : fa_V) (r1691 : fa_R) (H : Heap) (locs : List Loc) (ls : Array Slot), ka - j < fu → (j ≤ ka ∧ fa_CI v1690 r1691 ∧ fa_fr 57 113 v v1690 ∧ ∀ k, ¬ k = 58 → r1691 k = r k) → lv_has ls 4 [(0, .ref (fa_B G + (0))), (1, .int (a1)), (2, .int (a2)), (3, .int (nI (j)))] → fa_HX G (n) v1690 r1691 s H locs → W p l e (fa_rm 6) s m args below meth c H locs (0) (0) Q (F0 m 37 ls []) := by
            intro fu
            induction fu with
            | zero => intro j v1690 r1691 H locs ls hk; exact absurd hk (Nat.not_lt_zero _)
            | succ fu ih_37 =>
              intro j v1690 r1691 H locs ls hk_37 hi_37 hl HX1692
              refine lv_iload_n hx hb dX6_ifPassed_37 rfl (lv_at hl 3 rfl) ?_
              refine lv_iload_n hx hb dX6_ifPassed_38 rfl (lv_at hl 1 rfl) ?_
              refine lv_icmp_ge (tgt := 56) hx hb dX6_ifPassed_39 (by decide) (fun c_39 => ?_) (fun c_39 => ?_)
              · refine lv_iload_n hx hb dX6_ifPassed_56 rfl (lv_at hl 2 rfl) ?_
                by_cases c_57_0 : a2 = (0 : Int32)
                · refine lv_lookup (off := 27) (tgt := 84) hx hb dX6_ifPassed_57 (by decide) (by rw [c_57_0]; decide) (by decide) ?_
                  refine lv_aload_n hx hb dX6_ifPassed_84 rfl (lv_at hl 0 rfl) ?_
                  refine fa_getr (k := 0) (j := 57) CX HX1692 fl_X6_16 (by omega) rfl rfl (fa_CI.A hi_37.2.1).2.1 dX6_ifPassed_85 ?_
                  refine fa_geti (k := 57) CX HX1692 fl_X6_137 (fa_lt (by decide) 0 (by decide) hn) (fa_s0 (by decide)) rfl dX6_ifPassed_88 ?_
                  refine lv_aload_n hx hb dX6_ifPassed_91 rfl (lv_at hl 0 rfl) ?_
                  refine fa_getr (k := 0) (j := 1) CX HX1692 fl_X6_10 (by omega) rfl rfl (fa_CI.A hi_37.2.1).1 dX6_ifPassed_92 ?_
                  refine fa_geti (k := 1) CX HX1692 fl_X6_137 (fa_lt (by decide) 0 (by decide) hn) (fa_s0 (by decide)) rfl dX6_ifPassed_95 ?_
                  refine lv_isub hx hb dX6_ifPassed_98 ?_
                  exact RET _ _ _ _ _ _ _ HX1692 dX6_ifPassed_99 (⟨(fun k hk => ((hi_37.2.2.2 k hk).trans rfl)), hi_37.2.1, (fa_fr.tr fa_fr.rf (fa_fr.wide hi_37.2.2.1 (by omega) (by omega))), (fun k hk => ((hi_37.2.2.2 k (by omega)).trans rfl))⟩)
                by_cases c_57_1 : a2 = (1 : Int32)
                · refine lv_lookup (off := 43) (tgt := 100) hx hb dX6_ifPassed_57 (by decide) (by rw [c_57_1]; decide) (by decide) ?_
                  refine lv_aload_n hx hb dX6_ifPassed_100 rfl (lv_at hl 0 rfl) ?_
                  refine fa_getr (k := 0) (j := 57) CX HX1692 fl_X6_16 (by omega) rfl rfl (fa_CI.A hi_37.2.1).2.1 dX6_ifPassed_101 ?_
                  refine fa_geti (k := 57) CX HX1692 fl_X6_140 (fa_lt (by decide) 0 (by decide) hn) (fa_s0 (by decide)) rfl dX6_ifPassed_104 ?_
                  refine lv_aload_n hx hb dX6_ifPassed_107 rfl (lv_at hl 0 rfl) ?_
                  refine fa_getr (k := 0) (j := 1) CX HX1692 fl_X6_10 (by omega) rfl rfl (fa_CI.A hi_37.2.1).1 dX6_ifPassed_108 ?_
                  refine fa_geti (k := 1) CX HX1692 fl_X6_140 (fa_lt (by decide) 0 (by decide) hn) (fa_s0 (by decide)) rfl dX6_ifPassed_111 ?_
                  refine lv_isub hx hb dX6_ifPassed_114 ?_
                  exact RET _ _ _ _ _ _ _ HX1692 dX6_ifPassed_115 (⟨(fun k hk => ((hi_37.2.2.2 k hk).trans rfl)), hi_37.2.1, (fa_fr.tr fa_fr.rf (fa_fr.wide hi_37.2.2.1 (by omega) (by omega))), (fun k hk => ((hi_37.2.2.2 k (by omega)).trans rfl))⟩)
                refine lv_lookup (off := 59) (tgt := 116) hx hb dX6_ifPassed_57 (by decide) (by show Op.lookupswitch.offset [(0, 27), (1, 43)] 59 _ = _; rw [lv_osw (k := 0) c_57_0 (by decide), lv_osw (k := 1) c_57_1 (by decide)]; rfl) (by decide) ?_
                refine lv_aload_n hx hb dX6_ifPassed_116 rfl (lv_at hl 0 rfl) ?_
                refine fa_getr (k := 0) (j := 57) CX HX1692 fl_X6_16 (by omega) rfl rfl (fa_CI.A hi_37.2.1).2.1 dX6_ifPassed_117 ?_
                refine fa_geti (k := 57) CX HX1692 fl_X6_143 (fa_lt (by decide) 0 (by decide) hn) (fa_s0 (by decide)) rfl dX6_ifPassed_120 ?_
                refine lv_aload_n hx hb dX6_ifPassed_123 rfl (lv_at hl 0 rfl) ?_
                refine fa_getr (k := 0) (j := 1) CX HX1692 fl_X6_10 (by omega) rfl rfl (fa_CI.A hi_37.2.1).1 dX6_ifPassed_124 ?_
                refine fa_geti (k := 1) CX HX1692 fl_X6_143 (fa_lt (by decide) 0 (by decide) hn) (fa_s0 (by decide)) rfl dX6_ifPassed_127 ?_
                refine lv_isub hx hb dX6_ifPassed_130 ?_
                exact RET _ _ _ _ _ _ _ HX1692 dX6_ifPassed_131 (⟨(fun k hk => ((hi_37.2.2.2 k hk).trans rfl)), hi_37.2.1, (fa_fr.tr fa_fr.rf (fa_fr.wide hi_37.2.2.1 (by omega) (by omega))), (fun k hk => ((hi_37.2.2.2 k (by omega)).trans rfl))⟩)
              · have hj : j < ka := by
                  rw [eka] at c_39
                  exact fa_ltN (by omega) (by omega) c_39
                refine lv_aload_n hx hb dX6_ifPassed_42 rfl (lv_at hl 0 rfl) ?_
                refine fa_getr (k := 0) (j := 57) CX HX1692 fl_X6_16 (by omega) rfl rfl (fa_CI.A hi_37.2.1).2.1 dX6_ifPassed_43 ?_
                refine fa_callVi (As := []) (rest := []) CX HX1692 (g_passDay l G n hn v1690 r1691 57 (by decide) (fa_CI.S hi_37.2.1 57 (by decide)).1 (fa_CI.S hi_37.2.1 57 (by decide)).2  ) ln_X6_246 (fa_lt (by decide) 0 (by decide) hn) (fa_s0 (by decide)) rfl rfl rfl (Nat.le_of_ble_eq_true rfl) hl.1 ⟨Nat.le_of_ble_eq_true rfl, Nat.le_of_ble_eq_true rfl⟩ ⟨Nat.le_refl _, Nat.le_refl _⟩ dX6_ifPassed_46 (fun x1694 v1695 r1696 H locs h1693 HX1697 => ?_)
                dsimp only at h1693
                have hIS_v1695 := h1693.2.1
                have hr57_r1696 := h1693.2.2.1
                have hrr_r1696 := h1693.2.2.2.2
                have h_passDay := h1693.1
                have hC_v1695 : fa_CI v1695 r1696 := fa_CI.st hi_37.2.1 (by decide) hIS_v1695 hr57_r1696 (fa_fr.wide h1693.2.2.2.1 (by omega) (by omega)) h1693.2.2.2.2
                refine lv_pop hx hb dX6_ifPassed_49 rfl ?_
                refine lv_iinc (v := nI (j + 1)) (lv' := [(3, .int (nI (j + 1))), (0, .ref (fa_B G + (0))), (1, .int (a1)), (2, .int (a2))]) hx hb dX6_ifPassed_50 hl (k := 3) rfl (nI_add (j) 1) (by decide) rfl (fun ls hl => ?_)
                refine lv_goto (tgt := 37) hx hb dX6_ifPassed_53 (by decide) ?_
                exact ih_37 (j + 1) v1695 r1696 _ _ _ (by omega) (⟨by omega, hC_v1695, (fa_fr.tr (fa_fr.tr fa_fr.rf (fa_fr.wide hi_37.2.2.1 (by omega) (by omega))) (fa_fr.wide h1693.2.2.2.1 (by omega) (by omega))), (fun k hk => ((h1693.2.2.2.2 k (by omega)).trans ((hi_37.2.2.2 k hk).trans rfl)))⟩) (lv_sub hl [1, 2, 3, 0] rfl) HX1697
          exact LOOP_37 (ka - 0 + 1) (0) v1688 r _ _ _ (Nat.lt_succ_self _) (⟨by omega, hC_v1688, (fa_fr.tr fa_fr.rf (fa_fr.wide h1687.2 (by omega) (by omega))), (fun k hk => rfl)⟩) (lv_sub hl [1, 2, 3, 0] rfl) HX1689
        · refine lv_bipush (v := (-2 : Int32)) hx hb dX6_ifPassed_21 (by decide) ?_
          exact RET _ _ _ _ _ _ _ HX dX6_ifPassed_23 (⟨(fun k hk => rfl), hC, fa_fr.rf, (fun k hk => rfl)⟩)
