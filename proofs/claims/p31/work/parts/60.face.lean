set_option maxHeartbeats 4000000 in
set_option maxRecDepth 100000 in
theorem g_recorded (l : Launch) (G : fa_G) (n : Nat) (hn : 397 ≤ n) (v : fa_V) (r : fa_R) (hC : fa_CI v r) (a1 : Int32) : fa_MI l G n yX6_recorded cX6_recorded 2 (some .int) 2 [.ref (fa_B G + (0)), .int (a1)] v r (fun x w => (x = a1 ∧ ((¬ (0 ≤ a1 ∨ a1 = (-6 : Int32)) ∧ w.1 = v ∧ w.2 = r) ∨ ((0 ≤ a1 ∨ a1 = (-6 : Int32)) ∧ fa_kd v r w.1 w.2))) ∧ (fa_CI w.1 w.2) ∧ (fa_fr 113 114 v w.1) ∧ (∀ k, 395 ≤ k → w.2 k = r k)) := by
  refine fa_startI (by decide +kernel) (Nat.le_of_ble_eq_true rfl) (fun p e s m args below meth c ls Q CX hl HX RET => ?_)
  have hl : lv_has ls 2 [(0, .ref (fa_B G + (0))), (1, .int (a1))] := hl
  have hx := CX.1.1
  have hb := CX.1.2.1
  have hB : (1 : Nat) ∈ fa_bs := by decide
  refine lv_iload_n hx hb dX6_recorded_0 rfl (lv_at hl 1 rfl) ?_
  refine fa_callSip (As := [.int (a1)]) (rest := []) CX HX (c_X6_isError l G n v r (a1)) ln_X6_95 rfl rfl (Nat.le_of_ble_eq_true rfl) hl.1 ⟨Nat.le_of_ble_eq_true rfl, Nat.le_of_ble_eq_true rfl⟩ ⟨Nat.le_refl _, Nat.le_refl _⟩ dX6_recorded_1 (fun x930 H locs h929 HX931 => ?_)
  have h_isError := h929
  refine lv_if_ne (tgt := 14) hx hb dX6_recorded_4 (by decide) (fun c_4 => ?_) (fun c_4 => ?_)
  · refine lv_iload_n hx hb dX6_recorded_14 rfl (lv_at hl 1 rfl) ?_
    exact RET _ _ _ _ _ _ _ HX931 dX6_recorded_15 (⟨⟨rfl, Or.inl ⟨fa_err1 h_isError c_4, rfl, rfl⟩⟩, hC, fa_fr.rf, (fun k hk => rfl)⟩)
  · refine lv_aload_n hx hb dX6_recorded_7 rfl (lv_at hl 0 rfl) ?_
    refine fa_getr (k := 0) (j := 113) CX HX931 fl_X6_22 (by omega) rfl rfl (fa_CI.A hC).2.2.1 dX6_recorded_8 ?_
    refine fa_callVv (As := []) (rest := []) CX HX931 (g_keepDraft l G n hn v r hC ) ln_X6_106 (by omega) rfl rfl rfl rfl (Nat.le_of_ble_eq_true rfl) hl.1 ⟨Nat.le_of_ble_eq_true rfl, Nat.le_of_ble_eq_true rfl⟩ ⟨Nat.le_refl _, Nat.le_refl _⟩ dX6_recorded_11 (fun v933 r934 H locs h932 HX935 => ?_)
    dsimp only at h932
    have hC_v933 := h932.2.1
    have h_keepDraft := h932.1
    refine lv_iload_n hx hb dX6_recorded_14 rfl (lv_at hl 1 rfl) ?_
    exact RET _ _ _ _ _ _ _ HX935 dX6_recorded_15 (⟨⟨rfl, Or.inr ⟨fa_err0 h_isError c_4, h_keepDraft⟩⟩, hC_v933, (fa_fr.tr fa_fr.rf (fa_fr.wide h932.2.2.1 (by omega) (by omega))), (fun k hk => ((h932.2.2.2 k hk).trans rfl))⟩)
set_option maxHeartbeats 4000000 in
set_option maxRecDepth 100000 in
theorem g_add (l : Launch) (G : fa_G) (n : Nat) (hn : 397 ≤ n) (v : fa_V) (r : fa_R) (hC : fa_CI v r) (a1 : Int32) (a2 : Int32) : fa_MI l G n yX6_add cX6_add 3 (some .int) 6 [.ref (fa_B G + (0)), .int (a1), .int (a2)] v r (fun x w => (∀ A H, fb_CV v r A H → x = (fb_addA A a1 a2).1 ∧ fb_CV w.1 w.2 (fb_addA A a1 a2).2 (fb_rec H A (fb_addA A a1 a2).1)) ∧ (fa_CI w.1 w.2) ∧ (fa_fr 1 395 v w.1) ∧ (∀ k, 395 ≤ k → w.2 k = r k)) := by
  refine fa_startI (by decide +kernel) (Nat.le_of_ble_eq_true rfl) (fun p e s m args below meth c ls Q CX hl HX RET => ?_)
  have hl : lv_has ls 3 [(0, .ref (fa_B G + (0))), (1, .int (a1)), (2, .int (a2))] := hl
  have hx := CX.1.1
  have hb := CX.1.2.1
  have hB : (1 : Nat) ∈ fa_bs := by decide
  refine lv_aload_n hx hb dX6_add_0 rfl (lv_at hl 0 rfl) ?_
  refine fa_getr (k := 0) (j := 113) CX HX fl_X6_22 (by omega) rfl rfl (fa_CI.A hC).2.2.1 dX6_add_1 ?_
  refine lv_aload_n hx hb dX6_add_4 rfl (lv_at hl 0 rfl) ?_
  refine fa_getr (k := 0) (j := 1) CX HX fl_X6_10 (by omega) rfl rfl (fa_CI.A hC).1 dX6_add_5 ?_
  refine fa_callVvu (As := [.ref (fa_B G + (1))]) (rest := []) CX HX (g_draft l G n hn v r hC ) ln_X6_33 (by omega) rfl rfl rfl rfl (Nat.le_of_ble_eq_true rfl) hl.1 ⟨Nat.le_of_ble_eq_true rfl, Nat.le_of_ble_eq_true rfl⟩ ⟨Nat.le_refl _, Nat.le_refl _⟩ dX6_add_8 (fun v937 H locs h936 HX938 => ?_)
  have hC_v937 := h936.1.2
  have h_draft := h936.1.1
  refine lv_aload_n hx hb dX6_add_11 rfl (lv_at hl 0 rfl) ?_
  refine lv_aload_n hx hb dX6_add_12 rfl (lv_at hl 0 rfl) ?_
  refine fa_getr (k := 0) (j := 1) CX HX938 fl_X6_10 (by omega) rfl rfl (fa_CI.A hC_v937).1 dX6_add_13 ?_
  refine lv_iload_n hx hb dX6_add_16 rfl (lv_at hl 1 rfl) ?_
  refine lv_iload_n hx hb dX6_add_17 rfl (lv_at hl 2 rfl) ?_
  refine fa_callViu (As := [.int (a1), .int (a2)]) (rest := [.ref (fa_B G + (0))]) CX HX938 (g_addFile l G n hn v937 r 1 (by decide) (fa_CI.S hC_v937 1 (by decide)).1 (fa_CI.S hC_v937 1 (by decide)).2 (a1) (a2) ) ln_X6_37 (fa_lt (by decide) 0 (by decide) hn) (fa_s0 (by decide)) rfl rfl rfl (Nat.le_of_ble_eq_true rfl) hl.1 ⟨Nat.le_of_ble_eq_true rfl, Nat.le_of_ble_eq_true rfl⟩ ⟨Nat.le_refl _, Nat.le_refl _⟩ dX6_add_18 (fun x940 v941 H locs h939 HX942 => ?_)
  have h_addFile := h939.1
  have hIS_v941 : fa_IS v941 1 := h939.1.2
  have hC_v941 : fa_CI v941 r := fa_CI.st hC_v937 (by decide) hIS_v941 (fa_CI.S hC_v937 1 (by decide)).1 (fa_fr.wide h939.2 (by omega) (by omega)) (fun _ _ => rfl)
  refine fa_callVi (As := [.int (x940)]) (rest := []) CX HX942 (g_recorded l G n hn v941 r hC_v941 (x940)) ln_X6_41 (by omega) rfl rfl rfl rfl (Nat.le_of_ble_eq_true rfl) hl.1 ⟨Nat.le_of_ble_eq_true rfl, Nat.le_of_ble_eq_true rfl⟩ ⟨Nat.le_refl _, Nat.le_refl _⟩ dX6_add_21 (fun x944 v945 r946 H locs h943 HX947 => ?_)
  dsimp only at h943
  have hC_v945 := h943.2.1
  have h_recorded := h943.1
  exact RET _ _ _ _ _ _ _ HX947 dX6_add_24 (⟨(fun A H hV => fb_face hC hV h_draft h939.2 (fun _ _ => rfl) (fun hc => h_addFile.1 A hV.1 hc) (hV.1.add a1 a2) h_recorded), hC_v945, (fa_fr.tr (fa_fr.tr (fa_fr.tr fa_fr.rf (fa_fr.wide h936.2 (by omega) (by omega))) (fa_fr.wide h939.2 (by omega) (by omega))) (fa_fr.wide h943.2.2.1 (by omega) (by omega))), (fun k hk => ((h943.2.2.2 k hk).trans rfl))⟩)
set_option maxHeartbeats 4000000 in
set_option maxRecDepth 100000 in
theorem g_ask (l : Launch) (G : fa_G) (n : Nat) (hn : 397 ≤ n) (v : fa_V) (r : fa_R) (hC : fa_CI v r) (a1 : Int32) : fa_MI l G n yX6_ask cX6_ask 2 (some .int) 6 [.ref (fa_B G + (0)), .int (a1)] v r (fun x w => (∀ A H, fb_CV v r A H → x = (fb_askA A a1).1 ∧ fb_CV w.1 w.2 (fb_askA A a1).2 (fb_rec H A (fb_askA A a1).1)) ∧ (fa_CI w.1 w.2) ∧ (fa_fr 1 395 v w.1) ∧ (∀ k, 395 ≤ k → w.2 k = r k)) := by
  refine fa_startI (by decide +kernel) (Nat.le_of_ble_eq_true rfl) (fun p e s m args below meth c ls Q CX hl HX RET => ?_)
  have hl : lv_has ls 2 [(0, .ref (fa_B G + (0))), (1, .int (a1))] := hl
  have hx := CX.1.1
  have hb := CX.1.2.1
  have hB : (1 : Nat) ∈ fa_bs := by decide
  refine lv_aload_n hx hb dX6_ask_0 rfl (lv_at hl 0 rfl) ?_
  refine fa_getr (k := 0) (j := 113) CX HX fl_X6_22 (by omega) rfl rfl (fa_CI.A hC).2.2.1 dX6_ask_1 ?_
  refine lv_aload_n hx hb dX6_ask_4 rfl (lv_at hl 0 rfl) ?_
  refine fa_getr (k := 0) (j := 1) CX HX fl_X6_10 (by omega) rfl rfl (fa_CI.A hC).1 dX6_ask_5 ?_
  refine fa_callVvu (As := [.ref (fa_B G + (1))]) (rest := []) CX HX (g_draft l G n hn v r hC ) ln_X6_33 (by omega) rfl rfl rfl rfl (Nat.le_of_ble_eq_true rfl) hl.1 ⟨Nat.le_of_ble_eq_true rfl, Nat.le_of_ble_eq_true rfl⟩ ⟨Nat.le_refl _, Nat.le_refl _⟩ dX6_ask_8 (fun v949 H locs h948 HX950 => ?_)
  have hC_v949 := h948.1.2
  have h_draft := h948.1.1
  refine lv_aload_n hx hb dX6_ask_11 rfl (lv_at hl 0 rfl) ?_
  refine lv_aload_n hx hb dX6_ask_12 rfl (lv_at hl 0 rfl) ?_
  refine fa_getr (k := 0) (j := 1) CX HX950 fl_X6_10 (by omega) rfl rfl (fa_CI.A hC_v949).1 dX6_ask_13 ?_
  refine lv_iload_n hx hb dX6_ask_16 rfl (lv_at hl 1 rfl) ?_
  refine fa_callViu (As := [.int (a1)]) (rest := [.ref (fa_B G + (0))]) CX HX950 (g_askFor l G n hn v949 r 1 (by decide) (fa_CI.S hC_v949 1 (by decide)).1 (fa_CI.S hC_v949 1 (by decide)).2 (a1) ) ln_X6_45 (fa_lt (by decide) 0 (by decide) hn) (fa_s0 (by decide)) rfl rfl rfl (Nat.le_of_ble_eq_true rfl) hl.1 ⟨Nat.le_of_ble_eq_true rfl, Nat.le_of_ble_eq_true rfl⟩ ⟨Nat.le_refl _, Nat.le_refl _⟩ dX6_ask_17 (fun x952 v953 H locs h951 HX954 => ?_)
  have h_askFor := h951.1
  have hIS_v953 : fa_IS v953 1 := h951.1.2
  have hC_v953 : fa_CI v953 r := fa_CI.st hC_v949 (by decide) hIS_v953 (fa_CI.S hC_v949 1 (by decide)).1 (fa_fr.wide h951.2 (by omega) (by omega)) (fun _ _ => rfl)
  refine fa_callVi (As := [.int (x952)]) (rest := []) CX HX954 (g_recorded l G n hn v953 r hC_v953 (x952)) ln_X6_41 (by omega) rfl rfl rfl rfl (Nat.le_of_ble_eq_true rfl) hl.1 ⟨Nat.le_of_ble_eq_true rfl, Nat.le_of_ble_eq_true rfl⟩ ⟨Nat.le_refl _, Nat.le_refl _⟩ dX6_ask_20 (fun x956 v957 r958 H locs h955 HX959 => ?_)
  dsimp only at h955
  have hC_v957 := h955.2.1
  have h_recorded := h955.1
  exact RET _ _ _ _ _ _ _ HX959 dX6_ask_23 (⟨(fun A H hV => fb_face hC hV h_draft h951.2 (fun _ _ => rfl) (fun hc => h_askFor.1 A hV.1 hc) (hV.1.ask a1) h_recorded), hC_v957, (fa_fr.tr (fa_fr.tr (fa_fr.tr fa_fr.rf (fa_fr.wide h948.2 (by omega) (by omega))) (fa_fr.wide h951.2 (by omega) (by omega))) (fa_fr.wide h955.2.2.1 (by omega) (by omega))), (fun k hk => ((h955.2.2.2 k hk).trans rfl))⟩)
set_option maxHeartbeats 4000000 in
set_option maxRecDepth 100000 in
theorem g_seal (l : Launch) (G : fa_G) (n : Nat) (hn : 397 ≤ n) (v : fa_V) (r : fa_R) (hC : fa_CI v r) (a1 : Int32) (a2 : Int32) (a3 : Int32) : fa_MI l G n yX6_seal cX6_seal 4 (some .int) 6 [.ref (fa_B G + (0)), .int (a1), .int (a2), .int (a3)] v r (fun x w => (∀ A H, fb_CV v r A H → x = (fb_sealA A a1 a2 a3).1 ∧ fb_CV w.1 w.2 (fb_sealA A a1 a2 a3).2 (fb_rec H A (fb_sealA A a1 a2 a3).1)) ∧ (fa_CI w.1 w.2) ∧ (fa_fr 1 395 v w.1) ∧ (∀ k, 395 ≤ k → w.2 k = r k)) := by
  refine fa_startI (by decide +kernel) (Nat.le_of_ble_eq_true rfl) (fun p e s m args below meth c ls Q CX hl HX RET => ?_)
  have hl : lv_has ls 4 [(0, .ref (fa_B G + (0))), (1, .int (a1)), (2, .int (a2)), (3, .int (a3))] := hl
  have hx := CX.1.1
  have hb := CX.1.2.1
  have hB : (1 : Nat) ∈ fa_bs := by decide
  refine lv_aload_n hx hb dX6_seal_0 rfl (lv_at hl 0 rfl) ?_
  refine fa_getr (k := 0) (j := 113) CX HX fl_X6_22 (by omega) rfl rfl (fa_CI.A hC).2.2.1 dX6_seal_1 ?_
  refine lv_aload_n hx hb dX6_seal_4 rfl (lv_at hl 0 rfl) ?_
  refine fa_getr (k := 0) (j := 1) CX HX fl_X6_10 (by omega) rfl rfl (fa_CI.A hC).1 dX6_seal_5 ?_
  refine fa_callVvu (As := [.ref (fa_B G + (1))]) (rest := []) CX HX (g_draft l G n hn v r hC ) ln_X6_33 (by omega) rfl rfl rfl rfl (Nat.le_of_ble_eq_true rfl) hl.1 ⟨Nat.le_of_ble_eq_true rfl, Nat.le_of_ble_eq_true rfl⟩ ⟨Nat.le_refl _, Nat.le_refl _⟩ dX6_seal_8 (fun v961 H locs h960 HX962 => ?_)
  have hC_v961 := h960.1.2
  have h_draft := h960.1.1
  refine lv_aload_n hx hb dX6_seal_11 rfl (lv_at hl 0 rfl) ?_
  refine lv_aload_n hx hb dX6_seal_12 rfl (lv_at hl 0 rfl) ?_
  refine fa_getr (k := 0) (j := 1) CX HX962 fl_X6_10 (by omega) rfl rfl (fa_CI.A hC_v961).1 dX6_seal_13 ?_
  refine lv_iload_n hx hb dX6_seal_16 rfl (lv_at hl 1 rfl) ?_
  refine lv_iload_n hx hb dX6_seal_17 rfl (lv_at hl 2 rfl) ?_
  refine lv_iload_n hx hb dX6_seal_18 rfl (lv_at hl 3 rfl) ?_
  refine fa_callViu (As := [.int (a1), .int (a2), .int (a3)]) (rest := [.ref (fa_B G + (0))]) CX HX962 (g_putSeal l G n hn v961 r 1 (by decide) (fa_CI.S hC_v961 1 (by decide)).1 (fa_CI.S hC_v961 1 (by decide)).2 (a1) (a2) (a3) ) ln_X6_48 (fa_lt (by decide) 0 (by decide) hn) (fa_s0 (by decide)) rfl rfl rfl (Nat.le_of_ble_eq_true rfl) hl.1 ⟨Nat.le_of_ble_eq_true rfl, Nat.le_of_ble_eq_true rfl⟩ ⟨Nat.le_refl _, Nat.le_refl _⟩ dX6_seal_19 (fun x964 v965 H locs h963 HX966 => ?_)
  have h_putSeal := h963.1
  have hIS_v965 : fa_IS v965 1 := h963.1.2
  have hC_v965 : fa_CI v965 r := fa_CI.st hC_v961 (by decide) hIS_v965 (fa_CI.S hC_v961 1 (by decide)).1 (fa_fr.wide h963.2 (by omega) (by omega)) (fun _ _ => rfl)
  refine fa_callVi (As := [.int (x964)]) (rest := []) CX HX966 (g_recorded l G n hn v965 r hC_v965 (x964)) ln_X6_41 (by omega) rfl rfl rfl rfl (Nat.le_of_ble_eq_true rfl) hl.1 ⟨Nat.le_of_ble_eq_true rfl, Nat.le_of_ble_eq_true rfl⟩ ⟨Nat.le_refl _, Nat.le_refl _⟩ dX6_seal_22 (fun x968 v969 r970 H locs h967 HX971 => ?_)
  dsimp only at h967
  have hC_v969 := h967.2.1
  have h_recorded := h967.1
  exact RET _ _ _ _ _ _ _ HX971 dX6_seal_25 (⟨(fun A H hV => fb_face hC hV h_draft h963.2 (fun _ _ => rfl) (fun hc => h_putSeal.1 A hV.1 hc) (hV.1.sealA a1 a2 a3) h_recorded), hC_v969, (fa_fr.tr (fa_fr.tr (fa_fr.tr fa_fr.rf (fa_fr.wide h960.2 (by omega) (by omega))) (fa_fr.wide h963.2 (by omega) (by omega))) (fa_fr.wide h967.2.2.1 (by omega) (by omega))), (fun k hk => ((h967.2.2.2 k hk).trans rfl))⟩)
set_option maxHeartbeats 4000000 in
set_option maxRecDepth 100000 in
theorem g_lift (l : Launch) (G : fa_G) (n : Nat) (hn : 397 ≤ n) (v : fa_V) (r : fa_R) (hC : fa_CI v r) (a1 : Int32) (a2 : Int32) : fa_MI l G n yX6_lift cX6_lift 3 (some .int) 6 [.ref (fa_B G + (0)), .int (a1), .int (a2)] v r (fun x w => (∀ A H, fb_CV v r A H → x = (fb_liftA A a1 a2).1 ∧ fb_CV w.1 w.2 (fb_liftA A a1 a2).2 (fb_rec H A (fb_liftA A a1 a2).1)) ∧ (fa_CI w.1 w.2) ∧ (fa_fr 1 395 v w.1) ∧ (∀ k, 395 ≤ k → w.2 k = r k)) := by
  refine fa_startI (by decide +kernel) (Nat.le_of_ble_eq_true rfl) (fun p e s m args below meth c ls Q CX hl HX RET => ?_)
  have hl : lv_has ls 3 [(0, .ref (fa_B G + (0))), (1, .int (a1)), (2, .int (a2))] := hl
  have hx := CX.1.1
  have hb := CX.1.2.1
  have hB : (1 : Nat) ∈ fa_bs := by decide
  refine lv_aload_n hx hb dX6_lift_0 rfl (lv_at hl 0 rfl) ?_
  refine fa_getr (k := 0) (j := 113) CX HX fl_X6_22 (by omega) rfl rfl (fa_CI.A hC).2.2.1 dX6_lift_1 ?_
  refine lv_aload_n hx hb dX6_lift_4 rfl (lv_at hl 0 rfl) ?_
  refine fa_getr (k := 0) (j := 1) CX HX fl_X6_10 (by omega) rfl rfl (fa_CI.A hC).1 dX6_lift_5 ?_
  refine fa_callVvu (As := [.ref (fa_B G + (1))]) (rest := []) CX HX (g_draft l G n hn v r hC ) ln_X6_33 (by omega) rfl rfl rfl rfl (Nat.le_of_ble_eq_true rfl) hl.1 ⟨Nat.le_of_ble_eq_true rfl, Nat.le_of_ble_eq_true rfl⟩ ⟨Nat.le_refl _, Nat.le_refl _⟩ dX6_lift_8 (fun v973 H locs h972 HX974 => ?_)
  have hC_v973 := h972.1.2
  have h_draft := h972.1.1
  refine lv_aload_n hx hb dX6_lift_11 rfl (lv_at hl 0 rfl) ?_
  refine lv_aload_n hx hb dX6_lift_12 rfl (lv_at hl 0 rfl) ?_
  refine fa_getr (k := 0) (j := 1) CX HX974 fl_X6_10 (by omega) rfl rfl (fa_CI.A hC_v973).1 dX6_lift_13 ?_
  refine lv_iload_n hx hb dX6_lift_16 rfl (lv_at hl 1 rfl) ?_
  refine lv_iload_n hx hb dX6_lift_17 rfl (lv_at hl 2 rfl) ?_
  refine fa_callViu (As := [.int (a1), .int (a2)]) (rest := [.ref (fa_B G + (0))]) CX HX974 (g_takeSeal l G n hn v973 r 1 (by decide) (fa_CI.S hC_v973 1 (by decide)).1 (fa_CI.S hC_v973 1 (by decide)).2 (a1) (a2) ) ln_X6_52 (fa_lt (by decide) 0 (by decide) hn) (fa_s0 (by decide)) rfl rfl rfl (Nat.le_of_ble_eq_true rfl) hl.1 ⟨Nat.le_of_ble_eq_true rfl, Nat.le_of_ble_eq_true rfl⟩ ⟨Nat.le_refl _, Nat.le_refl _⟩ dX6_lift_18 (fun x976 v977 H locs h975 HX978 => ?_)
  have h_takeSeal := h975.1
  have hIS_v977 : fa_IS v977 1 := h975.1.2
  have hC_v977 : fa_CI v977 r := fa_CI.st hC_v973 (by decide) hIS_v977 (fa_CI.S hC_v973 1 (by decide)).1 (fa_fr.wide h975.2 (by omega) (by omega)) (fun _ _ => rfl)
  refine fa_callVi (As := [.int (x976)]) (rest := []) CX HX978 (g_recorded l G n hn v977 r hC_v977 (x976)) ln_X6_41 (by omega) rfl rfl rfl rfl (Nat.le_of_ble_eq_true rfl) hl.1 ⟨Nat.le_of_ble_eq_true rfl, Nat.le_of_ble_eq_true rfl⟩ ⟨Nat.le_refl _, Nat.le_refl _⟩ dX6_lift_21 (fun x980 v981 r982 H locs h979 HX983 => ?_)
  dsimp only at h979
  have hC_v981 := h979.2.1
  have h_recorded := h979.1
  exact RET _ _ _ _ _ _ _ HX983 dX6_lift_24 (⟨(fun A H hV => fb_face hC hV h_draft h975.2 (fun _ _ => rfl) (fun hc => h_takeSeal.1 A hV.1 hc) (hV.1.liftA a1 a2) h_recorded), hC_v981, (fa_fr.tr (fa_fr.tr (fa_fr.tr fa_fr.rf (fa_fr.wide h972.2 (by omega) (by omega))) (fa_fr.wide h975.2 (by omega) (by omega))) (fa_fr.wide h979.2.2.1 (by omega) (by omega))), (fun k hk => ((h979.2.2.2 k hk).trans rfl))⟩)
set_option maxHeartbeats 4000000 in
set_option maxRecDepth 100000 in
theorem g_refer (l : Launch) (G : fa_G) (n : Nat) (hn : 397 ≤ n) (v : fa_V) (r : fa_R) (hC : fa_CI v r) (a1 : Int32) (a2 : Int32) : fa_MI l G n yX6_refer cX6_refer 3 (some .int) 6 [.ref (fa_B G + (0)), .int (a1), .int (a2)] v r (fun x w => (∀ A H, fb_CV v r A H → x = (fb_refA A a1 a2).1 ∧ fb_CV w.1 w.2 (fb_refA A a1 a2).2 (fb_rec H A (fb_refA A a1 a2).1)) ∧ (fa_CI w.1 w.2) ∧ (fa_fr 1 395 v w.1) ∧ (∀ k, 395 ≤ k → w.2 k = r k)) := by
  refine fa_startI (by decide +kernel) (Nat.le_of_ble_eq_true rfl) (fun p e s m args below meth c ls Q CX hl HX RET => ?_)
  have hl : lv_has ls 3 [(0, .ref (fa_B G + (0))), (1, .int (a1)), (2, .int (a2))] := hl
  have hx := CX.1.1
  have hb := CX.1.2.1
  have hB : (1 : Nat) ∈ fa_bs := by decide
  refine lv_aload_n hx hb dX6_refer_0 rfl (lv_at hl 0 rfl) ?_
  refine fa_getr (k := 0) (j := 113) CX HX fl_X6_22 (by omega) rfl rfl (fa_CI.A hC).2.2.1 dX6_refer_1 ?_
  refine lv_aload_n hx hb dX6_refer_4 rfl (lv_at hl 0 rfl) ?_
  refine fa_getr (k := 0) (j := 1) CX HX fl_X6_10 (by omega) rfl rfl (fa_CI.A hC).1 dX6_refer_5 ?_
  refine fa_callVvu (As := [.ref (fa_B G + (1))]) (rest := []) CX HX (g_draft l G n hn v r hC ) ln_X6_33 (by omega) rfl rfl rfl rfl (Nat.le_of_ble_eq_true rfl) hl.1 ⟨Nat.le_of_ble_eq_true rfl, Nat.le_of_ble_eq_true rfl⟩ ⟨Nat.le_refl _, Nat.le_refl _⟩ dX6_refer_8 (fun v985 H locs h984 HX986 => ?_)
  have hC_v985 := h984.1.2
  have h_draft := h984.1.1
  refine lv_aload_n hx hb dX6_refer_11 rfl (lv_at hl 0 rfl) ?_
  refine lv_aload_n hx hb dX6_refer_12 rfl (lv_at hl 0 rfl) ?_
  refine fa_getr (k := 0) (j := 1) CX HX986 fl_X6_10 (by omega) rfl rfl (fa_CI.A hC_v985).1 dX6_refer_13 ?_
  refine lv_iload_n hx hb dX6_refer_16 rfl (lv_at hl 1 rfl) ?_
  refine lv_iload_n hx hb dX6_refer_17 rfl (lv_at hl 2 rfl) ?_
  refine fa_callViu (As := [.int (a1), .int (a2)]) (rest := [.ref (fa_B G + (0))]) CX HX986 (g_putReference l G n hn v985 r 1 (by decide) (fa_CI.S hC_v985 1 (by decide)).1 (fa_CI.S hC_v985 1 (by decide)).2 (a1) (a2) ) ln_X6_55 (fa_lt (by decide) 0 (by decide) hn) (fa_s0 (by decide)) rfl rfl rfl (Nat.le_of_ble_eq_true rfl) hl.1 ⟨Nat.le_of_ble_eq_true rfl, Nat.le_of_ble_eq_true rfl⟩ ⟨Nat.le_refl _, Nat.le_refl _⟩ dX6_refer_18 (fun x988 v989 H locs h987 HX990 => ?_)
  have h_putReference := h987.1
  have hIS_v989 : fa_IS v989 1 := h987.1.2
  have hC_v989 : fa_CI v989 r := fa_CI.st hC_v985 (by decide) hIS_v989 (fa_CI.S hC_v985 1 (by decide)).1 (fa_fr.wide h987.2 (by omega) (by omega)) (fun _ _ => rfl)
  refine fa_callVi (As := [.int (x988)]) (rest := []) CX HX990 (g_recorded l G n hn v989 r hC_v989 (x988)) ln_X6_41 (by omega) rfl rfl rfl rfl (Nat.le_of_ble_eq_true rfl) hl.1 ⟨Nat.le_of_ble_eq_true rfl, Nat.le_of_ble_eq_true rfl⟩ ⟨Nat.le_refl _, Nat.le_refl _⟩ dX6_refer_21 (fun x992 v993 r994 H locs h991 HX995 => ?_)
  dsimp only at h991
  have hC_v993 := h991.2.1
  have h_recorded := h991.1
  exact RET _ _ _ _ _ _ _ HX995 dX6_refer_24 (⟨(fun A H hV => fb_face hC hV h_draft h987.2 (fun _ _ => rfl) (fun hc => h_putReference.1 A hV.1 hc) (hV.1.refA a1 a2) h_recorded), hC_v993, (fa_fr.tr (fa_fr.tr (fa_fr.tr fa_fr.rf (fa_fr.wide h984.2 (by omega) (by omega))) (fa_fr.wide h987.2 (by omega) (by omega))) (fa_fr.wide h991.2.2.1 (by omega) (by omega))), (fun k hk => ((h991.2.2.2 k hk).trans rfl))⟩)
set_option maxHeartbeats 4000000 in
set_option maxRecDepth 100000 in
theorem g_reserve (l : Launch) (G : fa_G) (n : Nat) (hn : 397 ≤ n) (v : fa_V) (r : fa_R) (hC : fa_CI v r) (a1 : Int32) (a2 : Int32) : fa_MI l G n yX6_reserve cX6_reserve 3 (some .int) 6 [.ref (fa_B G + (0)), .int (a1), .int (a2)] v r (fun x w => (∀ A H, fb_CV v r A H → x = (fb_resA A a1 a2).1 ∧ fb_CV w.1 w.2 (fb_resA A a1 a2).2 (fb_rec H A (fb_resA A a1 a2).1)) ∧ (fa_CI w.1 w.2) ∧ (fa_fr 1 395 v w.1) ∧ (∀ k, 395 ≤ k → w.2 k = r k)) := by
  refine fa_startI (by decide +kernel) (Nat.le_of_ble_eq_true rfl) (fun p e s m args below meth c ls Q CX hl HX RET => ?_)
  have hl : lv_has ls 3 [(0, .ref (fa_B G + (0))), (1, .int (a1)), (2, .int (a2))] := hl
  have hx := CX.1.1
  have hb := CX.1.2.1
  have hB : (1 : Nat) ∈ fa_bs := by decide
  refine lv_aload_n hx hb dX6_reserve_0 rfl (lv_at hl 0 rfl) ?_
  refine fa_getr (k := 0) (j := 113) CX HX fl_X6_22 (by omega) rfl rfl (fa_CI.A hC).2.2.1 dX6_reserve_1 ?_
  refine lv_aload_n hx hb dX6_reserve_4 rfl (lv_at hl 0 rfl) ?_
  refine fa_getr (k := 0) (j := 1) CX HX fl_X6_10 (by omega) rfl rfl (fa_CI.A hC).1 dX6_reserve_5 ?_
  refine fa_callVvu (As := [.ref (fa_B G + (1))]) (rest := []) CX HX (g_draft l G n hn v r hC ) ln_X6_33 (by omega) rfl rfl rfl rfl (Nat.le_of_ble_eq_true rfl) hl.1 ⟨Nat.le_of_ble_eq_true rfl, Nat.le_of_ble_eq_true rfl⟩ ⟨Nat.le_refl _, Nat.le_refl _⟩ dX6_reserve_8 (fun v997 H locs h996 HX998 => ?_)
  have hC_v997 := h996.1.2
  have h_draft := h996.1.1
  refine lv_aload_n hx hb dX6_reserve_11 rfl (lv_at hl 0 rfl) ?_
  refine lv_aload_n hx hb dX6_reserve_12 rfl (lv_at hl 0 rfl) ?_
  refine fa_getr (k := 0) (j := 1) CX HX998 fl_X6_10 (by omega) rfl rfl (fa_CI.A hC_v997).1 dX6_reserve_13 ?_
  refine lv_iload_n hx hb dX6_reserve_16 rfl (lv_at hl 1 rfl) ?_
  refine lv_iload_n hx hb dX6_reserve_17 rfl (lv_at hl 2 rfl) ?_
  refine fa_callViu (As := [.int (a1), .int (a2)]) (rest := [.ref (fa_B G + (0))]) CX HX998 (g_putReservation l G n hn v997 r 1 (by decide) (fa_CI.S hC_v997 1 (by decide)).1 (fa_CI.S hC_v997 1 (by decide)).2 (a1) (a2) ) ln_X6_58 (fa_lt (by decide) 0 (by decide) hn) (fa_s0 (by decide)) rfl rfl rfl (Nat.le_of_ble_eq_true rfl) hl.1 ⟨Nat.le_of_ble_eq_true rfl, Nat.le_of_ble_eq_true rfl⟩ ⟨Nat.le_refl _, Nat.le_refl _⟩ dX6_reserve_18 (fun x1000 v1001 H locs h999 HX1002 => ?_)
  have h_putReservation := h999.1
  have hIS_v1001 : fa_IS v1001 1 := h999.1.2
  have hC_v1001 : fa_CI v1001 r := fa_CI.st hC_v997 (by decide) hIS_v1001 (fa_CI.S hC_v997 1 (by decide)).1 (fa_fr.wide h999.2 (by omega) (by omega)) (fun _ _ => rfl)
  refine fa_callVi (As := [.int (x1000)]) (rest := []) CX HX1002 (g_recorded l G n hn v1001 r hC_v1001 (x1000)) ln_X6_41 (by omega) rfl rfl rfl rfl (Nat.le_of_ble_eq_true rfl) hl.1 ⟨Nat.le_of_ble_eq_true rfl, Nat.le_of_ble_eq_true rfl⟩ ⟨Nat.le_refl _, Nat.le_refl _⟩ dX6_reserve_21 (fun x1004 v1005 r1006 H locs h1003 HX1007 => ?_)
  dsimp only at h1003
  have hC_v1005 := h1003.2.1
  have h_recorded := h1003.1
  exact RET _ _ _ _ _ _ _ HX1007 dX6_reserve_24 (⟨(fun A H hV => fb_face hC hV h_draft h999.2 (fun _ _ => rfl) (fun hc => h_putReservation.1 A hV.1 hc) (hV.1.resA a1 a2) h_recorded), hC_v1005, (fa_fr.tr (fa_fr.tr (fa_fr.tr fa_fr.rf (fa_fr.wide h996.2 (by omega) (by omega))) (fa_fr.wide h999.2 (by omega) (by omega))) (fa_fr.wide h1003.2.2.1 (by omega) (by omega))), (fun k hk => ((h1003.2.2.2 k hk).trans rfl))⟩)
set_option maxHeartbeats 4000000 in
set_option maxRecDepth 100000 in
theorem g_cancel (l : Launch) (G : fa_G) (n : Nat) (hn : 397 ≤ n) (v : fa_V) (r : fa_R) (hC : fa_CI v r) (a1 : Int32) (a2 : Int32) : fa_MI l G n yX6_cancel cX6_cancel 3 (some .int) 6 [.ref (fa_B G + (0)), .int (a1), .int (a2)] v r (fun x w => (∀ A H, fb_CV v r A H → x = (fb_canA A a1 a2).1 ∧ fb_CV w.1 w.2 (fb_canA A a1 a2).2 (fb_rec H A (fb_canA A a1 a2).1)) ∧ (fa_CI w.1 w.2) ∧ (fa_fr 1 395 v w.1) ∧ (∀ k, 395 ≤ k → w.2 k = r k)) := by
  refine fa_startI (by decide +kernel) (Nat.le_of_ble_eq_true rfl) (fun p e s m args below meth c ls Q CX hl HX RET => ?_)
  have hl : lv_has ls 3 [(0, .ref (fa_B G + (0))), (1, .int (a1)), (2, .int (a2))] := hl
  have hx := CX.1.1
  have hb := CX.1.2.1
  have hB : (1 : Nat) ∈ fa_bs := by decide
  refine lv_aload_n hx hb dX6_cancel_0 rfl (lv_at hl 0 rfl) ?_
  refine fa_getr (k := 0) (j := 113) CX HX fl_X6_22 (by omega) rfl rfl (fa_CI.A hC).2.2.1 dX6_cancel_1 ?_
  refine lv_aload_n hx hb dX6_cancel_4 rfl (lv_at hl 0 rfl) ?_
  refine fa_getr (k := 0) (j := 1) CX HX fl_X6_10 (by omega) rfl rfl (fa_CI.A hC).1 dX6_cancel_5 ?_
  refine fa_callVvu (As := [.ref (fa_B G + (1))]) (rest := []) CX HX (g_draft l G n hn v r hC ) ln_X6_33 (by omega) rfl rfl rfl rfl (Nat.le_of_ble_eq_true rfl) hl.1 ⟨Nat.le_of_ble_eq_true rfl, Nat.le_of_ble_eq_true rfl⟩ ⟨Nat.le_refl _, Nat.le_refl _⟩ dX6_cancel_8 (fun v1009 H locs h1008 HX1010 => ?_)
  have hC_v1009 := h1008.1.2
  have h_draft := h1008.1.1
  refine lv_aload_n hx hb dX6_cancel_11 rfl (lv_at hl 0 rfl) ?_
  refine lv_aload_n hx hb dX6_cancel_12 rfl (lv_at hl 0 rfl) ?_
  refine fa_getr (k := 0) (j := 1) CX HX1010 fl_X6_10 (by omega) rfl rfl (fa_CI.A hC_v1009).1 dX6_cancel_13 ?_
  refine lv_iload_n hx hb dX6_cancel_16 rfl (lv_at hl 1 rfl) ?_
  refine lv_iload_n hx hb dX6_cancel_17 rfl (lv_at hl 2 rfl) ?_
  refine fa_callViu (As := [.int (a1), .int (a2)]) (rest := [.ref (fa_B G + (0))]) CX HX1010 (g_takeReservation l G n hn v1009 r 1 (by decide) (fa_CI.S hC_v1009 1 (by decide)).1 (fa_CI.S hC_v1009 1 (by decide)).2 (a1) (a2) ) ln_X6_61 (fa_lt (by decide) 0 (by decide) hn) (fa_s0 (by decide)) rfl rfl rfl (Nat.le_of_ble_eq_true rfl) hl.1 ⟨Nat.le_of_ble_eq_true rfl, Nat.le_of_ble_eq_true rfl⟩ ⟨Nat.le_refl _, Nat.le_refl _⟩ dX6_cancel_18 (fun x1012 v1013 H locs h1011 HX1014 => ?_)
  have h_takeReservation := h1011.1
  have hIS_v1013 : fa_IS v1013 1 := h1011.1.2
  have hC_v1013 : fa_CI v1013 r := fa_CI.st hC_v1009 (by decide) hIS_v1013 (fa_CI.S hC_v1009 1 (by decide)).1 (fa_fr.wide h1011.2 (by omega) (by omega)) (fun _ _ => rfl)
  refine fa_callVi (As := [.int (x1012)]) (rest := []) CX HX1014 (g_recorded l G n hn v1013 r hC_v1013 (x1012)) ln_X6_41 (by omega) rfl rfl rfl rfl (Nat.le_of_ble_eq_true rfl) hl.1 ⟨Nat.le_of_ble_eq_true rfl, Nat.le_of_ble_eq_true rfl⟩ ⟨Nat.le_refl _, Nat.le_refl _⟩ dX6_cancel_21 (fun x1016 v1017 r1018 H locs h1015 HX1019 => ?_)
  dsimp only at h1015
  have hC_v1017 := h1015.2.1
  have h_recorded := h1015.1
  exact RET _ _ _ _ _ _ _ HX1019 dX6_cancel_24 (⟨(fun A H hV => fb_face hC hV h_draft h1011.2 (fun _ _ => rfl) (fun hc => h_takeReservation.1 A hV.1 hc) (hV.1.canA a1 a2) h_recorded), hC_v1017, (fa_fr.tr (fa_fr.tr (fa_fr.tr fa_fr.rf (fa_fr.wide h1008.2 (by omega) (by omega))) (fa_fr.wide h1011.2 (by omega) (by omega))) (fa_fr.wide h1015.2.2.1 (by omega) (by omega))), (fun k hk => ((h1015.2.2.2 k hk).trans rfl))⟩)
set_option maxHeartbeats 4000000 in
set_option maxRecDepth 100000 in
theorem g_pass (l : Launch) (G : fa_G) (n : Nat) (hn : 397 ≤ n) (v : fa_V) (r : fa_R) (hC : fa_CI v r) (a1 : Int32) : fa_MI l G n yX6_pass cX6_pass 2 (some .int) 8 [.ref (fa_B G + (0)), .int (a1)] v r (fun x w => (∀ A H, fb_CV v r A H → x = (fb_passA A a1).1 ∧ fb_CV w.1 w.2 (fb_passA A a1).2 (fb_rec H A (fb_passA A a1).1)) ∧ (fa_CI w.1 w.2) ∧ (fa_fr 1 395 v w.1) ∧ (∀ k, 395 ≤ k → w.2 k = r k)) := by
  refine fa_startI (by decide +kernel) (Nat.le_of_ble_eq_true rfl) (fun p e s m args below meth c ls Q CX hl HX RET => ?_)
  have hl : lv_has ls 2 [(0, .ref (fa_B G + (0))), (1, .int (a1))] := hl
  have hx := CX.1.1
  have hb := CX.1.2.1
  have hB : (1 : Nat) ∈ fa_bs := by decide
  refine lv_aload_n hx hb dX6_pass_0 rfl (lv_at hl 0 rfl) ?_
  refine fa_getr (k := 0) (j := 113) CX HX fl_X6_22 (by omega) rfl rfl (fa_CI.A hC).2.2.1 dX6_pass_1 ?_
  refine lv_aload_n hx hb dX6_pass_4 rfl (lv_at hl 0 rfl) ?_
  refine fa_getr (k := 0) (j := 1) CX HX fl_X6_10 (by omega) rfl rfl (fa_CI.A hC).1 dX6_pass_5 ?_
  refine fa_callVvu (As := [.ref (fa_B G + (1))]) (rest := []) CX HX (g_draft l G n hn v r hC ) ln_X6_33 (by omega) rfl rfl rfl rfl (Nat.le_of_ble_eq_true rfl) hl.1 ⟨Nat.le_of_ble_eq_true rfl, Nat.le_of_ble_eq_true rfl⟩ ⟨Nat.le_refl _, Nat.le_refl _⟩ dX6_pass_8 (fun v1021 H locs h1020 HX1022 => ?_)
  have hC_v1021 := h1020.1.2
  have h_draft := h1020.1.1
  refine lv_aload_n hx hb dX6_pass_11 rfl (lv_at hl 0 rfl) ?_
  refine lv_aload_n hx hb dX6_pass_12 rfl (lv_at hl 0 rfl) ?_
  refine fa_getr (k := 0) (j := 1) CX HX1022 fl_X6_10 (by omega) rfl rfl (fa_CI.A hC_v1021).1 dX6_pass_13 ?_
  refine lv_iload_n hx hb dX6_pass_16 rfl (lv_at hl 1 rfl) ?_
  refine fa_callVi (As := [.int (a1)]) (rest := [.ref (fa_B G + (0))]) CX HX1022 (g_passDays l G n hn v1021 r 1 (by decide) (fa_CI.S hC_v1021 1 (by decide)).1 (fa_CI.S hC_v1021 1 (by decide)).2 (a1) ) ln_X6_64 (fa_lt (by decide) 0 (by decide) hn) (fa_s0 (by decide)) rfl rfl rfl (Nat.le_of_ble_eq_true rfl) hl.1 ⟨Nat.le_of_ble_eq_true rfl, Nat.le_of_ble_eq_true rfl⟩ ⟨Nat.le_refl _, Nat.le_refl _⟩ dX6_pass_17 (fun x1024 v1025 r1026 H locs h1023 HX1027 => ?_)
  dsimp only at h1023
  have hIS_v1025 := h1023.2.1
  have hr1_r1026 := h1023.2.2.1
  have hrr_r1026 := h1023.2.2.2.2
  have h_passDays := h1023.1
  have hC_v1025 : fa_CI v1025 r1026 := fa_CI.st hC_v1021 (by decide) hIS_v1025 hr1_r1026 (fa_fr.wide h1023.2.2.2.1 (by omega) (by omega)) h1023.2.2.2.2
  refine fa_callVi (As := [.int (x1024)]) (rest := []) CX HX1027 (g_recorded l G n hn v1025 r1026 hC_v1025 (x1024)) ln_X6_41 (by omega) rfl rfl rfl rfl (Nat.le_of_ble_eq_true rfl) hl.1 ⟨Nat.le_of_ble_eq_true rfl, Nat.le_of_ble_eq_true rfl⟩ ⟨Nat.le_refl _, Nat.le_refl _⟩ dX6_pass_20 (fun x1029 v1030 r1031 H locs h1028 HX1032 => ?_)
  dsimp only at h1028
  have hC_v1030 := h1028.2.1
  have h_recorded := h1028.1
  exact RET _ _ _ _ _ _ _ HX1032 dX6_pass_23 (⟨(fun A H hV => fb_face hC hV h_draft h1023.2.2.2.1 (fun k hk => h1023.2.2.2.2 k (by omega)) (fun hc => h_passDays A hV.1 hc) (hV.1.passA a1) h_recorded), hC_v1030, (fa_fr.tr (fa_fr.tr (fa_fr.tr fa_fr.rf (fa_fr.wide h1020.2 (by omega) (by omega))) (fa_fr.wide h1023.2.2.2.1 (by omega) (by omega))) (fa_fr.wide h1028.2.2.1 (by omega) (by omega))), (fun k hk => ((h1028.2.2.2 k hk).trans ((h1023.2.2.2.2 k (by omega)).trans rfl)))⟩)
set_option maxHeartbeats 4000000 in
set_option maxRecDepth 100000 in
theorem g_set (l : Launch) (G : fa_G) (n : Nat) (hn : 397 ≤ n) (v : fa_V) (r : fa_R) (hC : fa_CI v r) (a1 : Int32) (a2 : Int32) : fa_MI l G n yX6_set cX6_set 3 (some .int) 6 [.ref (fa_B G + (0)), .int (a1), .int (a2)] v r (fun x w => (∀ A H, fb_CV v r A H → x = (fb_setA A a1 a2).1 ∧ fb_CV w.1 w.2 (fb_setA A a1 a2).2 (fb_rec H A (fb_setA A a1 a2).1)) ∧ (fa_CI w.1 w.2) ∧ (fa_fr 1 395 v w.1) ∧ (∀ k, 395 ≤ k → w.2 k = r k)) := by
  refine fa_startI (by decide +kernel) (Nat.le_of_ble_eq_true rfl) (fun p e s m args below meth c ls Q CX hl HX RET => ?_)
  have hl : lv_has ls 3 [(0, .ref (fa_B G + (0))), (1, .int (a1)), (2, .int (a2))] := hl
  have hx := CX.1.1
  have hb := CX.1.2.1
  have hB : (1 : Nat) ∈ fa_bs := by decide
  refine lv_aload_n hx hb dX6_set_0 rfl (lv_at hl 0 rfl) ?_
  refine fa_getr (k := 0) (j := 113) CX HX fl_X6_22 (by omega) rfl rfl (fa_CI.A hC).2.2.1 dX6_set_1 ?_
  refine lv_aload_n hx hb dX6_set_4 rfl (lv_at hl 0 rfl) ?_
  refine fa_getr (k := 0) (j := 1) CX HX fl_X6_10 (by omega) rfl rfl (fa_CI.A hC).1 dX6_set_5 ?_
  refine fa_callVvu (As := [.ref (fa_B G + (1))]) (rest := []) CX HX (g_draft l G n hn v r hC ) ln_X6_33 (by omega) rfl rfl rfl rfl (Nat.le_of_ble_eq_true rfl) hl.1 ⟨Nat.le_of_ble_eq_true rfl, Nat.le_of_ble_eq_true rfl⟩ ⟨Nat.le_refl _, Nat.le_refl _⟩ dX6_set_8 (fun v1034 H locs h1033 HX1035 => ?_)
  have hC_v1034 := h1033.1.2
  have h_draft := h1033.1.1
  refine lv_aload_n hx hb dX6_set_11 rfl (lv_at hl 0 rfl) ?_
  refine lv_aload_n hx hb dX6_set_12 rfl (lv_at hl 0 rfl) ?_
  refine fa_getr (k := 0) (j := 1) CX HX1035 fl_X6_10 (by omega) rfl rfl (fa_CI.A hC_v1034).1 dX6_set_13 ?_
  refine lv_iload_n hx hb dX6_set_16 rfl (lv_at hl 1 rfl) ?_
  refine lv_iload_n hx hb dX6_set_17 rfl (lv_at hl 2 rfl) ?_
  refine fa_callViu (As := [.int (a1), .int (a2)]) (rest := [.ref (fa_B G + (0))]) CX HX1035 (g_changeSetting l G n hn v1034 r 1 (by decide) (fa_CI.S hC_v1034 1 (by decide)).1 (fa_CI.S hC_v1034 1 (by decide)).2 (a1) (a2) ) ln_X6_67 (fa_lt (by decide) 0 (by decide) hn) (fa_s0 (by decide)) rfl rfl rfl (Nat.le_of_ble_eq_true rfl) hl.1 ⟨Nat.le_of_ble_eq_true rfl, Nat.le_of_ble_eq_true rfl⟩ ⟨Nat.le_refl _, Nat.le_refl _⟩ dX6_set_18 (fun x1037 v1038 H locs h1036 HX1039 => ?_)
  have h_changeSetting := h1036.1
  have hIS_v1038 : fa_IS v1038 1 := h1036.1.2
  have hC_v1038 : fa_CI v1038 r := fa_CI.st hC_v1034 (by decide) hIS_v1038 (fa_CI.S hC_v1034 1 (by decide)).1 (fa_fr.wide h1036.2 (by omega) (by omega)) (fun _ _ => rfl)
  refine fa_callVi (As := [.int (x1037)]) (rest := []) CX HX1039 (g_recorded l G n hn v1038 r hC_v1038 (x1037)) ln_X6_41 (by omega) rfl rfl rfl rfl (Nat.le_of_ble_eq_true rfl) hl.1 ⟨Nat.le_of_ble_eq_true rfl, Nat.le_of_ble_eq_true rfl⟩ ⟨Nat.le_refl _, Nat.le_refl _⟩ dX6_set_21 (fun x1041 v1042 r1043 H locs h1040 HX1044 => ?_)
  dsimp only at h1040
  have hC_v1042 := h1040.2.1
  have h_recorded := h1040.1
  exact RET _ _ _ _ _ _ _ HX1044 dX6_set_24 (⟨(fun A H hV => fb_face hC hV h_draft h1036.2 (fun _ _ => rfl) (fun hc => h_changeSetting.1 A hV.1 hc) (hV.1.setA a1 a2) h_recorded), hC_v1042, (fa_fr.tr (fa_fr.tr (fa_fr.tr fa_fr.rf (fa_fr.wide h1033.2 (by omega) (by omega))) (fa_fr.wide h1036.2 (by omega) (by omega))) (fa_fr.wide h1040.2.2.1 (by omega) (by omega))), (fun k hk => ((h1040.2.2.2 k hk).trans rfl))⟩)
