set_option maxHeartbeats 4000000 in
set_option maxRecDepth 100000 in
theorem k_X4_init (l : Launch) (G : fa_G) (k : Nat) (v : fa_V) (r : fa_R) (hz : fa_Z0 (k + 1) v r) (hs0 : fa_sh k = .inr 4) (hs1 : fa_sh (k + 1) = .inl (0, 8)) : fa_MN l G (k + 1) yX4_init cX4_init 1 1 1 8 [.ref (fa_B G + (k))] v r (fun w => w = (v, fa_u r k 7 (some (k + 1)))) := by
  refine fa_startN (by decide +kernel) (Nat.le_of_ble_eq_true rfl) (by decide +kernel) (fun p e s m args below meth c ls Q CX hl HX hsz hmn RET => ?_)
  have hl : lv_has ls 1 [(0, .ref (fa_B G + (k)))] := hl
  have hx := CX.1.1
  have hb := CX.1.2.1
  refine lv_aload_n hx hb dX4_init_0 rfl (lv_at hl 0 rfl) ?_
  refine fa_objInit CX oi_X4_3 hl.1 dX4_init_1 (Nat.le_of_ble_eq_true rfl) (Nat.le_of_ble_eq_true rfl) ?_
  refine lv_aload_n hx hb dX4_init_4 rfl (lv_at hl 0 rfl) ?_
  refine lv_bipush (v := nI (8)) hx hb dX4_init_5 (by decide) ?_
  refine fa_newa (len := 8) (t := 0) (ty := .int) CX HX aw_int rfl rfl (by decide) rfl (by decide) (by omega) hs1 (fun i => by (exact (hz (k + 1) (by omega)).1 i)) (by decide) (by show 0 + 1 ≤ 1; first | decide | omega) (by show 0 + 8 ≤ 8; first | decide | omega) dX4_init_7 (fun H HX298 => ?_)
  have HX298 : fa_HX G (k + 2) v r s _ _ := HX298
  refine W.widen (k := 1) (n := 8) (by first | exact Nat.le_refl _ | omega) (by first | exact Nat.le_refl _ | omega) ?_
  refine fa_putr (k := k) (q := k + 1) CX HX298 fl_X4_9 own_4 hmn (by omega) hs0 rfl rfl rfl dX4_init_9 (fun H locs r299 er300 HX301 => ?_)
  exact RET _ _ _ _ _ _ HX301 dX4_init_12 ((by rw [er300]))
set_option maxHeartbeats 4000000 in
set_option maxRecDepth 100000 in
theorem k_X5_init (l : Launch) (G : fa_G) (k : Nat) (v : fa_V) (r : fa_R) (hz : fa_Z0 (k + 1) v r) (hs0 : fa_sh k = .inr 5) (hs1 : fa_sh (k + 1) = .inl (0, 60)) : fa_MN l G (k + 1) yX5_init cX5_init 1 1 1 60 [.ref (fa_B G + (k))] v r (fun w => w = (v, fa_u r k 1 (some (k + 1)))) := by
  refine fa_startN (by decide +kernel) (Nat.le_of_ble_eq_true rfl) (by decide +kernel) (fun p e s m args below meth c ls Q CX hl HX hsz hmn RET => ?_)
  have hl : lv_has ls 1 [(0, .ref (fa_B G + (k)))] := hl
  have hx := CX.1.1
  have hb := CX.1.2.1
  refine lv_aload_n hx hb dX5_init_0 rfl (lv_at hl 0 rfl) ?_
  refine fa_objInit CX oi_X5_3 hl.1 dX5_init_1 (Nat.le_of_ble_eq_true rfl) (Nat.le_of_ble_eq_true rfl) ?_
  refine lv_aload_n hx hb dX5_init_4 rfl (lv_at hl 0 rfl) ?_
  refine lv_bipush (v := nI (60)) hx hb dX5_init_5 (by decide) ?_
  refine fa_newa (len := 60) (t := 0) (ty := .int) CX HX aw_int rfl rfl (by decide) rfl (by decide) (by omega) hs1 (fun i => by (exact (hz (k + 1) (by omega)).1 i)) (by decide) (by show 0 + 1 ≤ 1; first | decide | omega) (by show 0 + 60 ≤ 60; first | decide | omega) dX5_init_7 (fun H HX302 => ?_)
  have HX302 : fa_HX G (k + 2) v r s _ _ := HX302
  refine W.widen (k := 1) (n := 60) (by first | exact Nat.le_refl _ | omega) (by first | exact Nat.le_refl _ | omega) ?_
  refine fa_putr (k := k) (q := k + 1) CX HX302 fl_X5_9 own_5 hmn (by omega) hs0 rfl rfl rfl dX5_init_9 (fun H locs r303 er304 HX305 => ?_)
  exact RET _ _ _ _ _ _ HX305 dX5_init_12 ((by rw [er304]))
set_option maxHeartbeats 4000000 in
set_option maxRecDepth 100000 in
theorem k_X1_init (l : Launch) (G : fa_G) (k : Nat) (v : fa_V) (r : fa_R) (hz : fa_Z0 (k + 1) v r) (hs0 : fa_sh k = .inr 1) (hs1 : fa_sh (k + 1) = .inl (1, 60)) : fa_MN l G (k + 1) yX1_init cX1_init 1 1 1 60 [.ref (fa_B G + (k))] v r (fun w => w = (v, fa_u r k 0 (some (k + 1)))) := by
  refine fa_startN (by decide +kernel) (Nat.le_of_ble_eq_true rfl) (by decide +kernel) (fun p e s m args below meth c ls Q CX hl HX hsz hmn RET => ?_)
  have hl : lv_has ls 1 [(0, .ref (fa_B G + (k)))] := hl
  have hx := CX.1.1
  have hb := CX.1.2.1
  refine lv_aload_n hx hb dX1_init_0 rfl (lv_at hl 0 rfl) ?_
  refine fa_objInit CX oi_X1_3 hl.1 dX1_init_1 (Nat.le_of_ble_eq_true rfl) (Nat.le_of_ble_eq_true rfl) ?_
  refine lv_aload_n hx hb dX1_init_4 rfl (lv_at hl 0 rfl) ?_
  refine lv_bipush (v := nI (60)) hx hb dX1_init_5 (by decide) ?_
  refine fa_newa (len := 60) (t := 1) (ty := .char) CX HX aw_char rfl rfl (by decide) rfl (by decide) (by omega) hs1 (fun i => by (exact (hz (k + 1) (by omega)).1 i)) (by decide) (by show 0 + 1 ≤ 1; first | decide | omega) (by show 0 + 60 ≤ 60; first | decide | omega) dX1_init_7 (fun H HX306 => ?_)
  have HX306 : fa_HX G (k + 2) v r s _ _ := HX306
  refine W.widen (k := 1) (n := 60) (by first | exact Nat.le_refl _ | omega) (by first | exact Nat.le_refl _ | omega) ?_
  refine fa_putr (k := k) (q := k + 1) CX HX306 fl_X1_9 own_1 hmn (by omega) hs0 rfl rfl rfl dX1_init_9 (fun H locs r307 er308 HX309 => ?_)
  exact RET _ _ _ _ _ _ HX309 dX1_init_12 ((by rw [er308]))
set_option maxHeartbeats 4000000 in
set_option maxRecDepth 100000 in
theorem k_X2_init (l : Launch) (G : fa_G) (k : Nat) (v : fa_V) (r : fa_R) (hz : fa_Z0 (k + 1) v r) (hs0 : fa_sh k = .inr 2) (hs1 : fa_sh (k + 1) = .inl (0, 8)) (hs2 : fa_sh (k + 2) = .inl (0, 8)) : fa_MN l G (k + 1) yX2_init cX2_init 1 1 2 16 [.ref (fa_B G + (k))] v r (fun w => w = (v, fa_u (fa_u r k 1 (some (k + 1))) k 2 (some (k + 2)))) := by
  refine fa_startN (by decide +kernel) (Nat.le_of_ble_eq_true rfl) (by decide +kernel) (fun p e s m args below meth c ls Q CX hl HX hsz hmn RET => ?_)
  have hl : lv_has ls 1 [(0, .ref (fa_B G + (k)))] := hl
  have hx := CX.1.1
  have hb := CX.1.2.1
  refine lv_aload_n hx hb dX2_init_0 rfl (lv_at hl 0 rfl) ?_
  refine fa_objInit CX oi_X2_3 hl.1 dX2_init_1 (Nat.le_of_ble_eq_true rfl) (Nat.le_of_ble_eq_true rfl) ?_
  refine lv_aload_n hx hb dX2_init_4 rfl (lv_at hl 0 rfl) ?_
  refine lv_bipush (v := nI (8)) hx hb dX2_init_5 (by decide) ?_
  refine fa_newa (len := 8) (t := 0) (ty := .int) CX HX aw_int rfl rfl (by decide) rfl (by decide) (by omega) hs1 (fun i => by (exact (hz (k + 1) (by omega)).1 i)) (by decide) (by show 0 + 1 ≤ 2; first | decide | omega) (by show 0 + 8 ≤ 16; first | decide | omega) dX2_init_7 (fun H HX310 => ?_)
  have HX310 : fa_HX G (k + 2) v r s _ _ := HX310
  refine W.widen (k := 1) (n := 8) (by first | exact Nat.le_refl _ | omega) (by first | exact Nat.le_refl _ | omega) ?_
  refine fa_putr (k := k) (q := k + 1) CX HX310 fl_X2_9 own_2 hmn (by omega) hs0 rfl rfl rfl dX2_init_9 (fun H locs r311 er312 HX313 => ?_)
  refine lv_aload_n hx hb dX2_init_12 rfl (lv_at hl 0 rfl) ?_
  refine lv_bipush (v := nI (8)) hx hb dX2_init_13 (by decide) ?_
  refine fa_newa (len := 8) (t := 0) (ty := .int) CX HX313 aw_int rfl rfl (by decide) rfl (by decide) (by omega) hs2 (fun i => by (exact (hz (k + 2) (by omega)).1 i)) (by decide) (by show 1 + 1 ≤ 2; first | decide | omega) (by show 8 + 8 ≤ 16; first | decide | omega) dX2_init_15 (fun H HX314 => ?_)
  have HX314 : fa_HX G (k + 3) v r311 s _ _ := HX314
  refine W.widen (k := 2) (n := 16) (by first | exact Nat.le_refl _ | omega) (by first | exact Nat.le_refl _ | omega) ?_
  refine fa_putr (k := k) (q := k + 2) CX HX314 fl_X2_15 own_2 hmn (by omega) hs0 rfl rfl rfl dX2_init_17 (fun H locs r315 er316 HX317 => ?_)
  exact RET _ _ _ _ _ _ HX317 dX2_init_20 ((by rw [er316, er312]))
