set_option maxHeartbeats 4000000 in
set_option maxRecDepth 100000 in
theorem k_X4_init (l : Launch) (G : fa_G) (k : Nat) (v : fa_V) (r : fa_R) (hz : fa_Z0 (k + 1) v r) (hs0 : fa_sh k = .inr 4) (hs1 : fa_sh (k + 1) = .inl (0, 8)) : fa_MN l G (k + 1) yX4_init cX4_init 1 1 1 8 [.ref (fa_B G + (k))] v r (fun w => w = (v, fa_u r k 7 (some (k + 1)))) := by
  refine fa_startN (by decide +kernel) (Nat.le_of_ble_eq_true rfl) (by decide +kernel) (fun p e s m args below meth c ls Q CX hl HX hsz hmn RET => ?_)
  have hl : lv_has ls 1 [(0, .ref (fa_B G + (k)))] := hl
  have hx := CX.1.1
  have hb := CX.1.2.1
  refine lv_aload_n hx hb dX4_init_0 rfl (lv_at hl 0 rfl) ?_
  refine fa_objInit CX oi_X4_3 hl.1 dX4_init_1 (Nat.le_of_ble_eq_true rfl) (Nat.le_of_ble_eq_true rfl) ?_
  refine lv_aload_n hx hb dX4_init_4 rfl (lv_at hl 0 rfl) ?_
  refine lv_bipush (v := nI (8)) hx hb dX4_init_5 (by decide) ?_
  refine fa_newa (len := 8) (t := 0) (ty := .int) CX HX aw_int rfl rfl (by decide) rfl (by decide) (by omega) hs1 (fun i => by (exact (hz (k + 1) (by omega)).1 i)) (by decide) (by show 0 + 1 ≤ 1; first | decide | omega) (by show 0 + 8 ≤ 8; first | decide | omega) dX4_init_7 (fun H HX720 => ?_)
  have HX720 : fa_HX G (k + 2) v r s _ _ := HX720
  refine W.widen (k := 1) (n := 8) (by first | exact Nat.le_refl _ | omega) (by first | exact Nat.le_refl _ | omega) ?_
  refine fa_putr (k := k) (q := k + 1) CX HX720 fl_X4_9 own_4 hmn (by omega) hs0 rfl rfl rfl dX4_init_9 (fun H locs r721 er722 HX723 => ?_)
  exact RET _ _ _ _ _ _ HX723 dX4_init_12 ((by rw [er722]))
set_option maxHeartbeats 4000000 in
set_option maxRecDepth 100000 in
theorem k_X5_init (l : Launch) (G : fa_G) (k : Nat) (v : fa_V) (r : fa_R) (hz : fa_Z0 (k + 1) v r) (hs0 : fa_sh k = .inr 5) (hs1 : fa_sh (k + 1) = .inl (0, 60)) : fa_MN l G (k + 1) yX5_init cX5_init 1 1 1 60 [.ref (fa_B G + (k))] v r (fun w => w = (v, fa_u r k 1 (some (k + 1)))) := by
  refine fa_startN (by decide +kernel) (Nat.le_of_ble_eq_true rfl) (by decide +kernel) (fun p e s m args below meth c ls Q CX hl HX hsz hmn RET => ?_)
  have hl : lv_has ls 1 [(0, .ref (fa_B G + (k)))] := hl
  have hx := CX.1.1
  have hb := CX.1.2.1
  refine lv_aload_n hx hb dX5_init_0 rfl (lv_at hl 0 rfl) ?_
  refine fa_objInit CX oi_X5_3 hl.1 dX5_init_1 (Nat.le_of_ble_eq_true rfl) (Nat.le_of_ble_eq_true rfl) ?_
  refine lv_aload_n hx hb dX5_init_4 rfl (lv_at hl 0 rfl) ?_
  refine lv_bipush (v := nI (60)) hx hb dX5_init_5 (by decide) ?_
  refine fa_newa (len := 60) (t := 0) (ty := .int) CX HX aw_int rfl rfl (by decide) rfl (by decide) (by omega) hs1 (fun i => by (exact (hz (k + 1) (by omega)).1 i)) (by decide) (by show 0 + 1 ≤ 1; first | decide | omega) (by show 0 + 60 ≤ 60; first | decide | omega) dX5_init_7 (fun H HX724 => ?_)
  have HX724 : fa_HX G (k + 2) v r s _ _ := HX724
  refine W.widen (k := 1) (n := 60) (by first | exact Nat.le_refl _ | omega) (by first | exact Nat.le_refl _ | omega) ?_
  refine fa_putr (k := k) (q := k + 1) CX HX724 fl_X5_9 own_5 hmn (by omega) hs0 rfl rfl rfl dX5_init_9 (fun H locs r725 er726 HX727 => ?_)
  exact RET _ _ _ _ _ _ HX727 dX5_init_12 ((by rw [er726]))
set_option maxHeartbeats 4000000 in
set_option maxRecDepth 100000 in
theorem k_X1_init (l : Launch) (G : fa_G) (k : Nat) (v : fa_V) (r : fa_R) (hz : fa_Z0 (k + 1) v r) (hs0 : fa_sh k = .inr 1) (hs1 : fa_sh (k + 1) = .inl (1, 60)) : fa_MN l G (k + 1) yX1_init cX1_init 1 1 1 60 [.ref (fa_B G + (k))] v r (fun w => w = (v, fa_u r k 0 (some (k + 1)))) := by
  refine fa_startN (by decide +kernel) (Nat.le_of_ble_eq_true rfl) (by decide +kernel) (fun p e s m args below meth c ls Q CX hl HX hsz hmn RET => ?_)
  have hl : lv_has ls 1 [(0, .ref (fa_B G + (k)))] := hl
  have hx := CX.1.1
  have hb := CX.1.2.1
  refine lv_aload_n hx hb dX1_init_0 rfl (lv_at hl 0 rfl) ?_
  refine fa_objInit CX oi_X1_3 hl.1 dX1_init_1 (Nat.le_of_ble_eq_true rfl) (Nat.le_of_ble_eq_true rfl) ?_
  refine lv_aload_n hx hb dX1_init_4 rfl (lv_at hl 0 rfl) ?_
  refine lv_bipush (v := nI (60)) hx hb dX1_init_5 (by decide) ?_
  refine fa_newa (len := 60) (t := 1) (ty := .char) CX HX aw_char rfl rfl (by decide) rfl (by decide) (by omega) hs1 (fun i => by (exact (hz (k + 1) (by omega)).1 i)) (by decide) (by show 0 + 1 ≤ 1; first | decide | omega) (by show 0 + 60 ≤ 60; first | decide | omega) dX1_init_7 (fun H HX728 => ?_)
  have HX728 : fa_HX G (k + 2) v r s _ _ := HX728
  refine W.widen (k := 1) (n := 60) (by first | exact Nat.le_refl _ | omega) (by first | exact Nat.le_refl _ | omega) ?_
  refine fa_putr (k := k) (q := k + 1) CX HX728 fl_X1_9 own_1 hmn (by omega) hs0 rfl rfl rfl dX1_init_9 (fun H locs r729 er730 HX731 => ?_)
  exact RET _ _ _ _ _ _ HX731 dX1_init_12 ((by rw [er730]))
set_option maxHeartbeats 4000000 in
set_option maxRecDepth 100000 in
theorem k_X2_init (l : Launch) (G : fa_G) (k : Nat) (v : fa_V) (r : fa_R) (hz : fa_Z0 (k + 1) v r) (hs0 : fa_sh k = .inr 2) (hs1 : fa_sh (k + 1) = .inl (0, 8)) (hs2 : fa_sh (k + 2) = .inl (0, 8)) : fa_MN l G (k + 1) yX2_init cX2_init 1 1 2 16 [.ref (fa_B G + (k))] v r (fun w => w = (v, fa_u (fa_u r k 1 (some (k + 1))) k 2 (some (k + 2)))) := by
  refine fa_startN (by decide +kernel) (Nat.le_of_ble_eq_true rfl) (by decide +kernel) (fun p e s m args below meth c ls Q CX hl HX hsz hmn RET => ?_)
  have hl : lv_has ls 1 [(0, .ref (fa_B G + (k)))] := hl
  have hx := CX.1.1
  have hb := CX.1.2.1
  refine lv_aload_n hx hb dX2_init_0 rfl (lv_at hl 0 rfl) ?_
  refine fa_objInit CX oi_X2_3 hl.1 dX2_init_1 (Nat.le_of_ble_eq_true rfl) (Nat.le_of_ble_eq_true rfl) ?_
  refine lv_aload_n hx hb dX2_init_4 rfl (lv_at hl 0 rfl) ?_
  refine lv_bipush (v := nI (8)) hx hb dX2_init_5 (by decide) ?_
  refine fa_newa (len := 8) (t := 0) (ty := .int) CX HX aw_int rfl rfl (by decide) rfl (by decide) (by omega) hs1 (fun i => by (exact (hz (k + 1) (by omega)).1 i)) (by decide) (by show 0 + 1 ≤ 2; first | decide | omega) (by show 0 + 8 ≤ 16; first | decide | omega) dX2_init_7 (fun H HX732 => ?_)
  have HX732 : fa_HX G (k + 2) v r s _ _ := HX732
  refine W.widen (k := 1) (n := 8) (by first | exact Nat.le_refl _ | omega) (by first | exact Nat.le_refl _ | omega) ?_
  refine fa_putr (k := k) (q := k + 1) CX HX732 fl_X2_9 own_2 hmn (by omega) hs0 rfl rfl rfl dX2_init_9 (fun H locs r733 er734 HX735 => ?_)
  refine lv_aload_n hx hb dX2_init_12 rfl (lv_at hl 0 rfl) ?_
  refine lv_bipush (v := nI (8)) hx hb dX2_init_13 (by decide) ?_
  refine fa_newa (len := 8) (t := 0) (ty := .int) CX HX735 aw_int rfl rfl (by decide) rfl (by decide) (by omega) hs2 (fun i => by (exact (hz (k + 2) (by omega)).1 i)) (by decide) (by show 1 + 1 ≤ 2; first | decide | omega) (by show 8 + 8 ≤ 16; first | decide | omega) dX2_init_15 (fun H HX736 => ?_)
  have HX736 : fa_HX G (k + 3) v r733 s _ _ := HX736
  refine W.widen (k := 2) (n := 16) (by first | exact Nat.le_refl _ | omega) (by first | exact Nat.le_refl _ | omega) ?_
  refine fa_putr (k := k) (q := k + 2) CX HX736 fl_X2_15 own_2 hmn (by omega) hs0 rfl rfl rfl dX2_init_17 (fun H locs r737 er738 HX739 => ?_)
  exact RET _ _ _ _ _ _ HX739 dX2_init_20 ((by rw [er738, er734]))
