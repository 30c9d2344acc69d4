/-- a State as it is made: its files at their places -/
def fb_RS1 (r : fa_R) (b : Nat) : Prop := fa_RS r b ∧ ∀ p, p < 24 → r (b + 1) p = some (b + 8 + 2 * p)
theorem fb_RS1_cong {r r1 : fa_R} {b : Nat} (h : ∀ q, b ≤ q → q < b + 56 → r1 q = r q) (hR : fb_RS1 r b) : fb_RS1 r1 b :=
  ⟨fa_RS_cong h hR.1, fun p hp => by rw [h (b + 1) (by omega) (by omega)]; exact hR.2 p hp⟩
theorem fb_RS1.inj {r : fa_R} {b : Nat} (h : fb_RS1 r b) : fb_inj r b := fun p k hp hk e => by
  unfold fa_pf at e
  rw [h.2 p hp, h.2 k hk] at e
  have e' : b + 8 + 2 * p = b + 8 + 2 * k := e
  omega
/-- nothing stands at n and behind it -/
def fa_Z0 (n : Nat) (v : fa_V) (r : fa_R) : Prop := ∀ q, n ≤ q → (∀ i, v q i = 0) ∧ ∀ i, r q i = none
theorem own_0 : ∀ (C : String) (T : u_T) (N : Nat), vwCl[0]? = some (C, T, N) → C = RX0 := fun C T N h => by cases h; rfl
theorem own_1 : ∀ (C : String) (T : u_T) (N : Nat), vwCl[1]? = some (C, T, N) → C = RX1 := fun C T N h => by cases h; rfl
theorem own_2 : ∀ (C : String) (T : u_T) (N : Nat), vwCl[2]? = some (C, T, N) → C = RX2 := fun C T N h => by cases h; rfl
theorem own_3 : ∀ (C : String) (T : u_T) (N : Nat), vwCl[3]? = some (C, T, N) → C = RX3 := fun C T N h => by cases h; rfl
theorem own_4 : ∀ (C : String) (T : u_T) (N : Nat), vwCl[4]? = some (C, T, N) → C = RX4 := fun C T N h => by cases h; rfl
theorem own_5 : ∀ (C : String) (T : u_T) (N : Nat), vwCl[5]? = some (C, T, N) → C = RX5 := fun C T N h => by cases h; rfl
theorem own_6 : ∀ (C : String) (T : u_T) (N : Nat), vwCl[6]? = some (C, T, N) → C = RX6 := fun C T N h => by cases h; rfl
theorem own_7 : ∀ (C : String) (T : u_T) (N : Nat), vwCl[7]? = some (C, T, N) → C = RX7 := fun C T N h => by cases h; rfl
theorem cl_L_7 : Cond.classLink RL 7 RX6 ∈ fa_tbl := fa_in 12 (by decide +kernel) (by decide +kernel)
theorem mk_L_7 : fa_mk RL 7 6 7 := ⟨RX6, TX6, tyX6, rfl, fa_ly_X6, tyX6_ok, rfl, cl_L_7, fa_in 13 (by decide +kernel) (by decide +kernel), fa_in 1 (by decide +kernel) (by decide +kernel), by decide +kernel⟩
theorem oi_X6_1 : Cond.methodLink RX6 1 Lib.objectInit ∈ fa_tbl ∧ Cond.instanceMethod Lib.objectInit ∈ fa_tbl ∧ Cond.code Lib.objectInit ⟨#[0xb1]⟩ 1 none ∈ fa_tbl := ⟨fa_in 17 (by decide +kernel) (by decide +kernel), fa_in 18 (by decide +kernel) (by decide +kernel), fa_in 19 (by decide +kernel) (by decide +kernel)⟩
theorem cl_X6_7 : Cond.classLink RX6 7 RX3 ∈ fa_tbl := fa_in 20 (by decide +kernel) (by decide +kernel)
theorem mk_X6_7 : fa_mk RX6 7 3 12 := ⟨RX3, TX3, tyX3, rfl, fa_ly_X3, tyX3_ok, rfl, cl_X6_7, fa_in 21 (by decide +kernel) (by decide +kernel), fa_in 2 (by decide +kernel) (by decide +kernel), by decide +kernel⟩
theorem oi_X3_3 : Cond.methodLink RX3 3 Lib.objectInit ∈ fa_tbl ∧ Cond.instanceMethod Lib.objectInit ∈ fa_tbl ∧ Cond.code Lib.objectInit ⟨#[0xb1]⟩ 1 none ∈ fa_tbl := ⟨fa_in 25 (by decide +kernel) (by decide +kernel), fa_in 18 (by decide +kernel) (by decide +kernel), fa_in 19 (by decide +kernel) (by decide +kernel)⟩
theorem cl_X3_9 : Cond.classLink RX3 9 RX4 ∈ fa_tbl := fa_in 26 (by decide +kernel) (by decide +kernel)
theorem mk_X3_9 : fa_mk RX3 9 4 9 := ⟨RX4, TX4, tyX4, rfl, fa_ly_X4, tyX4_ok, rfl, cl_X3_9, fa_in 65 (by decide +kernel) (by decide +kernel), fa_in 5 (by decide +kernel) (by decide +kernel), by decide +kernel⟩
theorem cl_X3_17 : Cond.classLink RX3 17 RX2 ∈ fa_tbl := fa_in 28 (by decide +kernel) (by decide +kernel)
theorem mk_X3_17 : fa_mk RX3 17 2 3 := ⟨RX2, TX2, tyX2, rfl, fa_ly_X2, tyX2_ok, rfl, cl_X3_17, fa_in 29 (by decide +kernel) (by decide +kernel), fa_in 3 (by decide +kernel) (by decide +kernel), by decide +kernel⟩
theorem oi_X2_3 : Cond.methodLink RX2 3 Lib.objectInit ∈ fa_tbl ∧ Cond.instanceMethod Lib.objectInit ∈ fa_tbl ∧ Cond.code Lib.objectInit ⟨#[0xb1]⟩ 1 none ∈ fa_tbl := ⟨fa_in 33 (by decide +kernel) (by decide +kernel), fa_in 18 (by decide +kernel) (by decide +kernel), fa_in 19 (by decide +kernel) (by decide +kernel)⟩
theorem cl_X3_24 : Cond.classLink RX3 24 RX5 ∈ fa_tbl := fa_in 51 (by decide +kernel) (by decide +kernel)
theorem mk_X3_24 : fa_mk RX3 24 5 2 := ⟨RX5, TX5, tyX5, rfl, fa_ly_X5, tyX5_ok, rfl, cl_X3_24, fa_in 52 (by decide +kernel) (by decide +kernel), fa_in 4 (by decide +kernel) (by decide +kernel), by decide +kernel⟩
theorem oi_X5_3 : Cond.methodLink RX5 3 Lib.objectInit ∈ fa_tbl ∧ Cond.instanceMethod Lib.objectInit ∈ fa_tbl ∧ Cond.code Lib.objectInit ⟨#[0xb1]⟩ 1 none ∈ fa_tbl := ⟨fa_in 56 (by decide +kernel) (by decide +kernel), fa_in 18 (by decide +kernel) (by decide +kernel), fa_in 19 (by decide +kernel) (by decide +kernel)⟩
theorem oi_X4_3 : Cond.methodLink RX4 3 Lib.objectInit ∈ fa_tbl ∧ Cond.instanceMethod Lib.objectInit ∈ fa_tbl ∧ Cond.code Lib.objectInit ⟨#[0xb1]⟩ 1 none ∈ fa_tbl := ⟨fa_in 69 (by decide +kernel) (by decide +kernel), fa_in 18 (by decide +kernel) (by decide +kernel), fa_in 19 (by decide +kernel) (by decide +kernel)⟩
theorem cl_X6_19 : Cond.classLink RX6 19 RX0 ∈ fa_tbl := fa_in 173 (by decide +kernel) (by decide +kernel)
theorem mk_X6_19 : fa_mk RX6 19 0 2 := ⟨RX0, TX0, tyX0, rfl, fa_ly_X0, tyX0_ok, rfl, cl_X6_19, fa_in 174 (by decide +kernel) (by decide +kernel), fa_in 7 (by decide +kernel) (by decide +kernel), by decide +kernel⟩
theorem oi_X0_3 : Cond.methodLink RX0 3 Lib.objectInit ∈ fa_tbl ∧ Cond.instanceMethod Lib.objectInit ∈ fa_tbl ∧ Cond.code Lib.objectInit ⟨#[0xb1]⟩ 1 none ∈ fa_tbl := ⟨fa_in 178 (by decide +kernel) (by decide +kernel), fa_in 18 (by decide +kernel) (by decide +kernel), fa_in 19 (by decide +kernel) (by decide +kernel)⟩
theorem cl_X0_9 : Cond.classLink RX0 9 RX3 ∈ fa_tbl := fa_in 179 (by decide +kernel) (by decide +kernel)
theorem mk_X0_9 : fa_mk RX0 9 3 12 := ⟨RX3, TX3, tyX3, rfl, fa_ly_X3, tyX3_ok, rfl, cl_X0_9, fa_in 21 (by decide +kernel) (by decide +kernel), fa_in 2 (by decide +kernel) (by decide +kernel), by decide +kernel⟩
theorem cl_X6_26 : Cond.classLink RX6 26 RX1 ∈ fa_tbl := fa_in 190 (by decide +kernel) (by decide +kernel)
theorem mk_X6_26 : fa_mk RX6 26 1 6 := ⟨RX1, TX1, tyX1, rfl, fa_ly_X1, tyX1_ok, rfl, cl_X6_26, fa_in 191 (by decide +kernel) (by decide +kernel), fa_in 8 (by decide +kernel) (by decide +kernel), by decide +kernel⟩
theorem oi_X1_3 : Cond.methodLink RX1 3 Lib.objectInit ∈ fa_tbl ∧ Cond.instanceMethod Lib.objectInit ∈ fa_tbl ∧ Cond.code Lib.objectInit ⟨#[0xb1]⟩ 1 none ∈ fa_tbl := ⟨fa_in 195 (by decide +kernel) (by decide +kernel), fa_in 18 (by decide +kernel) (by decide +kernel), fa_in 19 (by decide +kernel) (by decide +kernel)⟩
theorem cl_L_10 : Cond.classLink RL 10 RX7 ∈ fa_tbl := fa_in 594 (by decide +kernel) (by decide +kernel)
theorem mk_L_10 : fa_mk RL 10 7 13 := ⟨RX7, TX7, tyX7, rfl, fa_ly_X7, tyX7_ok, rfl, cl_L_10, fa_in 595 (by decide +kernel) (by decide +kernel), fa_in 9 (by decide +kernel) (by decide +kernel), by decide +kernel⟩
theorem oi_X7_1 : Cond.methodLink RX7 1 Lib.objectInit ∈ fa_tbl ∧ Cond.instanceMethod Lib.objectInit ∈ fa_tbl ∧ Cond.code Lib.objectInit ⟨#[0xb1]⟩ 1 none ∈ fa_tbl := ⟨fa_in 599 (by decide +kernel) (by decide +kernel), fa_in 18 (by decide +kernel) (by decide +kernel), fa_in 19 (by decide +kernel) (by decide +kernel)⟩
theorem aw_int : Cond.arrayClass (newarray.typeOf .int) ∈ fa_tbl := fa_in 50 (by decide +kernel) (by decide +kernel)
theorem aw_char : Cond.arrayClass (newarray.typeOf .char) ∈ fa_tbl := fa_in 220 (by decide +kernel) (by decide +kernel)
theorem aw_boolean : Cond.arrayClass (newarray.typeOf .boolean) ∈ fa_tbl := fa_in 640 (by decide +kernel) (by decide +kernel)
set_option maxHeartbeats 4000000 in
set_option maxRecDepth 100000 in
theorem k_X4_init (l : Launch) (G : fa_G) (k : Nat) (v : fa_V) (r : fa_R) (hz : fa_Z0 (k + 1) v r) (hs0 : fa_sh k = .inr 4) (hs1 : fa_sh (k + 1) = .inl (0, 8)) : fa_MN l G (k + 1) yX4_init cX4_init 1 1 1 8 [.ref (fa_B G + (k))] v r (fun w => w = (v, fa_u r k 7 (some (k + 1)))) := by
  refine fa_startN (by decide +kernel) (Nat.le_of_ble_eq_true rfl) (by decide +kernel) (fun p e s m args below meth c ls Q CX hl HX hsz hmn RET => ?_)
  have hl : lv_has ls 1 [(0, .ref (fa_B G + (k)))] := hl
  have hx := CX.1.1
  have hb := CX.1.2.1
  refine lv_aload_n hx hb dX4_init_0 rfl (lv_at hl 0 rfl) ?_
  refine fa_objInit CX oi_X4_3 hl.1 dX4_init_1 (Nat.le_of_ble_eq_true rfl) (Nat.le_of_ble_eq_true rfl) ?_
  refine lv_aload_n hx hb dX4_init_4 rfl (lv_at hl 0 rfl) ?_
  refine lv_bipush (v := nI (8)) hx hb dX4_init_5 (by decide) ?_
  refine fa_newa (len := 8) (t := 0) (ty := .int) CX HX aw_int rfl rfl (by decide) rfl (by decide) (by omega) hs1 (fun i => by (exact (hz (k + 1) (by omega)).1 i)) (by decide) (by show 0 + 1 ≤ 1; first | decide | omega) (by show 0 + 8 ≤ 8; first | decide | omega) dX4_init_7 (fun H HX720 => ?_)
  have HX720 : fa_HX G (k + 2) v r s _ _ := HX720
  refine W.widen (k := 1) (n := 8) (by first | exact Nat.le_refl _ | omega) (by first | exact Nat.le_refl _ | omega) ?_
  refine fa_putr (k := k) (q := k + 1) CX HX720 fl_X4_9 own_4 hmn (by omega) hs0 rfl rfl rfl dX4_init_9 (fun H locs r721 er722 HX723 => ?_)
  exact RET _ _ _ _ _ _ HX723 dX4_init_12 ((by rw [er722]))
set_option maxHeartbeats 4000000 in
set_option maxRecDepth 100000 in
theorem k_X5_init (l : Launch) (G : fa_G) (k : Nat) (v : fa_V) (r : fa_R) (hz : fa_Z0 (k + 1) v r) (hs0 : fa_sh k = .inr 5) (hs1 : fa_sh (k + 1) = .inl (0, 60)) : fa_MN l G (k + 1) yX5_init cX5_init 1 1 1 60 [.ref (fa_B G + (k))] v r (fun w => w = (v, fa_u r k 1 (some (k + 1)))) := by
  refine fa_startN (by decide +kernel) (Nat.le_of_ble_eq_true rfl) (by decide +kernel) (fun p e s m args below meth c ls Q CX hl HX hsz hmn RET => ?_)
  have hl : lv_has ls 1 [(0, .ref (fa_B G + (k)))] := hl
  have hx := CX.1.1
  have hb := CX.1.2.1
  refine lv_aload_n hx hb dX5_init_0 rfl (lv_at hl 0 rfl) ?_
  refine fa_objInit CX oi_X5_3 hl.1 dX5_init_1 (Nat.le_of_ble_eq_true rfl) (Nat.le_of_ble_eq_true rfl) ?_
  refine lv_aload_n hx hb dX5_init_4 rfl (lv_at hl 0 rfl) ?_
  refine lv_bipush (v := nI (60)) hx hb dX5_init_5 (by decide) ?_
  refine fa_newa (len := 60) (t := 0) (ty := .int) CX HX aw_int rfl rfl (by decide) rfl (by decide) (by omega) hs1 (fun i => by (exact (hz (k + 1) (by omega)).1 i)) (by decide) (by show 0 + 1 ≤ 1; first | decide | omega) (by show 0 + 60 ≤ 60; first | decide | omega) dX5_init_7 (fun H HX724 => ?_)
  have HX724 : fa_HX G (k + 2) v r s _ _ := HX724
  refine W.widen (k := 1) (n := 60) (by first | exact Nat.le_refl _ | omega) (by first | exact Nat.le_refl _ | omega) ?_
  refine fa_putr (k := k) (q := k + 1) CX HX724 fl_X5_9 own_5 hmn (by omega) hs0 rfl rfl rfl dX5_init_9 (fun H locs r725 er726 HX727 => ?_)
  exact RET _ _ _ _ _ _ HX727 dX5_init_12 ((by rw [er726]))
set_option maxHeartbeats 4000000 in
set_option maxRecDepth 100000 in
theorem k_X1_init (l : Launch) (G : fa_G) (k : Nat) (v : fa_V) (r : fa_R) (hz : fa_Z0 (k + 1) v r) (hs0 : fa_sh k = .inr 1) (hs1 : fa_sh (k + 1) = .inl (1, 60)) : fa_MN l G (k + 1) yX1_init cX1_init 1 1 1 60 [.ref (fa_B G + (k))] v r (fun w => w = (v, fa_u r k 0 (some (k + 1)))) := by
  refine fa_startN (by decide +kernel) (Nat.le_of_ble_eq_true rfl) (by decide +kernel) (fun p e s m args below meth c ls Q CX hl HX hsz hmn RET => ?_)
  have hl : lv_has ls 1 [(0, .ref (fa_B G + (k)))] := hl
  have hx := CX.1.1
  have hb := CX.1.2.1
  refine lv_aload_n hx hb dX1_init_0 rfl (lv_at hl 0 rfl) ?_
  refine fa_objInit CX oi_X1_3 hl.1 dX1_init_1 (Nat.le_of_ble_eq_true rfl) (Nat.le_of_ble_eq_true rfl) ?_
  refine lv_aload_n hx hb dX1_init_4 rfl (lv_at hl 0 rfl) ?_
  refine lv_bipush (v := nI (60)) hx hb dX1_init_5 (by decide) ?_
  refine fa_newa (len := 60) (t := 1) (ty := .char) CX HX aw_char rfl rfl (by decide) rfl (by decide) (by omega) hs1 (fun i => by (exact (hz (k + 1) (by omega)).1 i)) (by decide) (by show 0 + 1 ≤ 1; first | decide | omega) (by show 0 + 60 ≤ 60; first | decide | omega) dX1_init_7 (fun H HX728 => ?_)
  have HX728 : fa_HX G (k + 2) v r s _ _ := HX728
  refine W.widen (k := 1) (n := 60) (by first | exact Nat.le_refl _ | omega) (by first | exact Nat.le_refl _ | omega) ?_
  refine fa_putr (k := k) (q := k + 1) CX HX728 fl_X1_9 own_1 hmn (by omega) hs0 rfl rfl rfl dX1_init_9 (fun H locs r729 er730 HX731 => ?_)
  exact RET _ _ _ _ _ _ HX731 dX1_init_12 ((by rw [er730]))
set_option maxHeartbeats 4000000 in
set_option maxRecDepth 100000 in
theorem k_X2_init (l : Launch) (G : fa_G) (k : Nat) (v : fa_V) (r : fa_R) (hz : fa_Z0 (k + 1) v r) (hs0 : fa_sh k = .inr 2) (hs1 : fa_sh (k + 1) = .inl (0, 8)) (hs2 : fa_sh (k + 2) = .inl (0, 8)) : fa_MN l G (k + 1) yX2_init cX2_init 1 1 2 16 [.ref (fa_B G + (k))] v r (fun w => w = (v, fa_u (fa_u r k 1 (some (k + 1))) k 2 (some (k + 2)))) := by
  refine fa_startN (by decide +kernel) (Nat.le_of_ble_eq_true rfl) (by decide +kernel) (fun p e s m args below meth c ls Q CX hl HX hsz hmn RET => ?_)
  have hl : lv_has ls 1 [(0, .ref (fa_B G + (k)))] := hl
  have hx := CX.1.1
  have hb := CX.1.2.1
  refine lv_aload_n hx hb dX2_init_0 rfl (lv_at hl 0 rfl) ?_
  refine fa_objInit CX oi_X2_3 hl.1 dX2_init_1 (Nat.le_of_ble_eq_true rfl) (Nat.le_of_ble_eq_true rfl) ?_
  refine lv_aload_n hx hb dX2_init_4 rfl (lv_at hl 0 rfl) ?_
  refine lv_bipush (v := nI (8)) hx hb dX2_init_5 (by decide) ?_
  refine fa_newa (len := 8) (t := 0) (ty := .int) CX HX aw_int rfl rfl (by decide) rfl (by decide) (by omega) hs1 (fun i => by (exact (hz (k + 1) (by omega)).1 i)) (by decide) (by show 0 + 1 ≤ 2; first | decide | omega) (by show 0 + 8 ≤ 16; first | decide | omega) dX2_init_7 (fun H HX732 => ?_)
  have HX732 : fa_HX G (k + 2) v r s _ _ := HX732
  refine W.widen (k := 1) (n := 8) (by first | exact Nat.le_refl _ | omega) (by first | exact Nat.le_refl _ | omega) ?_
  refine fa_putr (k := k) (q := k + 1) CX HX732 fl_X2_9 own_2 hmn (by omega) hs0 rfl rfl rfl dX2_init_9 (fun H locs r733 er734 HX735 => ?_)
  refine lv_aload_n hx hb dX2_init_12 rfl (lv_at hl 0 rfl) ?_
  refine lv_bipush (v := nI (8)) hx hb dX2_init_13 (by decide) ?_
  refine fa_newa (len := 8) (t := 0) (ty := .int) CX HX735 aw_int rfl rfl (by decide) rfl (by decide) (by omega) hs2 (fun i => by (exact (hz (k + 2) (by omega)).1 i)) (by decide) (by show 1 + 1 ≤ 2; first | decide | omega) (by show 8 + 8 ≤ 16; first | decide | omega) dX2_init_15 (fun H HX736 => ?_)
  have HX736 : fa_HX G (k + 3) v r733 s _ _ := HX736
  refine W.widen (k := 2) (n := 16) (by first | exact Nat.le_refl _ | omega) (by first | exact Nat.le_refl _ | omega) ?_
  refine fa_putr (k := k) (q := k + 2) CX HX736 fl_X2_15 own_2 hmn (by omega) hs0 rfl rfl rfl dX2_init_17 (fun H locs r737 er738 HX739 => ?_)
  exact RET _ _ _ _ _ _ HX739 dX2_init_20 ((by rw [er738, er734]))
set_option maxHeartbeats 4000000 in
set_option maxRecDepth 100000 in
theorem k_X3_init (l : Launch) (G : fa_G) (b : Nat) (hB : b ∈ fa_bs) (v : fa_V) (r : fa_R) (hz : fa_Z0 (b + 1) v r) : fa_MN l G (b + 1) yX3_init cX3_init 2 2 55 520 [.ref (fa_B G + (b))] v r (fun w => (∀ k, ¬ k = b + 7 → w.1 k = v k) ∧ (∀ i, i < 7 → w.1 (b + 7) i = fa_stV 0 i) ∧ fb_RS1 w.2 b ∧ ∀ q, ¬ (b ≤ q ∧ q < b + 56) → w.2 q = r q) := by
  refine fa_startN (by decide +kernel) (Nat.le_of_ble_eq_true rfl) (by decide +kernel) (fun p e s m args below meth c ls Q CX hl HX hsz hmn RET => ?_)
  have hl : lv_has ls 2 [(0, .ref (fa_B G + (b)))] := hl
  have hx := CX.1.1
  have hb := CX.1.2.1
  refine lv_aload_n hx hb dX3_init_0 rfl (lv_at hl 0 rfl) ?_
  refine fa_objInit CX oi_X3_3 hl.1 dX3_init_1 (Nat.le_of_ble_eq_true rfl) (Nat.le_of_ble_eq_true rfl) ?_
  refine lv_aload_n hx hb dX3_init_4 rfl (lv_at hl 0 rfl) ?_
  refine lv_bipush (v := nI (24)) hx hb dX3_init_5 (by decide) ?_
  refine fa_newq (len := 24) (t := 3) CX HX cl_X3_9 CX.2.2.2.2.1 rfl (by decide) (by omega) (fa_s1 hB) (fun i => by (exact (hz (b + 1) (by omega)).2 i)) (by decide) (by show 0 + 1 ≤ 55; first | decide | omega) (by show 0 + 24 ≤ 520; first | decide | omega) dX3_init_7 (fun H HX740 => ?_)
  have HX740 : fa_HX G (b + 2) v r s _ _ := HX740
  refine W.widen (k := 1) (n := 24) (by first | exact Nat.le_refl _ | omega) (by first | exact Nat.le_refl _ | omega) ?_
  refine fa_putr (k := b) (q := b + 1) CX HX740 fl_X3_11 own_3 hmn (by omega) (fa_s0 hB) rfl rfl rfl dX3_init_10 (fun H locs r741 er742 HX743 => ?_)
  refine lv_aload_n hx hb dX3_init_13 rfl (lv_at hl 0 rfl) ?_
  refine fa_new (N := 3) CX HX743 mk_X3_17 (by omega) (fa_s2 hB) (fun i => by (exact (hz (b + 2) (by omega)).1 i)) (fun i => by (rw [er742, fa_u_n _ _ (by omega)]; exact (hz (b + 2) (by omega)).2 i)) (by show 1 + 1 ≤ 55; first | decide | omega) (by show 24 + 3 ≤ 520; first | decide | omega) dX3_init_14 (fun H HX744 => ?_)
  have HX744 : fa_HX G (b + 3) v r741 s _ _ := HX744
  refine W.widen (k := 2) (n := 27) (by first | exact Nat.le_refl _ | omega) (by first | exact Nat.le_refl _ | omega) ?_
  refine lv_dup hx hb dX3_init_17 rfl ?_
  refine fa_ctorN (rest := [.ref (fa_B G + (b + 2)), .ref (fa_B G + (b))]) CX HX744 (k_X2_init l G (b + 2) v r741 (fun q hq => ⟨fun i => by (exact (hz q (by omega)).1 i), fun i => by (rw [er742, fa_u_n _ _ (by omega)]; exact (hz q (by omega)).2 i)⟩) (fa_s2 hB) (fa_s3 hB) (fa_s4 hB)) (by decide +kernel) ln_X3_19 ⟨by decide +kernel, by decide +kernel, by decide +kernel, by decide +kernel⟩ (by omega) (Nat.le_of_ble_eq_true rfl) hl.1 ⟨Nat.le_of_ble_eq_true rfl, Nat.le_of_ble_eq_true rfl⟩ ⟨by show 2 + 2 ≤ 55; first | decide | omega, by show 27 + 16 ≤ 520; first | decide | omega⟩ dX3_init_18 (fun v745 r746 H locs h747 HX748 => ?_)
  obtain ⟨ev_r746, er_r746⟩ := Prod.mk.inj h747
  rw [ev_r746] at HX748
  have HX748 : fa_HX G (b + 5) v r746 s _ _ := HX748
  refine W.widen (k := 4) (n := 43) (by first | exact Nat.le_refl _ | omega) (by first | exact Nat.le_refl _ | omega) ?_
  refine fa_putr (k := b) (q := b + 2) CX HX748 fl_X3_20 own_3 hmn (by omega) (fa_s0 hB) rfl rfl rfl dX3_init_21 (fun H locs r749 er750 HX751 => ?_)
  refine lv_aload_n hx hb dX3_init_24 rfl (lv_at hl 0 rfl) ?_
  refine fa_new (N := 2) CX HX751 mk_X3_24 (by omega) (fa_s5 hB) (fun i => by (exact (hz (b + 5) (by omega)).1 i)) (fun i => by (rw [er750, fa_u_n _ _ (by omega)]; rw [er_r746, fa_u_n _ _ (by omega), fa_u_n _ _ (by omega)]; rw [er742, fa_u_n _ _ (by omega)]; exact (hz (b + 5) (by omega)).2 i)) (by show 4 + 1 ≤ 55; first | decide | omega) (by show 43 + 2 ≤ 520; first | decide | omega) dX3_init_25 (fun H HX752 => ?_)
  have HX752 : fa_HX G (b + 6) v r749 s _ _ := HX752
  refine W.widen (k := 5) (n := 45) (by first | exact Nat.le_refl _ | omega) (by first | exact Nat.le_refl _ | omega) ?_
  refine lv_dup hx hb dX3_init_28 rfl ?_
  refine fa_ctorN (rest := [.ref (fa_B G + (b + 5)), .ref (fa_B G + (b))]) CX HX752 (k_X5_init l G (b + 5) v r749 (fun q hq => ⟨fun i => by (exact (hz q (by omega)).1 i), fun i => by (rw [er750, fa_u_n _ _ (by omega)]; rw [er_r746, fa_u_n _ _ (by omega), fa_u_n _ _ (by omega)]; rw [er742, fa_u_n _ _ (by omega)]; exact (hz q (by omega)).2 i)⟩) (fa_s5 hB) (fa_s6 hB)) (by decide +kernel) ln_X3_26 ⟨by decide +kernel, by decide +kernel, by decide +kernel, by decide +kernel⟩ (by omega) (Nat.le_of_ble_eq_true rfl) hl.1 ⟨Nat.le_of_ble_eq_true rfl, Nat.le_of_ble_eq_true rfl⟩ ⟨by show 5 + 1 ≤ 55; first | decide | omega, by show 45 + 60 ≤ 520; first | decide | omega⟩ dX3_init_29 (fun v753 r754 H locs h755 HX756 => ?_)
  obtain ⟨ev_r754, er_r754⟩ := Prod.mk.inj h755
  rw [ev_r754] at HX756
  have HX756 : fa_HX G (b + 7) v r754 s _ _ := HX756
  refine W.widen (k := 6) (n := 105) (by first | exact Nat.le_refl _ | omega) (by first | exact Nat.le_refl _ | omega) ?_
  refine fa_putr (k := b) (q := b + 5) CX HX756 fl_X3_27 own_3 hmn (by omega) (fa_s0 hB) rfl rfl rfl dX3_init_32 (fun H locs r757 er758 HX759 => ?_)
  refine lv_aload_n hx hb dX3_init_35 rfl (lv_at hl 0 rfl) ?_
  refine lv_bipush (v := nI (7)) hx hb dX3_init_36 (by decide) ?_
  refine fa_newa (len := 7) (t := 0) (ty := .int) CX HX759 aw_int rfl rfl (by decide) rfl (by decide) (by omega) (fa_s7 hB) (fun i => by (exact (hz (b + 7) (by omega)).1 i)) (by decide) (by show 6 + 1 ≤ 55; first | decide | omega) (by show 105 + 7 ≤ 520; first | decide | omega) dX3_init_38 (fun H HX760 => ?_)
  have HX760 : fa_HX G (b + 8) v r757 s _ _ := HX760
  refine W.widen (k := 7) (n := 112) (by first | exact Nat.le_refl _ | omega) (by first | exact Nat.le_refl _ | omega) ?_
  refine fa_putr (k := b) (q := b + 7) CX HX760 fl_X3_31 own_3 hmn (by omega) (fa_s0 hB) rfl rfl rfl dX3_init_40 (fun H locs r761 er762 HX763 => ?_)
  refine lv_iconst (v := nI (0)) hx hb dX3_init_43 (by decide) ?_
  refine lv_istore_n (lv' := [(1, .int (nI (0))), (0, .ref (fa_B G + (b)))]) hx hb dX3_init_44 rfl hl (by decide) rfl (fun ls hl => ?_)
  have LOOP_45 : ∀ (fu : Nat) (j : Nat) (r764 : fa_R) (H : Heap) (locs : List Loc) (ls : Array Slot), 24 - j < fu → (j ≤ 24 ∧ (r764 b 8 = some (b + 1) ∧ r764 b 9 = some (b + 2) ∧ r764 b 10 = some (b + 5) ∧ r764 b 11 = some (b + 7) ∧ r764 (b + 2) 1 = some (b + 3) ∧ r764 (b + 2) 2 = some (b + 4) ∧ r764 (b + 5) 1 = some (b + 6)) ∧ (∀ p, p < j → r764 (b + 1) p = some (b + 8 + 2 * p)) ∧ (∀ p, p < j → r764 (b + 8 + 2 * p) 7 = some (b + 9 + 2 * p)) ∧ ∀ q, ¬ (b ≤ q ∧ q < b + 8 + 2 * j) → r764 q = r q) → lv_has ls 2 [(0, .ref (fa_B G + (b))), (1, .int (nI (j)))] → fa_HX G (b + 8 + 2 * j) v r764 s H locs → W p l e ({ frames := 2, cells := 55, slots := 520, locals := 34 * 2 }) s m args below meth c H locs (7 + 2 * j) (112 + 17 * j) Q (F0 m 45 ls []) := by
    intro fu
    induction fu with
    | zero => intro j r764 H locs ls hk; exact absurd hk (Nat.not_lt_zero _)
    | succ fu ih_45 =>
      intro j r764 H locs ls hk_45 hi_45 hl HX765
      refine lv_iload_n hx hb dX3_init_45 rfl (lv_at hl 1 rfl) ?_
      refine lv_bipush (v := nI (24)) hx hb dX3_init_46 (by decide) ?_
      refine lv_icmp_ge (tgt := 70) hx hb dX3_init_48 (by decide) (fun c_48 => ?_) (fun c_48 => ?_)
      · have hj24 : j = 24 := by
          have := (nI_leI (by omega) (by omega)).mp c_48
          omega
        subst hj24
        refine fa_getst (j := 0) CX HX765 (by decide) (by decide +kernel) dX3_init_70 ?_
        refine lv_iconst (v := nI (0)) hx hb dX3_init_73 (by decide) ?_
        refine lv_aload_n hx hb dX3_init_74 rfl (lv_at hl 0 rfl) ?_
        refine fa_getr (k := b) (j := b + 7) CX HX765 fl_X3_31 (by omega) (fa_s0 hB) rfl hi_45.2.1.2.2.2.1 dX3_init_75 ?_
        refine lv_iconst (v := nI (0)) hx hb dX3_init_78 (by decide) ?_
        refine lv_bipush (v := nI (7)) hx hb dX3_init_79 (by decide) ?_
        refine fa_copyS (j := 0) (k1 := b + 7) (sp := 0) (dp := 0) (cnt := 7) CX HX765 fa_cpl_X3_39 fa_cpn fa_cps fa_cpi hl.1 (by decide) (by omega) (fa_s7 hB) (by decide) (by decide) (by first | decide | assumption) (Nat.le_of_ble_eq_true rfl) (by decide +kernel) dX3_init_81 (fun H locs v766 e767 HX768 => ?_)
        exact RET _ _ _ _ _ _ HX768 dX3_init_84 (⟨(fun k hk => by (show v766 k = v k; rw [e767]; funext i; simp [hk])), (fun i hi => by (show v766 (b + 7) i = fa_stV 0 i; rw [e767]; show (if b + 7 = b + 7 then va_cpy (fa_stV 0) (v (b + 7)) 0 0 7 i else _) = _; rw [if_pos rfl, pk_cpy_in (Nat.zero_le _) (by omega)]; congr 1; omega)), ⟨⟨hi_45.2.1.1, hi_45.2.1.2.1, hi_45.2.1.2.2.1, hi_45.2.1.2.2.2.1, hi_45.2.1.2.2.2.2.1, hi_45.2.1.2.2.2.2.2.1, hi_45.2.1.2.2.2.2.2.2, (fun p hp => ⟨p, hp, hi_45.2.2.1 p hp⟩), (fun j hj => hi_45.2.2.2.1 j hj)⟩, hi_45.2.2.1⟩, (fun q hq => hi_45.2.2.2.2 q (by omega))⟩)
      · have h_j := fa_ltN (by omega) (by omega) c_48
        refine lv_aload_n hx hb dX3_init_51 rfl (lv_at hl 0 rfl) ?_
        refine fa_getr (k := b) (j := b + 1) CX HX765 fl_X3_11 (by omega) (fa_s0 hB) rfl hi_45.2.1.1 dX3_init_52 ?_
        refine lv_iload_n hx hb dX3_init_55 rfl (lv_at hl 1 rfl) ?_
        refine fa_new (N := 9) CX HX765 mk_X3_9 (by omega) (fa_sf hB h_j) (fun i => by (exact (hz (b + 8 + 2 * j) (by omega)).1 i)) (fun i => by (rw [hi_45.2.2.2.2 (b + 8 + 2 * j) (by omega)]; exact (hz (b + 8 + 2 * j) (by omega)).2 i)) (by show 7 + 2 * j + 1 ≤ 55; first | decide | omega) (by show 112 + 17 * j + 9 ≤ 520; first | decide | omega) dX3_init_56 (fun H HX769 => ?_)
        have HX769 : fa_HX G (b + 8 + 2 * j + 1) v r764 s _ _ := HX769
        refine W.widen (k := 7 + 2 * j + 1) (n := 112 + 17 * j + 9) (by first | exact Nat.le_refl _ | omega) (by first | exact Nat.le_refl _ | omega) ?_
        refine lv_dup hx hb dX3_init_59 rfl ?_
        refine fa_ctorN (rest := [.ref (fa_B G + (b + 8 + 2 * j)), .int (nI (j)), .ref (fa_B G + (b + 1))]) CX HX769 (k_X4_init l G (b + 8 + 2 * j) v r764 (fun q hq => ⟨fun i => by (exact (hz q (by omega)).1 i), fun i => by (rw [hi_45.2.2.2.2 q (by omega)]; exact (hz q (by omega)).2 i)⟩) (fa_sf hB h_j) (by rw [show b + 8 + 2 * j + 1 = b + 9 + 2 * j by omega]; exact fa_se hB h_j)) (by decide +kernel) ln_X3_35 ⟨by decide +kernel, by decide +kernel, by decide +kernel, by decide +kernel⟩ (by omega) (Nat.le_of_ble_eq_true rfl) hl.1 ⟨Nat.le_of_ble_eq_true rfl, Nat.le_of_ble_eq_true rfl⟩ ⟨by show 7 + 2 * j + 1 + 1 ≤ 55; first | decide | omega, by show 112 + 17 * j + 9 + 8 ≤ 520; first | decide | omega⟩ dX3_init_60 (fun v770 r771 H locs h772 HX773 => ?_)
        obtain ⟨ev_r771, er_r771⟩ := Prod.mk.inj h772
        rw [ev_r771] at HX773
        have HX773 : fa_HX G (b + 8 + 2 * j + 2) v r771 s _ _ := HX773
        refine W.widen (k := 7 + 2 * j + 2) (n := 112 + 17 * j + 17) (by first | exact Nat.le_refl _ | omega) (by first | exact Nat.le_refl _ | omega) ?_
        refine fa_aast (k := b + 1) (j := j) (q := b + 8 + 2 * j) CX HX773 (by omega) (fa_s1 hB) rfl (by decide) (by omega) (by first | decide | assumption) (by omega) (fa_sf hB h_j) rfl dX3_init_63 (fun H locs r774 e775 HX776 => ?_)
        refine lv_iinc (v := nI (j + 1)) (lv' := [(1, .int (nI (j + 1))), (0, .ref (fa_B G + (b)))]) hx hb dX3_init_64 hl (k := 1) rfl (nI_add (j) 1) (by decide) rfl (fun ls hl => ?_)
        refine lv_goto (tgt := 45) hx hb dX3_init_67 (by decide) ?_
        refine W.widen (k := 7 + 2 * (j + 1)) (n := 112 + 17 * (j + 1)) (by omega) (by omega) ?_
        exact ih_45 (j + 1) r774 _ _ _ (by omega) (⟨by omega, ⟨(by rw [e775, fa_u_n _ _ (by omega), er_r771, fa_u_n _ _ (by omega)]; exact hi_45.2.1.1), (by rw [e775, fa_u_n _ _ (by omega), er_r771, fa_u_n _ _ (by omega)]; exact hi_45.2.1.2.1), (by rw [e775, fa_u_n _ _ (by omega), er_r771, fa_u_n _ _ (by omega)]; exact hi_45.2.1.2.2.1), (by rw [e775, fa_u_n _ _ (by omega), er_r771, fa_u_n _ _ (by omega)]; exact hi_45.2.1.2.2.2.1), (by rw [e775, fa_u_n _ _ (by omega), er_r771, fa_u_n _ _ (by omega)]; exact hi_45.2.1.2.2.2.2.1), (by rw [e775, fa_u_n _ _ (by omega), er_r771, fa_u_n _ _ (by omega)]; exact hi_45.2.1.2.2.2.2.2.1), (by rw [e775, fa_u_n _ _ (by omega), er_r771, fa_u_n _ _ (by omega)]; exact hi_45.2.1.2.2.2.2.2.2)⟩, (fun p hp => by (by_cases z : p = j; (rw [z, e775, fa_u_s]); rw [e775, fa_u_n _ _ (by omega), er_r771, fa_u_n _ _ (by omega)]; exact hi_45.2.2.1 p (by omega))), (fun p hp => by (by_cases z : p = j; (rw [z, e775, fa_u_n _ _ (by omega), er_r771, fa_u_s]; congr 1; omega); rw [e775, fa_u_n _ _ (by omega), er_r771, fa_u_n _ _ (by omega)]; exact hi_45.2.2.2.1 p (by omega))), (fun q hq => by (rw [e775, fa_u_k _ _ (by omega), er_r771, fa_u_k _ _ (by omega)]; exact hi_45.2.2.2.2 q (by omega)))⟩) (lv_sub hl [1, 0] rfl) HX776
  refine W.widen (k := 7 + 2 * 0) (n := 112 + 17 * 0) (by omega) (by omega) ?_
  exact LOOP_45 (24 - 0 + 1) (0) r761 _ _ _ (Nat.lt_succ_self _) (⟨Nat.zero_le _, ⟨(by simp [er762, er758, er_r754, er750, er_r746, er742, fa_u]), (by simp [er762, er758, er_r754, er750, er_r746, er742, fa_u]), (by simp [er762, er758, er_r754, er750, er_r746, er742, fa_u]), (by simp [er762, er758, er_r754, er750, er_r746, er742, fa_u]), (by simp [er762, er758, er_r754, er750, er_r746, er742, fa_u]), (by simp [er762, er758, er_r754, er750, er_r746, er742, fa_u]), (by simp [er762, er758, er_r754, er750, er_r746, er742, fa_u])⟩, (fun p hp => absurd hp (Nat.not_lt_zero _)), (fun p hp => absurd hp (Nat.not_lt_zero _)), (fun q hq => by (rw [er762, fa_u_k _ _ (by omega)]; rw [er758, fa_u_k _ _ (by omega)]; rw [er_r754, fa_u_k _ _ (by omega)]; rw [er750, fa_u_k _ _ (by omega)]; rw [er_r746, fa_u_k _ _ (by omega), fa_u_k _ _ (by omega)]; rw [er742, fa_u_k _ _ (by omega)]))⟩) (lv_sub hl [1, 0] rfl) HX763
