set_option maxHeartbeats 4000000 in
set_option maxRecDepth 100000 in
theorem p1f_add (l : Launch) (G : fa_G) (n : Nat) (hn : 397 ≤ n) (v : fa_V) (r : fa_R) (hA : fa_RA r) (hH : ∀ i, i < 5 → r 114 i = some (115 + 56 * i)) (hr1 : fa_RS r 1) (hr57 : fa_RS r 57) (hr115 : fa_RS r 115) (hF : fa_FV v) (a1 : Int32) (a2 : Int32) : fa_MI l G n yX6_add cX6_add 3 (some .int) 6 [.ref (fa_B G + (0)), .int (a1), .int (a2)] v r (fa_voi r (fun x v1 => (x = if a1 < 0 ∨ nI 4 < a1 ∨ a2 < nI 1 ∨ ¬ a2 ≤ nI 50 then (-2 : Int32) else nI 0) ∧ (fa_fr (0) (397) v v1))) := by
  refine fa_startI (by decide +kernel) (Nat.le_of_ble_eq_true rfl) (fun p e s m args below meth c ls Q CX hl HX RET => ?_)
  have hl : lv_has ls 3 [(0, .ref (fa_B G + (0))), (1, .int (a1)), (2, .int (a2))] := hl
  have hx := CX.1.1
  have hb := CX.1.2.1
  refine lv_aload_n hx hb dX6_add_0 rfl (lv_at hl 0 rfl) ?_
  refine fa_getr (k := 0) (j := 113) CX HX fl_X6_22 (by omega) rfl rfl hA.2.2.1 dX6_add_1 ?_
  refine lv_aload_n hx hb dX6_add_4 rfl (lv_at hl 0 rfl) ?_
  refine fa_getr (k := 0) (j := 1) CX HX fl_X6_10 (by omega) rfl rfl hA.1 dX6_add_5 ?_
  refine fa_callVvu (As := [.ref (fa_B G + (1))]) (rest := []) CX HX (p1_draft l G n hn v r hA hH hr1 hr57 hr115  hF.1 (hF.2.1 1 (by decide))) ln_X6_33 (by omega) rfl rfl rfl rfl (Nat.le_of_ble_eq_true rfl) hl.1 ⟨Nat.le_of_ble_eq_true rfl, Nat.le_of_ble_eq_true rfl⟩ ⟨Nat.le_refl _, Nat.le_refl _⟩ dX6_add_8 (fun v172 H locs h171 HX173 => ?_)
  refine lv_aload_n hx hb dX6_add_11 rfl (lv_at hl 0 rfl) ?_
  refine lv_aload_n hx hb dX6_add_12 rfl (lv_at hl 0 rfl) ?_
  refine fa_getr (k := 0) (j := 1) CX HX173 fl_X6_10 (by omega) rfl rfl hA.1 dX6_add_13 ?_
  refine lv_iload_n hx hb dX6_add_16 rfl (lv_at hl 1 rfl) ?_
  refine lv_iload_n hx hb dX6_add_17 rfl (lv_at hl 2 rfl) ?_
  refine fa_callViu (As := [.int (a1), .int (a2)]) (rest := [.ref (fa_B G + (0))]) CX HX173 (p1_addFile l G n hn v172 r 1 (by decide) hr1 (a1) (a2) (by rw [show v172 1 1 = (0 : Int32) by simp [(hF.2.1 1 (by decide)), h171 1 (by omega)]]; try rfl) (by rw [show v172 1 2 = (0 : Int32) by simp [(hF.2.1 2 (by decide)), h171 1 (by omega)]]; try rfl) ((by rw [show v172 (1 + 7) 6 = (300 : Int32) by simp [(show v (1 + 7) 6 = (300 : Int32) from hF.2.2.2.2.1 6 (by decide)), h171 (1 + 7) (by omega)]]; try rfl))) ln_X6_37 (fa_lt (by decide) 0 (by decide) hn) (fa_s0 (by decide)) rfl rfl rfl (Nat.le_of_ble_eq_true rfl) hl.1 ⟨Nat.le_of_ble_eq_true rfl, Nat.le_of_ble_eq_true rfl⟩ ⟨Nat.le_refl _, Nat.le_refl _⟩ dX6_add_18 (fun x175 v176 H locs h174 HX177 => ?_)
  have h_addFile := h174.1
  refine fa_callViu (As := [.int (x175)]) (rest := []) CX HX177 (p1_recorded l G n hn v176 r hA hH hr1 hr57 hr115 (x175) (by rw [show v176 113 0 = (0 : Int32) by simp [hF.1, h171 113 (by omega), h174.2 113 (by omega)]]; try rfl)) ln_X6_41 (by omega) rfl rfl rfl rfl (Nat.le_of_ble_eq_true rfl) hl.1 ⟨Nat.le_of_ble_eq_true rfl, Nat.le_of_ble_eq_true rfl⟩ ⟨Nat.le_refl _, Nat.le_refl _⟩ dX6_add_21 (fun x179 v180 H locs h178 HX181 => ?_)
  have h_re := h178.1
  exact RET _ _ _ _ _ _ _ HX181 dX6_add_24 (⟨rfl, ⟨(by rw [h_re]; exact h_addFile), (fa_fr.tr (fa_fr.tr (fa_fr.tr fa_fr.rf (fa_fr.wide h171 (by omega) (by omega))) (fa_fr.wide h174.2 (by omega) (by omega))) (fa_fr.wide h178.2 (by omega) (by omega)))⟩⟩)
set_option maxHeartbeats 4000000 in
set_option maxRecDepth 100000 in
theorem p1f_ask (l : Launch) (G : fa_G) (n : Nat) (hn : 397 ≤ n) (v : fa_V) (r : fa_R) (hA : fa_RA r) (hH : ∀ i, i < 5 → r 114 i = some (115 + 56 * i)) (hr1 : fa_RS r 1) (hr57 : fa_RS r 57) (hr115 : fa_RS r 115) (hF : fa_FV v) (a1 : Int32) : fa_MI l G n yX6_ask cX6_ask 2 (some .int) 6 [.ref (fa_B G + (0)), .int (a1)] v r (fa_voi r (fun x v1 => (x = (-1 : Int32)) ∧ (fa_fr (0) (397) v v1))) := by
  refine fa_startI (by decide +kernel) (Nat.le_of_ble_eq_true rfl) (fun p e s m args below meth c ls Q CX hl HX RET => ?_)
  have hl : lv_has ls 2 [(0, .ref (fa_B G + (0))), (1, .int (a1))] := hl
  have hx := CX.1.1
  have hb := CX.1.2.1
  refine lv_aload_n hx hb dX6_ask_0 rfl (lv_at hl 0 rfl) ?_
  refine fa_getr (k := 0) (j := 113) CX HX fl_X6_22 (by omega) rfl rfl hA.2.2.1 dX6_ask_1 ?_
  refine lv_aload_n hx hb dX6_ask_4 rfl (lv_at hl 0 rfl) ?_
  refine fa_getr (k := 0) (j := 1) CX HX fl_X6_10 (by omega) rfl rfl hA.1 dX6_ask_5 ?_
  refine fa_callVvu (As := [.ref (fa_B G + (1))]) (rest := []) CX HX (p1_draft l G n hn v r hA hH hr1 hr57 hr115  hF.1 (hF.2.1 1 (by decide))) ln_X6_33 (by omega) rfl rfl rfl rfl (Nat.le_of_ble_eq_true rfl) hl.1 ⟨Nat.le_of_ble_eq_true rfl, Nat.le_of_ble_eq_true rfl⟩ ⟨Nat.le_refl _, Nat.le_refl _⟩ dX6_ask_8 (fun v183 H locs h182 HX184 => ?_)
  refine lv_aload_n hx hb dX6_ask_11 rfl (lv_at hl 0 rfl) ?_
  refine lv_aload_n hx hb dX6_ask_12 rfl (lv_at hl 0 rfl) ?_
  refine fa_getr (k := 0) (j := 1) CX HX184 fl_X6_10 (by omega) rfl rfl hA.1 dX6_ask_13 ?_
  refine lv_iload_n hx hb dX6_ask_16 rfl (lv_at hl 1 rfl) ?_
  refine fa_callVip (As := [.int (a1)]) (rest := [.ref (fa_B G + (0))]) CX HX184 (p1_askFor l G n hn v183 r 1 (by decide) hr1 (a1) (by rw [show v183 1 2 = (0 : Int32) by simp [(hF.2.1 2 (by decide)), h182 1 (by omega)]]; try rfl)) ln_X6_45 (fa_lt (by decide) 0 (by decide) hn) (fa_s0 (by decide)) rfl rfl rfl (Nat.le_of_ble_eq_true rfl) hl.1 ⟨Nat.le_of_ble_eq_true rfl, Nat.le_of_ble_eq_true rfl⟩ ⟨Nat.le_refl _, Nat.le_refl _⟩ dX6_ask_17 (fun x186 H locs h185 HX187 => ?_)
  have hv_askFor := h185
  refine fa_callViu (As := [.int (x186)]) (rest := []) CX HX187 (p1_recorded l G n hn v183 r hA hH hr1 hr57 hr115 (x186) (by rw [show v183 113 0 = (0 : Int32) by simp [hF.1, h182 113 (by omega)]]; try rfl)) ln_X6_41 (by omega) rfl rfl rfl rfl (Nat.le_of_ble_eq_true rfl) hl.1 ⟨Nat.le_of_ble_eq_true rfl, Nat.le_of_ble_eq_true rfl⟩ ⟨Nat.le_refl _, Nat.le_refl _⟩ dX6_ask_20 (fun x189 v190 H locs h188 HX191 => ?_)
  have h_re := h188.1
  exact RET _ _ _ _ _ _ _ HX191 dX6_ask_23 (⟨rfl, ⟨(by rw [h_re]; exact hv_askFor), (fa_fr.tr (fa_fr.tr fa_fr.rf (fa_fr.wide h182 (by omega) (by omega))) (fa_fr.wide h188.2 (by omega) (by omega)))⟩⟩)
set_option maxHeartbeats 4000000 in
set_option maxRecDepth 100000 in
theorem p1f_seal (l : Launch) (G : fa_G) (n : Nat) (hn : 397 ≤ n) (v : fa_V) (r : fa_R) (hA : fa_RA r) (hH : ∀ i, i < 5 → r 114 i = some (115 + 56 * i)) (hr1 : fa_RS r 1) (hr57 : fa_RS r 57) (hr115 : fa_RS r 115) (hF : fa_FV v) (a1 : Int32) (a2 : Int32) (a3 : Int32) : fa_MI l G n yX6_seal cX6_seal 4 (some .int) 6 [.ref (fa_B G + (0)), .int (a1), .int (a2), .int (a3)] v r (fa_voi r (fun x v1 => (x = (-1 : Int32)) ∧ (fa_fr (0) (397) v v1))) := by
  refine fa_startI (by decide +kernel) (Nat.le_of_ble_eq_true rfl) (fun p e s m args below meth c ls Q CX hl HX RET => ?_)
  have hl : lv_has ls 4 [(0, .ref (fa_B G + (0))), (1, .int (a1)), (2, .int (a2)), (3, .int (a3))] := hl
  have hx := CX.1.1
  have hb := CX.1.2.1
  refine lv_aload_n hx hb dX6_seal_0 rfl (lv_at hl 0 rfl) ?_
  refine fa_getr (k := 0) (j := 113) CX HX fl_X6_22 (by omega) rfl rfl hA.2.2.1 dX6_seal_1 ?_
  refine lv_aload_n hx hb dX6_seal_4 rfl (lv_at hl 0 rfl) ?_
  refine fa_getr (k := 0) (j := 1) CX HX fl_X6_10 (by omega) rfl rfl hA.1 dX6_seal_5 ?_
  refine fa_callVvu (As := [.ref (fa_B G + (1))]) (rest := []) CX HX (p1_draft l G n hn v r hA hH hr1 hr57 hr115  hF.1 (hF.2.1 1 (by decide))) ln_X6_33 (by omega) rfl rfl rfl rfl (Nat.le_of_ble_eq_true rfl) hl.1 ⟨Nat.le_of_ble_eq_true rfl, Nat.le_of_ble_eq_true rfl⟩ ⟨Nat.le_refl _, Nat.le_refl _⟩ dX6_seal_8 (fun v193 H locs h192 HX194 => ?_)
  refine lv_aload_n hx hb dX6_seal_11 rfl (lv_at hl 0 rfl) ?_
  refine lv_aload_n hx hb dX6_seal_12 rfl (lv_at hl 0 rfl) ?_
  refine fa_getr (k := 0) (j := 1) CX HX194 fl_X6_10 (by omega) rfl rfl hA.1 dX6_seal_13 ?_
  refine lv_iload_n hx hb dX6_seal_16 rfl (lv_at hl 1 rfl) ?_
  refine lv_iload_n hx hb dX6_seal_17 rfl (lv_at hl 2 rfl) ?_
  refine lv_iload_n hx hb dX6_seal_18 rfl (lv_at hl 3 rfl) ?_
  refine fa_callVip (As := [.int (a1), .int (a2), .int (a3)]) (rest := [.ref (fa_B G + (0))]) CX HX194 (p1_putSeal l G n hn v193 r 1 (by decide) hr1 (a1) (a2) (a3) (by rw [show v193 1 1 = (0 : Int32) by simp [(hF.2.1 1 (by decide)), h192 1 (by omega)]]; try rfl)) ln_X6_48 (fa_lt (by decide) 0 (by decide) hn) (fa_s0 (by decide)) rfl rfl rfl (Nat.le_of_ble_eq_true rfl) hl.1 ⟨Nat.le_of_ble_eq_true rfl, Nat.le_of_ble_eq_true rfl⟩ ⟨Nat.le_refl _, Nat.le_refl _⟩ dX6_seal_19 (fun x196 H locs h195 HX197 => ?_)
  have hv_putSeal := h195
  refine fa_callViu (As := [.int (x196)]) (rest := []) CX HX197 (p1_recorded l G n hn v193 r hA hH hr1 hr57 hr115 (x196) (by rw [show v193 113 0 = (0 : Int32) by simp [hF.1, h192 113 (by omega)]]; try rfl)) ln_X6_41 (by omega) rfl rfl rfl rfl (Nat.le_of_ble_eq_true rfl) hl.1 ⟨Nat.le_of_ble_eq_true rfl, Nat.le_of_ble_eq_true rfl⟩ ⟨Nat.le_refl _, Nat.le_refl _⟩ dX6_seal_22 (fun x199 v200 H locs h198 HX201 => ?_)
  have h_re := h198.1
  exact RET _ _ _ _ _ _ _ HX201 dX6_seal_25 (⟨rfl, ⟨(by rw [h_re]; exact hv_putSeal), (fa_fr.tr (fa_fr.tr fa_fr.rf (fa_fr.wide h192 (by omega) (by omega))) (fa_fr.wide h198.2 (by omega) (by omega)))⟩⟩)
set_option maxHeartbeats 4000000 in
set_option maxRecDepth 100000 in
theorem p1f_lift (l : Launch) (G : fa_G) (n : Nat) (hn : 397 ≤ n) (v : fa_V) (r : fa_R) (hA : fa_RA r) (hH : ∀ i, i < 5 → r 114 i = some (115 + 56 * i)) (hr1 : fa_RS r 1) (hr57 : fa_RS r 57) (hr115 : fa_RS r 115) (hF : fa_FV v) (a1 : Int32) (a2 : Int32) : fa_MI l G n yX6_lift cX6_lift 3 (some .int) 6 [.ref (fa_B G + (0)), .int (a1), .int (a2)] v r (fa_voi r (fun x v1 => (x = (-1 : Int32)) ∧ (fa_fr (0) (397) v v1))) := by
  refine fa_startI (by decide +kernel) (Nat.le_of_ble_eq_true rfl) (fun p e s m args below meth c ls Q CX hl HX RET => ?_)
  have hl : lv_has ls 3 [(0, .ref (fa_B G + (0))), (1, .int (a1)), (2, .int (a2))] := hl
  have hx := CX.1.1
  have hb := CX.1.2.1
  refine lv_aload_n hx hb dX6_lift_0 rfl (lv_at hl 0 rfl) ?_
  refine fa_getr (k := 0) (j := 113) CX HX fl_X6_22 (by omega) rfl rfl hA.2.2.1 dX6_lift_1 ?_
  refine lv_aload_n hx hb dX6_lift_4 rfl (lv_at hl 0 rfl) ?_
  refine fa_getr (k := 0) (j := 1) CX HX fl_X6_10 (by omega) rfl rfl hA.1 dX6_lift_5 ?_
  refine fa_callVvu (As := [.ref (fa_B G + (1))]) (rest := []) CX HX (p1_draft l G n hn v r hA hH hr1 hr57 hr115  hF.1 (hF.2.1 1 (by decide))) ln_X6_33 (by omega) rfl rfl rfl rfl (Nat.le_of_ble_eq_true rfl) hl.1 ⟨Nat.le_of_ble_eq_true rfl, Nat.le_of_ble_eq_true rfl⟩ ⟨Nat.le_refl _, Nat.le_refl _⟩ dX6_lift_8 (fun v203 H locs h202 HX204 => ?_)
  refine lv_aload_n hx hb dX6_lift_11 rfl (lv_at hl 0 rfl) ?_
  refine lv_aload_n hx hb dX6_lift_12 rfl (lv_at hl 0 rfl) ?_
  refine fa_getr (k := 0) (j := 1) CX HX204 fl_X6_10 (by omega) rfl rfl hA.1 dX6_lift_13 ?_
  refine lv_iload_n hx hb dX6_lift_16 rfl (lv_at hl 1 rfl) ?_
  refine lv_iload_n hx hb dX6_lift_17 rfl (lv_at hl 2 rfl) ?_
  refine fa_callVip (As := [.int (a1), .int (a2)]) (rest := [.ref (fa_B G + (0))]) CX HX204 (p1_takeSeal l G n hn v203 r 1 (by decide) hr1 (a1) (a2) (by rw [show v203 1 1 = (0 : Int32) by simp [(hF.2.1 1 (by decide)), h202 1 (by omega)]]; try rfl)) ln_X6_52 (fa_lt (by decide) 0 (by decide) hn) (fa_s0 (by decide)) rfl rfl rfl (Nat.le_of_ble_eq_true rfl) hl.1 ⟨Nat.le_of_ble_eq_true rfl, Nat.le_of_ble_eq_true rfl⟩ ⟨Nat.le_refl _, Nat.le_refl _⟩ dX6_lift_18 (fun x206 H locs h205 HX207 => ?_)
  have hv_takeSeal := h205
  refine fa_callViu (As := [.int (x206)]) (rest := []) CX HX207 (p1_recorded l G n hn v203 r hA hH hr1 hr57 hr115 (x206) (by rw [show v203 113 0 = (0 : Int32) by simp [hF.1, h202 113 (by omega)]]; try rfl)) ln_X6_41 (by omega) rfl rfl rfl rfl (Nat.le_of_ble_eq_true rfl) hl.1 ⟨Nat.le_of_ble_eq_true rfl, Nat.le_of_ble_eq_true rfl⟩ ⟨Nat.le_refl _, Nat.le_refl _⟩ dX6_lift_21 (fun x209 v210 H locs h208 HX211 => ?_)
  have h_re := h208.1
  exact RET _ _ _ _ _ _ _ HX211 dX6_lift_24 (⟨rfl, ⟨(by rw [h_re]; exact hv_takeSeal), (fa_fr.tr (fa_fr.tr fa_fr.rf (fa_fr.wide h202 (by omega) (by omega))) (fa_fr.wide h208.2 (by omega) (by omega)))⟩⟩)
set_option maxHeartbeats 4000000 in
set_option maxRecDepth 100000 in
theorem p1f_refer (l : Launch) (G : fa_G) (n : Nat) (hn : 397 ≤ n) (v : fa_V) (r : fa_R) (hA : fa_RA r) (hH : ∀ i, i < 5 → r 114 i = some (115 + 56 * i)) (hr1 : fa_RS r 1) (hr57 : fa_RS r 57) (hr115 : fa_RS r 115) (hF : fa_FV v) (a1 : Int32) (a2 : Int32) : fa_MI l G n yX6_refer cX6_refer 3 (some .int) 6 [.ref (fa_B G + (0)), .int (a1), .int (a2)] v r (fa_voi r (fun x v1 => (x = (-1 : Int32)) ∧ (fa_fr (0) (397) v v1))) := by
  refine fa_startI (by decide +kernel) (Nat.le_of_ble_eq_true rfl) (fun p e s m args below meth c ls Q CX hl HX RET => ?_)
  have hl : lv_has ls 3 [(0, .ref (fa_B G + (0))), (1, .int (a1)), (2, .int (a2))] := hl
  have hx := CX.1.1
  have hb := CX.1.2.1
  refine lv_aload_n hx hb dX6_refer_0 rfl (lv_at hl 0 rfl) ?_
  refine fa_getr (k := 0) (j := 113) CX HX fl_X6_22 (by omega) rfl rfl hA.2.2.1 dX6_refer_1 ?_
  refine lv_aload_n hx hb dX6_refer_4 rfl (lv_at hl 0 rfl) ?_
  refine fa_getr (k := 0) (j := 1) CX HX fl_X6_10 (by omega) rfl rfl hA.1 dX6_refer_5 ?_
  refine fa_callVvu (As := [.ref (fa_B G + (1))]) (rest := []) CX HX (p1_draft l G n hn v r hA hH hr1 hr57 hr115  hF.1 (hF.2.1 1 (by decide))) ln_X6_33 (by omega) rfl rfl rfl rfl (Nat.le_of_ble_eq_true rfl) hl.1 ⟨Nat.le_of_ble_eq_true rfl, Nat.le_of_ble_eq_true rfl⟩ ⟨Nat.le_refl _, Nat.le_refl _⟩ dX6_refer_8 (fun v213 H locs h212 HX214 => ?_)
  refine lv_aload_n hx hb dX6_refer_11 rfl (lv_at hl 0 rfl) ?_
  refine lv_aload_n hx hb dX6_refer_12 rfl (lv_at hl 0 rfl) ?_
  refine fa_getr (k := 0) (j := 1) CX HX214 fl_X6_10 (by omega) rfl rfl hA.1 dX6_refer_13 ?_
  refine lv_iload_n hx hb dX6_refer_16 rfl (lv_at hl 1 rfl) ?_
  refine lv_iload_n hx hb dX6_refer_17 rfl (lv_at hl 2 rfl) ?_
  refine fa_callVip (As := [.int (a1), .int (a2)]) (rest := [.ref (fa_B G + (0))]) CX HX214 (p1_putReference l G n hn v213 r 1 (by decide) hr1 (a1) (a2) (by rw [show v213 1 1 = (0 : Int32) by simp [(hF.2.1 1 (by decide)), h212 1 (by omega)]]; try rfl)) ln_X6_55 (fa_lt (by decide) 0 (by decide) hn) (fa_s0 (by decide)) rfl rfl rfl (Nat.le_of_ble_eq_true rfl) hl.1 ⟨Nat.le_of_ble_eq_true rfl, Nat.le_of_ble_eq_true rfl⟩ ⟨Nat.le_refl _, Nat.le_refl _⟩ dX6_refer_18 (fun x216 H locs h215 HX217 => ?_)
  have hv_putReference := h215
  refine fa_callViu (As := [.int (x216)]) (rest := []) CX HX217 (p1_recorded l G n hn v213 r hA hH hr1 hr57 hr115 (x216) (by rw [show v213 113 0 = (0 : Int32) by simp [hF.1, h212 113 (by omega)]]; try rfl)) ln_X6_41 (by omega) rfl rfl rfl rfl (Nat.le_of_ble_eq_true rfl) hl.1 ⟨Nat.le_of_ble_eq_true rfl, Nat.le_of_ble_eq_true rfl⟩ ⟨Nat.le_refl _, Nat.le_refl _⟩ dX6_refer_21 (fun x219 v220 H locs h218 HX221 => ?_)
  have h_re := h218.1
  exact RET _ _ _ _ _ _ _ HX221 dX6_refer_24 (⟨rfl, ⟨(by rw [h_re]; exact hv_putReference), (fa_fr.tr (fa_fr.tr fa_fr.rf (fa_fr.wide h212 (by omega) (by omega))) (fa_fr.wide h218.2 (by omega) (by omega)))⟩⟩)
set_option maxHeartbeats 4000000 in
set_option maxRecDepth 100000 in
theorem p1f_reserve (l : Launch) (G : fa_G) (n : Nat) (hn : 397 ≤ n) (v : fa_V) (r : fa_R) (hA : fa_RA r) (hH : ∀ i, i < 5 → r 114 i = some (115 + 56 * i)) (hr1 : fa_RS r 1) (hr57 : fa_RS r 57) (hr115 : fa_RS r 115) (hF : fa_FV v) (a1 : Int32) (a2 : Int32) : fa_MI l G n yX6_reserve cX6_reserve 3 (some .int) 6 [.ref (fa_B G + (0)), .int (a1), .int (a2)] v r (fa_voi r (fun x v1 => (x = (-1 : Int32)) ∧ (fa_fr (0) (397) v v1))) := by
  refine fa_startI (by decide +kernel) (Nat.le_of_ble_eq_true rfl) (fun p e s m args below meth c ls Q CX hl HX RET => ?_)
  have hl : lv_has ls 3 [(0, .ref (fa_B G + (0))), (1, .int (a1)), (2, .int (a2))] := hl
  have hx := CX.1.1
  have hb := CX.1.2.1
  refine lv_aload_n hx hb dX6_reserve_0 rfl (lv_at hl 0 rfl) ?_
  refine fa_getr (k := 0) (j := 113) CX HX fl_X6_22 (by omega) rfl rfl hA.2.2.1 dX6_reserve_1 ?_
  refine lv_aload_n hx hb dX6_reserve_4 rfl (lv_at hl 0 rfl) ?_
  refine fa_getr (k := 0) (j := 1) CX HX fl_X6_10 (by omega) rfl rfl hA.1 dX6_reserve_5 ?_
  refine fa_callVvu (As := [.ref (fa_B G + (1))]) (rest := []) CX HX (p1_draft l G n hn v r hA hH hr1 hr57 hr115  hF.1 (hF.2.1 1 (by decide))) ln_X6_33 (by omega) rfl rfl rfl rfl (Nat.le_of_ble_eq_true rfl) hl.1 ⟨Nat.le_of_ble_eq_true rfl, Nat.le_of_ble_eq_true rfl⟩ ⟨Nat.le_refl _, Nat.le_refl _⟩ dX6_reserve_8 (fun v223 H locs h222 HX224 => ?_)
  refine lv_aload_n hx hb dX6_reserve_11 rfl (lv_at hl 0 rfl) ?_
  refine lv_aload_n hx hb dX6_reserve_12 rfl (lv_at hl 0 rfl) ?_
  refine fa_getr (k := 0) (j := 1) CX HX224 fl_X6_10 (by omega) rfl rfl hA.1 dX6_reserve_13 ?_
  refine lv_iload_n hx hb dX6_reserve_16 rfl (lv_at hl 1 rfl) ?_
  refine lv_iload_n hx hb dX6_reserve_17 rfl (lv_at hl 2 rfl) ?_
  refine fa_callVip (As := [.int (a1), .int (a2)]) (rest := [.ref (fa_B G + (0))]) CX HX224 (p1_putReservation l G n hn v223 r 1 (by decide) hr1 (a1) (a2) (by rw [show v223 1 1 = (0 : Int32) by simp [(hF.2.1 1 (by decide)), h222 1 (by omega)]]; try rfl)) ln_X6_58 (fa_lt (by decide) 0 (by decide) hn) (fa_s0 (by decide)) rfl rfl rfl (Nat.le_of_ble_eq_true rfl) hl.1 ⟨Nat.le_of_ble_eq_true rfl, Nat.le_of_ble_eq_true rfl⟩ ⟨Nat.le_refl _, Nat.le_refl _⟩ dX6_reserve_18 (fun x226 H locs h225 HX227 => ?_)
  have hv_putReservation := h225
  refine fa_callViu (As := [.int (x226)]) (rest := []) CX HX227 (p1_recorded l G n hn v223 r hA hH hr1 hr57 hr115 (x226) (by rw [show v223 113 0 = (0 : Int32) by simp [hF.1, h222 113 (by omega)]]; try rfl)) ln_X6_41 (by omega) rfl rfl rfl rfl (Nat.le_of_ble_eq_true rfl) hl.1 ⟨Nat.le_of_ble_eq_true rfl, Nat.le_of_ble_eq_true rfl⟩ ⟨Nat.le_refl _, Nat.le_refl _⟩ dX6_reserve_21 (fun x229 v230 H locs h228 HX231 => ?_)
  have h_re := h228.1
  exact RET _ _ _ _ _ _ _ HX231 dX6_reserve_24 (⟨rfl, ⟨(by rw [h_re]; exact hv_putReservation), (fa_fr.tr (fa_fr.tr fa_fr.rf (fa_fr.wide h222 (by omega) (by omega))) (fa_fr.wide h228.2 (by omega) (by omega)))⟩⟩)
set_option maxHeartbeats 4000000 in
set_option maxRecDepth 100000 in
theorem p1f_cancel (l : Launch) (G : fa_G) (n : Nat) (hn : 397 ≤ n) (v : fa_V) (r : fa_R) (hA : fa_RA r) (hH : ∀ i, i < 5 → r 114 i = some (115 + 56 * i)) (hr1 : fa_RS r 1) (hr57 : fa_RS r 57) (hr115 : fa_RS r 115) (hF : fa_FV v) (a1 : Int32) (a2 : Int32) : fa_MI l G n yX6_cancel cX6_cancel 3 (some .int) 6 [.ref (fa_B G + (0)), .int (a1), .int (a2)] v r (fa_voi r (fun x v1 => (x = (-1 : Int32)) ∧ (fa_fr (0) (397) v v1))) := by
  refine fa_startI (by decide +kernel) (Nat.le_of_ble_eq_true rfl) (fun p e s m args below meth c ls Q CX hl HX RET => ?_)
  have hl : lv_has ls 3 [(0, .ref (fa_B G + (0))), (1, .int (a1)), (2, .int (a2))] := hl
  have hx := CX.1.1
  have hb := CX.1.2.1
  refine lv_aload_n hx hb dX6_cancel_0 rfl (lv_at hl 0 rfl) ?_
  refine fa_getr (k := 0) (j := 113) CX HX fl_X6_22 (by omega) rfl rfl hA.2.2.1 dX6_cancel_1 ?_
  refine lv_aload_n hx hb dX6_cancel_4 rfl (lv_at hl 0 rfl) ?_
  refine fa_getr (k := 0) (j := 1) CX HX fl_X6_10 (by omega) rfl rfl hA.1 dX6_cancel_5 ?_
  refine fa_callVvu (As := [.ref (fa_B G + (1))]) (rest := []) CX HX (p1_draft l G n hn v r hA hH hr1 hr57 hr115  hF.1 (hF.2.1 1 (by decide))) ln_X6_33 (by omega) rfl rfl rfl rfl (Nat.le_of_ble_eq_true rfl) hl.1 ⟨Nat.le_of_ble_eq_true rfl, Nat.le_of_ble_eq_true rfl⟩ ⟨Nat.le_refl _, Nat.le_refl _⟩ dX6_cancel_8 (fun v233 H locs h232 HX234 => ?_)
  refine lv_aload_n hx hb dX6_cancel_11 rfl (lv_at hl 0 rfl) ?_
  refine lv_aload_n hx hb dX6_cancel_12 rfl (lv_at hl 0 rfl) ?_
  refine fa_getr (k := 0) (j := 1) CX HX234 fl_X6_10 (by omega) rfl rfl hA.1 dX6_cancel_13 ?_
  refine lv_iload_n hx hb dX6_cancel_16 rfl (lv_at hl 1 rfl) ?_
  refine lv_iload_n hx hb dX6_cancel_17 rfl (lv_at hl 2 rfl) ?_
  refine fa_callVip (As := [.int (a1), .int (a2)]) (rest := [.ref (fa_B G + (0))]) CX HX234 (p1_takeReservation l G n hn v233 r 1 (by decide) hr1 (a1) (a2) (by rw [show v233 (1 + 2) 0 = (0 : Int32) by simp [hF.2.2.1, h232 (1 + 2) (by omega)]]; try rfl)) ln_X6_61 (fa_lt (by decide) 0 (by decide) hn) (fa_s0 (by decide)) rfl rfl rfl (Nat.le_of_ble_eq_true rfl) hl.1 ⟨Nat.le_of_ble_eq_true rfl, Nat.le_of_ble_eq_true rfl⟩ ⟨Nat.le_refl _, Nat.le_refl _⟩ dX6_cancel_18 (fun x236 H locs h235 HX237 => ?_)
  have hv_takeReservation := h235
  refine fa_callViu (As := [.int (x236)]) (rest := []) CX HX237 (p1_recorded l G n hn v233 r hA hH hr1 hr57 hr115 (x236) (by rw [show v233 113 0 = (0 : Int32) by simp [hF.1, h232 113 (by omega)]]; try rfl)) ln_X6_41 (by omega) rfl rfl rfl rfl (Nat.le_of_ble_eq_true rfl) hl.1 ⟨Nat.le_of_ble_eq_true rfl, Nat.le_of_ble_eq_true rfl⟩ ⟨Nat.le_refl _, Nat.le_refl _⟩ dX6_cancel_21 (fun x239 v240 H locs h238 HX241 => ?_)
  have h_re := h238.1
  exact RET _ _ _ _ _ _ _ HX241 dX6_cancel_24 (⟨rfl, ⟨(by rw [h_re]; exact hv_takeReservation), (fa_fr.tr (fa_fr.tr fa_fr.rf (fa_fr.wide h232 (by omega) (by omega))) (fa_fr.wide h238.2 (by omega) (by omega)))⟩⟩)
set_option maxHeartbeats 4000000 in
set_option maxRecDepth 100000 in
theorem p1f_pass (l : Launch) (G : fa_G) (n : Nat) (hn : 397 ≤ n) (v : fa_V) (r : fa_R) (hA : fa_RA r) (hH : ∀ i, i < 5 → r 114 i = some (115 + 56 * i)) (hr1 : fa_RS r 1) (hr57 : fa_RS r 57) (hr115 : fa_RS r 115) (hF : fa_FV v) (a1 : Int32) : fa_MI l G n yX6_pass cX6_pass 2 (some .int) 6 [.ref (fa_B G + (0)), .int (a1)] v r (fa_voi r (fun x v1 => (x = if a1 < nI 1 ∨ ¬ a1 ≤ nI 400 then (-2 : Int32) else nI 0) ∧ (fa_fr (0) (397) v v1))) := by
  refine fa_startI (by decide +kernel) (Nat.le_of_ble_eq_true rfl) (fun p e s m args below meth c ls Q CX hl HX RET => ?_)
  have hl : lv_has ls 2 [(0, .ref (fa_B G + (0))), (1, .int (a1))] := hl
  have hx := CX.1.1
  have hb := CX.1.2.1
  refine lv_aload_n hx hb dX6_pass_0 rfl (lv_at hl 0 rfl) ?_
  refine fa_getr (k := 0) (j := 113) CX HX fl_X6_22 (by omega) rfl rfl hA.2.2.1 dX6_pass_1 ?_
  refine lv_aload_n hx hb dX6_pass_4 rfl (lv_at hl 0 rfl) ?_
  refine fa_getr (k := 0) (j := 1) CX HX fl_X6_10 (by omega) rfl rfl hA.1 dX6_pass_5 ?_
  refine fa_callVvu (As := [.ref (fa_B G + (1))]) (rest := []) CX HX (p1_draft l G n hn v r hA hH hr1 hr57 hr115  hF.1 (hF.2.1 1 (by decide))) ln_X6_33 (by omega) rfl rfl rfl rfl (Nat.le_of_ble_eq_true rfl) hl.1 ⟨Nat.le_of_ble_eq_true rfl, Nat.le_of_ble_eq_true rfl⟩ ⟨Nat.le_refl _, Nat.le_refl _⟩ dX6_pass_8 (fun v243 H locs h242 HX244 => ?_)
  refine lv_aload_n hx hb dX6_pass_11 rfl (lv_at hl 0 rfl) ?_
  refine lv_aload_n hx hb dX6_pass_12 rfl (lv_at hl 0 rfl) ?_
  refine fa_getr (k := 0) (j := 1) CX HX244 fl_X6_10 (by omega) rfl rfl hA.1 dX6_pass_13 ?_
  refine lv_iload_n hx hb dX6_pass_16 rfl (lv_at hl 1 rfl) ?_
  refine fa_callViu (As := [.int (a1)]) (rest := [.ref (fa_B G + (0))]) CX HX244 (p1_passDays l G n hn v243 r 1 (by decide) hr1 (a1) (by rw [show v243 1 0 = (0 : Int32) by simp [(hF.2.1 0 (by decide)), h242 1 (by omega)]]; try rfl) (by rw [show v243 1 1 = (0 : Int32) by simp [(hF.2.1 1 (by decide)), h242 1 (by omega)]]; try rfl) (by rw [show v243 (1 + 2) 0 = (0 : Int32) by simp [hF.2.2.1, h242 (1 + 2) (by omega)]]; try rfl)) ln_X6_64 (fa_lt (by decide) 0 (by decide) hn) (fa_s0 (by decide)) rfl rfl rfl (Nat.le_of_ble_eq_true rfl) hl.1 ⟨Nat.le_of_ble_eq_true rfl, Nat.le_of_ble_eq_true rfl⟩ ⟨Nat.le_refl _, Nat.le_refl _⟩ dX6_pass_17 (fun x246 v247 H locs h245 HX248 => ?_)
  have h_passDays := h245.1
  refine fa_callViu (As := [.int (x246)]) (rest := []) CX HX248 (p1_recorded l G n hn v247 r hA hH hr1 hr57 hr115 (x246) (by rw [show v247 113 0 = (0 : Int32) by simp [hF.1, h242 113 (by omega), h245.2 113 (by omega)]]; try rfl)) ln_X6_41 (by omega) rfl rfl rfl rfl (Nat.le_of_ble_eq_true rfl) hl.1 ⟨Nat.le_of_ble_eq_true rfl, Nat.le_of_ble_eq_true rfl⟩ ⟨Nat.le_refl _, Nat.le_refl _⟩ dX6_pass_20 (fun x250 v251 H locs h249 HX252 => ?_)
  have h_re := h249.1
  exact RET _ _ _ _ _ _ _ HX252 dX6_pass_23 (⟨rfl, ⟨(by rw [h_re]; exact h_passDays), (fa_fr.tr (fa_fr.tr (fa_fr.tr fa_fr.rf (fa_fr.wide h242 (by omega) (by omega))) (fa_fr.wide h245.2 (by omega) (by omega))) (fa_fr.wide h249.2 (by omega) (by omega)))⟩⟩)
set_option maxHeartbeats 4000000 in
set_option maxRecDepth 100000 in
theorem p1f_set (l : Launch) (G : fa_G) (n : Nat) (hn : 397 ≤ n) (v : fa_V) (r : fa_R) (hA : fa_RA r) (hH : ∀ i, i < 5 → r 114 i = some (115 + 56 * i)) (hr1 : fa_RS r 1) (hr57 : fa_RS r 57) (hr115 : fa_RS r 115) (hF : fa_FV v) (a1 : Int32) (a2 : Int32) : fa_MI l G n yX6_set cX6_set 3 (some .int) 6 [.ref (fa_B G + (0)), .int (a1), .int (a2)] v r (fa_voi r (fun x v1 => (x = if a1 < 0 ∨ ¬ a1 < nI 7 then (-1 : Int32) else if a2 < fa_stV 1 a1.toNatClampNeg ∨ ¬ a2 ≤ fa_stV 2 a1.toNatClampNeg then (-2 : Int32) else fa_stV 0 a1.toNatClampNeg) ∧ (fa_fr (0) (397) v v1))) := by
  refine fa_startI (by decide +kernel) (Nat.le_of_ble_eq_true rfl) (fun p e s m args below meth c ls Q CX hl HX RET => ?_)
  have hl : lv_has ls 3 [(0, .ref (fa_B G + (0))), (1, .int (a1)), (2, .int (a2))] := hl
  have hx := CX.1.1
  have hb := CX.1.2.1
  refine lv_aload_n hx hb dX6_set_0 rfl (lv_at hl 0 rfl) ?_
  refine fa_getr (k := 0) (j := 113) CX HX fl_X6_22 (by omega) rfl rfl hA.2.2.1 dX6_set_1 ?_
  refine lv_aload_n hx hb dX6_set_4 rfl (lv_at hl 0 rfl) ?_
  refine fa_getr (k := 0) (j := 1) CX HX fl_X6_10 (by omega) rfl rfl hA.1 dX6_set_5 ?_
  refine fa_callVvu (As := [.ref (fa_B G + (1))]) (rest := []) CX HX (p1_draft l G n hn v r hA hH hr1 hr57 hr115  hF.1 (hF.2.1 1 (by decide))) ln_X6_33 (by omega) rfl rfl rfl rfl (Nat.le_of_ble_eq_true rfl) hl.1 ⟨Nat.le_of_ble_eq_true rfl, Nat.le_of_ble_eq_true rfl⟩ ⟨Nat.le_refl _, Nat.le_refl _⟩ dX6_set_8 (fun v254 H locs h253 HX255 => ?_)
  refine lv_aload_n hx hb dX6_set_11 rfl (lv_at hl 0 rfl) ?_
  refine lv_aload_n hx hb dX6_set_12 rfl (lv_at hl 0 rfl) ?_
  refine fa_getr (k := 0) (j := 1) CX HX255 fl_X6_10 (by omega) rfl rfl hA.1 dX6_set_13 ?_
  refine lv_iload_n hx hb dX6_set_16 rfl (lv_at hl 1 rfl) ?_
  refine lv_iload_n hx hb dX6_set_17 rfl (lv_at hl 2 rfl) ?_
  refine fa_callViu (As := [.int (a1), .int (a2)]) (rest := [.ref (fa_B G + (0))]) CX HX255 (p1_changeSetting l G n hn v254 r 1 (by decide) hr1 (a1) (a2) ) ln_X6_67 (fa_lt (by decide) 0 (by decide) hn) (fa_s0 (by decide)) rfl rfl rfl (Nat.le_of_ble_eq_true rfl) hl.1 ⟨Nat.le_of_ble_eq_true rfl, Nat.le_of_ble_eq_true rfl⟩ ⟨Nat.le_refl _, Nat.le_refl _⟩ dX6_set_18 (fun x257 v258 H locs h256 HX259 => ?_)
  have h_changeSetting := h256.1
  refine fa_callViu (As := [.int (x257)]) (rest := []) CX HX259 (p1_recorded l G n hn v258 r hA hH hr1 hr57 hr115 (x257) (by rw [show v258 113 0 = (0 : Int32) by simp [hF.1, h253 113 (by omega), h256.2 113 (by omega)]]; try rfl)) ln_X6_41 (by omega) rfl rfl rfl rfl (Nat.le_of_ble_eq_true rfl) hl.1 ⟨Nat.le_of_ble_eq_true rfl, Nat.le_of_ble_eq_true rfl⟩ ⟨Nat.le_refl _, Nat.le_refl _⟩ dX6_set_21 (fun x261 v262 H locs h260 HX263 => ?_)
  have h_re := h260.1
  exact RET _ _ _ _ _ _ _ HX263 dX6_set_24 (⟨rfl, ⟨(by rw [h_re, h_changeSetting]; exact fa_set_eq a1 a2 (fun j hj => by rw [h253 (1 + 7) (by omega)]; exact hF.2.2.2.2.1 j hj)), (fa_fr.tr (fa_fr.tr (fa_fr.tr fa_fr.rf (fa_fr.wide h253 (by omega) (by omega))) (fa_fr.wide h256.2 (by omega) (by omega))) (fa_fr.wide h260.2 (by omega) (by omega)))⟩⟩)
set_option maxHeartbeats 4000000 in
set_option maxRecDepth 100000 in
theorem p1f_append (l : Launch) (G : fa_G) (n : Nat) (hn : 397 ≤ n) (v : fa_V) (r : fa_R) (hA : fa_RA r) (hH : ∀ i, i < 5 → r 114 i = some (115 + 56 * i)) (hr1 : fa_RS r 1) (hr57 : fa_RS r 57) (hr115 : fa_RS r 115) (hF : fa_FV v) (a1 : Int32) : fa_MI l G n yX6_append cX6_append 2 (some .int) 3 [.ref (fa_B G + (0)), .int (a1)] v r (fa_voi r (fun x v1 => (x = if a1 < nI 32 ∨ ¬ a1 ≤ nI 126 then (-2 : Int32) else nI 1) ∧ (fa_fr (0) (397) v v1))) := by
  refine fa_startI (by decide +kernel) (Nat.le_of_ble_eq_true rfl) (fun p e s m args below meth c ls Q CX hl HX RET => ?_)
  have hl : lv_has ls 2 [(0, .ref (fa_B G + (0))), (1, .int (a1))] := hl
  have hx := CX.1.1
  have hb := CX.1.2.1
  refine lv_iload_n hx hb dX6_append_0 rfl (lv_at hl 1 rfl) ?_
  refine lv_bipush (v := nI (32)) hx hb dX6_append_1 (by decide) ?_
  refine lv_icmp_lt (tgt := 12) hx hb dX6_append_3 (by decide) (fun c_3 => ?_) (fun c_3 => ?_)
  · refine lv_bipush (v := (-2 : Int32)) hx hb dX6_append_12 (by decide) ?_
    exact RET _ _ _ _ _ _ _ HX dX6_append_14 (⟨rfl, ⟨(by simp [c_3]), fa_fr.rf⟩⟩)
  · refine lv_iload_n hx hb dX6_append_6 rfl (lv_at hl 1 rfl) ?_
    refine lv_bipush (v := nI (126)) hx hb dX6_append_7 (by decide) ?_
    refine lv_icmp_le (tgt := 15) hx hb dX6_append_9 (by decide) (fun c_9 => ?_) (fun c_9 => ?_)
    · refine lv_aload_n hx hb dX6_append_15 rfl (lv_at hl 0 rfl) ?_
      refine fa_getr (k := 0) (j := 395) CX HX fl_X6_29 (by omega) rfl rfl hA.2.2.2.1 dX6_append_16 ?_
      refine lv_iload_n hx hb dX6_append_19 rfl (lv_at hl 1 rfl) ?_
      refine lv_i2c hx hb dX6_append_20 rfl ?_
      refine fa_callViu (As := [.int (((a1).toUInt32 % 65536).toInt32)]) (rest := []) CX HX (p1_appendSign l G n hn v r hA hH hr1 hr57 hr115 (((a1).toUInt32 % 65536).toInt32) hF.2.2.2.2.2.1) ln_X6_70 (by omega) rfl rfl rfl rfl (Nat.le_of_ble_eq_true rfl) hl.1 ⟨Nat.le_of_ble_eq_true rfl, Nat.le_of_ble_eq_true rfl⟩ ⟨Nat.le_refl _, Nat.le_refl _⟩ dX6_append_21 (fun x265 v266 H locs h264 HX267 => ?_)
      have hv_appendSign := h264.1
      have h_appendSign := h264.2.1
      have kx_24 : x265 = (1 : Int32) := h264.1
      refine lv_if_eq (tgt := 37) hx hb dX6_append_24 (by decide) (fun c_24 => ?_) (fun c_24 => ?_)
      · exact absurd c_24 (by rw [kx_24]; try decide)
      · refine lv_aload_n hx hb dX6_append_27 rfl (lv_at hl 0 rfl) ?_
        refine fa_getr (k := 0) (j := 395) CX HX267 fl_X6_29 (by omega) rfl rfl hA.2.2.2.1 dX6_append_28 ?_
        refine fa_geti (k := 395) CX HX267 fl_X6_74 (by omega) rfl rfl dX6_append_31 ?_
        refine lv_goto (tgt := 39) hx hb dX6_append_34 (by decide) ?_
        exact RET _ _ _ _ _ _ _ HX267 dX6_append_39 (⟨rfl, ⟨(by rw [if_neg (by simp [c_3, c_9]), h_appendSign]), (fa_fr.tr fa_fr.rf (fa_fr.wide h264.2.2 (by omega) (by omega)))⟩⟩)
    · refine lv_bipush (v := (-2 : Int32)) hx hb dX6_append_12 (by decide) ?_
      exact RET _ _ _ _ _ _ _ HX dX6_append_14 (⟨rfl, ⟨(by simp [c_3, c_9]), fa_fr.rf⟩⟩)
set_option maxHeartbeats 4000000 in
set_option maxRecDepth 100000 in
theorem p1f_clearText (l : Launch) (G : fa_G) (n : Nat) (hn : 397 ≤ n) (v : fa_V) (r : fa_R) (hA : fa_RA r) (hH : ∀ i, i < 5 → r 114 i = some (115 + 56 * i)) (hr1 : fa_RS r 1) (hr57 : fa_RS r 57) (hr115 : fa_RS r 115) (hF : fa_FV v) : fa_MI l G n yX6_clearText cX6_clearText 2 (some .int) 1 [.ref (fa_B G + (0))] v r (fa_voi r (fun x v1 => (x = (0 : Int32)) ∧ (fa_fr (0) (397) v v1))) := by
  refine fa_startI (by decide +kernel) (Nat.le_of_ble_eq_true rfl) (fun p e s m args below meth c ls Q CX hl HX RET => ?_)
  have hl : lv_has ls 2 [(0, .ref (fa_B G + (0)))] := hl
  have hx := CX.1.1
  have hb := CX.1.2.1
  refine lv_aload_n hx hb dX6_clearText_0 rfl (lv_at hl 0 rfl) ?_
  refine fa_getr (k := 0) (j := 395) CX HX fl_X6_29 (by omega) rfl rfl hA.2.2.2.1 dX6_clearText_1 ?_
  refine fa_geti (k := 395) CX HX fl_X6_74 (by omega) rfl rfl dX6_clearText_4 ?_
  refine lv_istore_n (lv' := [(1, .int (v 395 1)), (0, .ref (fa_B G + (0)))]) hx hb dX6_clearText_7 rfl hl (by decide) rfl (fun ls hl => ?_)
  refine lv_aload_n hx hb dX6_clearText_8 rfl (lv_at hl 1 rfl) ?_
  refine fa_getr (k := 0) (j := 395) CX HX fl_X6_29 (by omega) rfl rfl hA.2.2.2.1 dX6_clearText_9 ?_
  refine lv_iconst (v := nI (0)) hx hb dX6_clearText_12 (by decide) ?_
  refine fa_puti (k := 395) CX HX fl_X6_74 (by omega) rfl rfl rfl rfl dX6_clearText_13 (fun H locs v268 e269 HX270 => ?_)
  refine lv_iload_n hx hb dX6_clearText_16 rfl (lv_at hl 0 rfl) ?_
  exact RET _ _ _ _ _ _ _ HX270 dX6_clearText_17 (⟨rfl, ⟨hF.2.2.2.2.2.1, (by rw [e269]; exact fa_fr.u fa_fr.rf (by omega))⟩⟩)
set_option maxHeartbeats 4000000 in
set_option maxRecDepth 100000 in
theorem p1f_fault (l : Launch) (G : fa_G) (n : Nat) (hn : 397 ≤ n) (v : fa_V) (r : fa_R) (hA : fa_RA r) (hH : ∀ i, i < 5 → r 114 i = some (115 + 56 * i)) (hr1 : fa_RS r 1) (hr57 : fa_RS r 57) (hr115 : fa_RS r 115) (hF : fa_FV v) : fa_MI l G n yX6_fault cX6_fault 1 (some .int) 4 [.ref (fa_B G + (0))] v r (fa_voi r (fun x v1 => (x = (0 : Int32)) ∧ (fa_fr (0) (397) v v1))) := by
  refine fa_startI (by decide +kernel) (Nat.le_of_ble_eq_true rfl) (fun p e s m args below meth c ls Q CX hl HX RET => ?_)
  have hl : lv_has ls 1 [(0, .ref (fa_B G + (0)))] := hl
  have hx := CX.1.1
  have hb := CX.1.2.1
  refine lv_aload_n hx hb dX6_fault_0 rfl (lv_at hl 0 rfl) ?_
  refine fa_getr (k := 0) (j := 395) CX HX fl_X6_29 (by omega) rfl rfl hA.2.2.2.1 dX6_fault_1 ?_
  refine fa_callViu (As := []) (rest := []) CX HX (p1_findFault l G n hn v r hA hH hr1 hr57 hr115  hF.2.2.2.2.2.1) ln_X6_78 (by omega) rfl rfl rfl rfl (Nat.le_of_ble_eq_true rfl) hl.1 ⟨Nat.le_of_ble_eq_true rfl, Nat.le_of_ble_eq_true rfl⟩ ⟨Nat.le_refl _, Nat.le_refl _⟩ dX6_fault_4 (fun x272 v273 H locs h271 HX274 => ?_)
  have hv_findFault := h271.1
  exact RET _ _ _ _ _ _ _ HX274 dX6_fault_7 (⟨rfl, ⟨hv_findFault, (fa_fr.tr fa_fr.rf (fa_fr.wide h271.2 (by omega) (by omega)))⟩⟩)
set_option maxHeartbeats 4000000 in
set_option maxRecDepth 100000 in
theorem p1f_run (l : Launch) (G : fa_G) (n : Nat) (hn : 397 ≤ n) (v : fa_V) (r : fa_R) (hA : fa_RA r) (hH : ∀ i, i < 5 → r 114 i = some (115 + 56 * i)) (hr1 : fa_RS r 1) (hr57 : fa_RS r 57) (hr115 : fa_RS r 115) (hF : fa_FV v) : fa_MI l G n yX6_run cX6_run 6 (some .int) 4 [.ref (fa_B G + (0))] v r (fa_voi r (fun x v1 => (x = (-3 : Int32)) ∧ (fa_fr (0) (397) v v1))) := by
  refine fa_startI (by decide +kernel) (Nat.le_of_ble_eq_true rfl) (fun p e s m args below meth c ls Q CX hl HX RET => ?_)
  have hl : lv_has ls 6 [(0, .ref (fa_B G + (0)))] := hl
  have hx := CX.1.1
  have hb := CX.1.2.1
  refine lv_aload_n hx hb dX6_run_0 rfl (lv_at hl 0 rfl) ?_
  refine fa_getr (k := 0) (j := 395) CX HX fl_X6_29 (by omega) rfl rfl hA.2.2.2.1 dX6_run_1 ?_
  refine fa_callViu (As := []) (rest := []) CX HX (p1_findFault l G n hn v r hA hH hr1 hr57 hr115  hF.2.2.2.2.2.1) ln_X6_78 (by omega) rfl rfl rfl rfl (Nat.le_of_ble_eq_true rfl) hl.1 ⟨Nat.le_of_ble_eq_true rfl, Nat.le_of_ble_eq_true rfl⟩ ⟨Nat.le_refl _, Nat.le_refl _⟩ dX6_run_4 (fun x276 v277 H locs h275 HX278 => ?_)
  have hv_findFault := h275.1
  refine lv_bipush (v := (-6 : Int32)) hx hb dX6_run_7 (by decide) ?_
  have kx_9 : x276 = (0 : Int32) := h275.1
  refine lv_icmp_eq (tgt := 15) hx hb dX6_run_9 (by decide) (fun c_9 => ?_) (fun c_9 => ?_)
  · exact absurd c_9 (by rw [kx_9]; try decide)
  · refine lv_bipush (v := (-3 : Int32)) hx hb dX6_run_12 (by decide) ?_
    exact RET _ _ _ _ _ _ _ HX278 dX6_run_14 (⟨rfl, ⟨rfl, (fa_fr.tr fa_fr.rf (fa_fr.wide h275.2 (by omega) (by omega)))⟩⟩)
set_option maxHeartbeats 4000000 in
set_option maxRecDepth 100000 in
theorem p1f_why (l : Launch) (G : fa_G) (n : Nat) (hn : 397 ≤ n) (v : fa_V) (r : fa_R) (hA : fa_RA r) (hH : ∀ i, i < 5 → r 114 i = some (115 + 56 * i)) (hr1 : fa_RS r 1) (hr57 : fa_RS r 57) (hr115 : fa_RS r 115) (hF : fa_FV v) (a1 : Int32) : fa_MI l G n yX6_why cX6_why 2 (some .int) 1 [.ref (fa_B G + (0)), .int (a1)] v r (fun x w => w = (v, r) ∧ (x = if a1 < 0 ∨ ¬ a1 ≤ nI 2 then (-2 : Int32) else (-6 : Int32))) := by
  refine fa_startI (by decide +kernel) (Nat.le_of_ble_eq_true rfl) (fun p e s m args below meth c ls Q CX hl HX RET => ?_)
  have hl : lv_has ls 2 [(0, .ref (fa_B G + (0))), (1, .int (a1))] := hl
  have hx := CX.1.1
  have hb := CX.1.2.1
  refine lv_iload_n hx hb dX6_why_0 rfl (lv_at hl 1 rfl) ?_
  refine lv_if_lt (tgt := 9) hx hb dX6_why_1 (by decide) (fun c_1 => ?_) (fun c_1 => ?_)
  · refine lv_bipush (v := (-2 : Int32)) hx hb dX6_why_9 (by decide) ?_
    exact RET _ _ _ _ _ _ _ HX dX6_why_11 (⟨rfl, (by simp [c_1])⟩)
  · refine lv_iload_n hx hb dX6_why_4 rfl (lv_at hl 1 rfl) ?_
    refine lv_iconst (v := nI (2)) hx hb dX6_why_5 (by decide) ?_
    refine lv_icmp_le (tgt := 12) hx hb dX6_why_6 (by decide) (fun c_6 => ?_) (fun c_6 => ?_)
    · refine lv_aload_n hx hb dX6_why_12 rfl (lv_at hl 0 rfl) ?_
      refine fa_geti (k := 0) CX HX fl_X6_82 (by omega) rfl rfl dX6_why_13 ?_
      have kx_16 : v 0 6 = (0 : Int32) := hF.2.2.2.2.2.2
      refine lv_if_ne (tgt := 22) hx hb dX6_why_16 (by decide) (fun c_16 => ?_) (fun c_16 => ?_)
      · exact absurd (by rw [kx_16]; try decide) c_16
      · refine lv_bipush (v := (-6 : Int32)) hx hb dX6_why_19 (by decide) ?_
        exact RET _ _ _ _ _ _ _ HX dX6_why_21 (⟨rfl, (by simp [c_1, c_6, c_16])⟩)
    · refine lv_bipush (v := (-2 : Int32)) hx hb dX6_why_9 (by decide) ?_
      exact RET _ _ _ _ _ _ _ HX dX6_why_11 (⟨rfl, (by simp [c_1, c_6])⟩)
set_option maxHeartbeats 4000000 in
set_option maxRecDepth 100000 in
theorem p1f_undo (l : Launch) (G : fa_G) (n : Nat) (hn : 397 ≤ n) (v : fa_V) (r : fa_R) (hA : fa_RA r) (hH : ∀ i, i < 5 → r 114 i = some (115 + 56 * i)) (hr1 : fa_RS r 1) (hr57 : fa_RS r 57) (hr115 : fa_RS r 115) (hF : fa_FV v) : fa_MI l G n yX6_undo cX6_undo 2 (some .int) 2 [.ref (fa_B G + (0))] v r (fun x w => w = (v, r) ∧ (x = (-6 : Int32))) := by
  refine fa_startI (by decide +kernel) (Nat.le_of_ble_eq_true rfl) (fun p e s m args below meth c ls Q CX hl HX RET => ?_)
  have hl : lv_has ls 2 [(0, .ref (fa_B G + (0)))] := hl
  have hx := CX.1.1
  have hb := CX.1.2.1
  refine lv_aload_n hx hb dX6_undo_0 rfl (lv_at hl 0 rfl) ?_
  refine fa_getr (k := 0) (j := 113) CX HX fl_X6_22 (by omega) rfl rfl hA.2.2.1 dX6_undo_1 ?_
  refine fa_callVrp (As := []) (rest := []) CX HX (p1_takeLatest l G n hn v r hA hH hr1 hr57 hr115  hF.1) ln_X6_115 (by omega) rfl rfl rfl rfl (Nat.le_of_ble_eq_true rfl) hl.1 ⟨Nat.le_of_ble_eq_true rfl, Nat.le_of_ble_eq_true rfl⟩ ⟨Nat.le_refl _, Nat.le_refl _⟩ dX6_undo_4 (fun H locs h279 HX280 => ?_) (fun q281 H locs h279 HX280 => ?_)
  · refine lv_astore_nN (lv' := [(1, .null), (0, .ref (fa_B G + (0)))]) hx hb dX6_undo_7 rfl hl (by decide) rfl (fun ls hl => ?_)
    refine lv_aload_nN hx hb dX6_undo_8 rfl (lv_at hl 0 rfl) ?_
    refine lv_ifnonnullN hx hb dX6_undo_9 ?_
    refine lv_bipush (v := (-6 : Int32)) hx hb dX6_undo_12 (by decide) ?_
    exact RET _ _ _ _ _ _ _ HX280 dX6_undo_14 (⟨rfl, rfl⟩)
  · cases h279
set_option maxHeartbeats 4000000 in
set_option maxRecDepth 100000 in
theorem p1f_now (l : Launch) (G : fa_G) (n : Nat) (hn : 397 ≤ n) (v : fa_V) (r : fa_R) (hA : fa_RA r) (hH : ∀ i, i < 5 → r 114 i = some (115 + 56 * i)) (hr1 : fa_RS r 1) (hr57 : fa_RS r 57) (hr115 : fa_RS r 115) (hF : fa_FV v) : fa_MI l G n yX6_now cX6_now 1 (some .int) 1 [.ref (fa_B G + (0))] v r (fun x w => w = (v, r) ∧ (x = (0 : Int32))) := by
  refine fa_startI (by decide +kernel) (Nat.le_of_ble_eq_true rfl) (fun p e s m args below meth c ls Q CX hl HX RET => ?_)
  have hl : lv_has ls 1 [(0, .ref (fa_B G + (0)))] := hl
  have hx := CX.1.1
  have hb := CX.1.2.1
  refine lv_aload_n hx hb dX6_now_0 rfl (lv_at hl 0 rfl) ?_
  refine fa_getr (k := 0) (j := 1) CX HX fl_X6_10 (by omega) rfl rfl hA.1 dX6_now_1 ?_
  refine fa_geti (k := 1) CX HX fl_X6_125 (fa_lt (by decide) 0 (by decide) hn) (fa_s0 (by decide)) rfl dX6_now_4 ?_
  exact RET _ _ _ _ _ _ _ HX dX6_now_7 (⟨rfl, hF.2.1 0 (by decide)⟩)
set_option maxHeartbeats 4000000 in
set_option maxRecDepth 100000 in
theorem p1f_count (l : Launch) (G : fa_G) (n : Nat) (hn : 397 ≤ n) (v : fa_V) (r : fa_R) (hA : fa_RA r) (hH : ∀ i, i < 5 → r 114 i = some (115 + 56 * i)) (hr1 : fa_RS r 1) (hr57 : fa_RS r 57) (hr115 : fa_RS r 115) (hF : fa_FV v) (a1 : Int32) : fa_MI l G n yX6_count cX6_count 2 (some .int) 2 [.ref (fa_B G + (0)), .int (a1)] v r (fun x w => w = (v, r) ∧ (x = if a1 = (0 : Int32) ∨ a1 = (1 : Int32) ∨ a1 = (2 : Int32) ∨ a1 = (3 : Int32) ∨ a1 = (4 : Int32) ∨ a1 = (5 : Int32) ∨ a1 = (6 : Int32) ∨ a1 = (7 : Int32) ∨ a1 = (8 : Int32) ∨ a1 = (9 : Int32) then 0 else (-2 : Int32))) := by
  refine fa_startI (by decide +kernel) (Nat.le_of_ble_eq_true rfl) (fun p e s m args below meth c ls Q CX hl HX RET => ?_)
  have hl : lv_has ls 2 [(0, .ref (fa_B G + (0))), (1, .int (a1))] := hl
  have hx := CX.1.1
  have hb := CX.1.2.1
  refine lv_iload_n hx hb dX6_count_0 rfl (lv_at hl 1 rfl) ?_
  by_cases c_1_0 : a1 = (0 : Int32)
  · refine lv_tableIn (off := 55) (tgt := 56) hx hb dX6_count_1 (by rw [c_1_0]; decide) (by rw [c_1_0]; decide) (by rw [c_1_0]; decide) (by decide) ?_
    refine lv_aload_n hx hb dX6_count_56 rfl (lv_at hl 0 rfl) ?_
    refine fa_getr (k := 0) (j := 1) CX HX fl_X6_10 (by omega) rfl rfl hA.1 dX6_count_57 ?_
    refine fa_geti (k := 1) CX HX fl_X6_128 (fa_lt (by decide) 0 (by decide) hn) (fa_s0 (by decide)) rfl dX6_count_60 ?_
    exact RET _ _ _ _ _ _ _ HX dX6_count_63 (⟨rfl, (by rw [if_pos (by simp [c_1_0])]; exact (hF.2.1 1 (by decide)))⟩)
  by_cases c_1_1 : a1 = (1 : Int32)
  · refine lv_tableIn (off := 63) (tgt := 64) hx hb dX6_count_1 (by rw [c_1_1]; decide) (by rw [c_1_1]; decide) (by rw [c_1_1]; decide) (by decide) ?_
    refine lv_aload_n hx hb dX6_count_64 rfl (lv_at hl 0 rfl) ?_
    refine fa_getr (k := 0) (j := 1) CX HX fl_X6_10 (by omega) rfl rfl hA.1 dX6_count_65 ?_
    refine fa_geti (k := 1) CX HX fl_X6_131 (fa_lt (by decide) 0 (by decide) hn) (fa_s0 (by decide)) rfl dX6_count_68 ?_
    exact RET _ _ _ _ _ _ _ HX dX6_count_71 (⟨rfl, (by rw [if_pos (by simp [c_1_1])]; exact (hF.2.1 2 (by decide)))⟩)
  by_cases c_1_2 : a1 = (2 : Int32)
  · refine lv_tableIn (off := 71) (tgt := 72) hx hb dX6_count_1 (by rw [c_1_2]; decide) (by rw [c_1_2]; decide) (by rw [c_1_2]; decide) (by decide) ?_
    refine lv_aload_n hx hb dX6_count_72 rfl (lv_at hl 0 rfl) ?_
    refine fa_getr (k := 0) (j := 1) CX HX fl_X6_10 (by omega) rfl rfl hA.1 dX6_count_73 ?_
    refine fa_callVip (As := []) (rest := []) CX HX (p1_storedPages l G n hn v r 1 (by decide) hr1  (hF.2.1 1 (by decide))) ln_X6_134 (fa_lt (by decide) 0 (by decide) hn) (fa_s0 (by decide)) rfl rfl rfl (Nat.le_of_ble_eq_true rfl) hl.1 ⟨Nat.le_of_ble_eq_true rfl, Nat.le_of_ble_eq_true rfl⟩ ⟨Nat.le_refl _, Nat.le_refl _⟩ dX6_count_76 (fun x283 H locs h282 HX284 => ?_)
    have h_sp := h282
    exact RET _ _ _ _ _ _ _ HX284 dX6_count_79 (⟨rfl, (by rw [if_pos (by simp [c_1_2])]; exact h282)⟩)
  by_cases c_1_3 : a1 = (3 : Int32)
  · refine lv_tableIn (off := 79) (tgt := 80) hx hb dX6_count_1 (by rw [c_1_3]; decide) (by rw [c_1_3]; decide) (by rw [c_1_3]; decide) (by decide) ?_
    refine lv_aload_n hx hb dX6_count_80 rfl (lv_at hl 0 rfl) ?_
    refine fa_getr (k := 0) (j := 1) CX HX fl_X6_10 (by omega) rfl rfl hA.1 dX6_count_81 ?_
    refine fa_geti (k := 1) CX HX fl_X6_137 (fa_lt (by decide) 0 (by decide) hn) (fa_s0 (by decide)) rfl dX6_count_84 ?_
    exact RET _ _ _ _ _ _ _ HX dX6_count_87 (⟨rfl, (by rw [if_pos (by simp [c_1_3])]; exact (hF.2.1 3 (by decide)))⟩)
  by_cases c_1_4 : a1 = (4 : Int32)
  · refine lv_tableIn (off := 87) (tgt := 88) hx hb dX6_count_1 (by rw [c_1_4]; decide) (by rw [c_1_4]; decide) (by rw [c_1_4]; decide) (by decide) ?_
    refine lv_aload_n hx hb dX6_count_88 rfl (lv_at hl 0 rfl) ?_
    refine fa_getr (k := 0) (j := 1) CX HX fl_X6_10 (by omega) rfl rfl hA.1 dX6_count_89 ?_
    refine fa_geti (k := 1) CX HX fl_X6_140 (fa_lt (by decide) 0 (by decide) hn) (fa_s0 (by decide)) rfl dX6_count_92 ?_
    exact RET _ _ _ _ _ _ _ HX dX6_count_95 (⟨rfl, (by rw [if_pos (by simp [c_1_4])]; exact (hF.2.1 4 (by decide)))⟩)
  by_cases c_1_5 : a1 = (5 : Int32)
  · refine lv_tableIn (off := 95) (tgt := 96) hx hb dX6_count_1 (by rw [c_1_5]; decide) (by rw [c_1_5]; decide) (by rw [c_1_5]; decide) (by decide) ?_
    refine lv_aload_n hx hb dX6_count_96 rfl (lv_at hl 0 rfl) ?_
    refine fa_getr (k := 0) (j := 1) CX HX fl_X6_10 (by omega) rfl rfl hA.1 dX6_count_97 ?_
    refine fa_geti (k := 1) CX HX fl_X6_143 (fa_lt (by decide) 0 (by decide) hn) (fa_s0 (by decide)) rfl dX6_count_100 ?_
    exact RET _ _ _ _ _ _ _ HX dX6_count_103 (⟨rfl, (by rw [if_pos (by simp [c_1_5])]; exact (hF.2.1 5 (by decide)))⟩)
  by_cases c_1_6 : a1 = (6 : Int32)
  · refine lv_tableIn (off := 103) (tgt := 104) hx hb dX6_count_1 (by rw [c_1_6]; decide) (by rw [c_1_6]; decide) (by rw [c_1_6]; decide) (by decide) ?_
    refine lv_aload_n hx hb dX6_count_104 rfl (lv_at hl 0 rfl) ?_
    refine fa_getr (k := 0) (j := 1) CX HX fl_X6_10 (by omega) rfl rfl hA.1 dX6_count_105 ?_
    refine fa_geti (k := 1) CX HX fl_X6_146 (fa_lt (by decide) 0 (by decide) hn) (fa_s0 (by decide)) rfl dX6_count_108 ?_
    exact RET _ _ _ _ _ _ _ HX dX6_count_111 (⟨rfl, (by rw [if_pos (by simp [c_1_6])]; exact (hF.2.1 6 (by decide)))⟩)
  by_cases c_1_7 : a1 = (7 : Int32)
  · refine lv_tableIn (off := 111) (tgt := 112) hx hb dX6_count_1 (by rw [c_1_7]; decide) (by rw [c_1_7]; decide) (by rw [c_1_7]; decide) (by decide) ?_
    refine lv_aload_n hx hb dX6_count_112 rfl (lv_at hl 0 rfl) ?_
    refine fa_getr (k := 0) (j := 1) CX HX fl_X6_10 (by omega) rfl rfl hA.1 dX6_count_113 ?_
    refine fa_geti (k := 1) CX HX fl_X6_149 (fa_lt (by decide) 0 (by decide) hn) (fa_s0 (by decide)) rfl dX6_count_116 ?_
    exact RET _ _ _ _ _ _ _ HX dX6_count_119 (⟨rfl, (by rw [if_pos (by simp [c_1_7])]; exact (hF.2.1 7 (by decide)))⟩)
  by_cases c_1_8 : a1 = (8 : Int32)
  · refine lv_tableIn (off := 119) (tgt := 120) hx hb dX6_count_1 (by rw [c_1_8]; decide) (by rw [c_1_8]; decide) (by rw [c_1_8]; decide) (by decide) ?_
    refine lv_aload_n hx hb dX6_count_120 rfl (lv_at hl 0 rfl) ?_
    refine fa_getr (k := 0) (j := 1) CX HX fl_X6_10 (by omega) rfl rfl hA.1 dX6_count_121 ?_
    refine fa_getr (k := 1) (j := 1 + 2) CX HX fl_X6_152 (fa_lt (by decide) 0 (by decide) hn) (fa_s0 (by decide)) rfl hr1.2.1 dX6_count_124 ?_
    refine fa_geti (k := 1 + 2) CX HX fl_X6_156 (fa_lt (by decide) 2 (by decide) hn) (fa_s2 (by decide)) rfl dX6_count_127 ?_
    exact RET _ _ _ _ _ _ _ HX dX6_count_130 (⟨rfl, (by rw [if_pos (by simp [c_1_8])]; exact hF.2.2.1)⟩)
  by_cases c_1_9 : a1 = (9 : Int32)
  · refine lv_tableIn (off := 130) (tgt := 131) hx hb dX6_count_1 (by rw [c_1_9]; decide) (by rw [c_1_9]; decide) (by rw [c_1_9]; decide) (by decide) ?_
    refine lv_aload_n hx hb dX6_count_131 rfl (lv_at hl 0 rfl) ?_
    refine fa_getr (k := 0) (j := 1) CX HX fl_X6_10 (by omega) rfl rfl hA.1 dX6_count_132 ?_
    refine fa_getr (k := 1) (j := 1 + 5) CX HX fl_X6_159 (fa_lt (by decide) 0 (by decide) hn) (fa_s0 (by decide)) rfl hr1.2.2.1 dX6_count_135 ?_
    refine fa_geti (k := 1 + 5) CX HX fl_X6_163 (fa_lt (by decide) 5 (by decide) hn) (fa_s5 (by decide)) rfl dX6_count_138 ?_
    exact RET _ _ _ _ _ _ _ HX dX6_count_141 (⟨rfl, (by rw [if_pos (by simp [c_1_9])]; exact hF.2.2.2.1)⟩)
  have hout_1 : (a1).toInt < 0 ∨ 9 < (a1).toInt := by
    have z0 := lv_neT (a := 0) c_1_0 (by decide)
    have z1 := lv_neT (a := 1) c_1_1 (by decide)
    have z2 := lv_neT (a := 2) c_1_2 (by decide)
    have z3 := lv_neT (a := 3) c_1_3 (by decide)
    have z4 := lv_neT (a := 4) c_1_4 (by decide)
    have z5 := lv_neT (a := 5) c_1_5 (by decide)
    have z6 := lv_neT (a := 6) c_1_6 (by decide)
    have z7 := lv_neT (a := 7) c_1_7 (by decide)
    have z8 := lv_neT (a := 8) c_1_8 (by decide)
    have z9 := lv_neT (a := 9) c_1_9 (by decide)
    omega
  refine lv_tableOut (tgt := 142) hx hb dX6_count_1 hout_1 (by decide) ?_
  refine lv_bipush (v := (-2 : Int32)) hx hb dX6_count_142 (by decide) ?_
  exact RET _ _ _ _ _ _ _ HX dX6_count_144 (⟨rfl, (by rw [if_neg (by simp [c_1_0, c_1_1, c_1_2, c_1_3, c_1_4, c_1_5, c_1_6, c_1_7, c_1_8, c_1_9])])⟩)
set_option maxHeartbeats 4000000 in
set_option maxRecDepth 100000 in
theorem p1f_fileAt (l : Launch) (G : fa_G) (n : Nat) (hn : 397 ≤ n) (v : fa_V) (r : fa_R) (hA : fa_RA r) (hH : ∀ i, i < 5 → r 114 i = some (115 + 56 * i)) (hr1 : fa_RS r 1) (hr57 : fa_RS r 57) (hr115 : fa_RS r 115) (hF : fa_FV v) (a1 : Int32) : fa_MI l G n yX6_fileAt cX6_fileAt 2 (some .int) 1 [.ref (fa_B G + (0)), .int (a1)] v r (fun x w => w = (v, r) ∧ (x = if 0 ≤ a1 then (-6 : Int32) else (-2 : Int32))) := by
  refine fa_startI (by decide +kernel) (Nat.le_of_ble_eq_true rfl) (fun p e s m args below meth c ls Q CX hl HX RET => ?_)
  have hl : lv_has ls 2 [(0, .ref (fa_B G + (0))), (1, .int (a1))] := hl
  have hx := CX.1.1
  have hb := CX.1.2.1
  refine lv_iload_n hx hb dX6_fileAt_0 rfl (lv_at hl 1 rfl) ?_
  refine lv_if_ge (tgt := 7) hx hb dX6_fileAt_1 (by decide) (fun c_1 => ?_) (fun c_1 => ?_)
  · refine lv_iload_n hx hb dX6_fileAt_7 rfl (lv_at hl 1 rfl) ?_
    refine lv_aload_n hx hb dX6_fileAt_8 rfl (lv_at hl 0 rfl) ?_
    refine fa_getr (k := 0) (j := 1) CX HX fl_X6_10 (by omega) rfl rfl hA.1 dX6_fileAt_9 ?_
    refine fa_geti (k := 1) CX HX fl_X6_128 (fa_lt (by decide) 0 (by decide) hn) (fa_s0 (by decide)) rfl dX6_fileAt_12 ?_
    refine lv_icmp_ge (tgt := 33) hx hb dX6_fileAt_15 (by decide) (fun c_15 => ?_) (fun c_15 => ?_)
    · refine lv_bipush (v := (-6 : Int32)) hx hb dX6_fileAt_33 (by decide) ?_
      exact RET _ _ _ _ _ _ _ HX dX6_fileAt_35 (⟨rfl, (by simp [c_1, c_15])⟩)
    · exact absurd (by rw [hF.2.1 1 (by decide)]; exact c_1) c_15
  · refine lv_bipush (v := (-2 : Int32)) hx hb dX6_fileAt_4 (by decide) ?_
    exact RET _ _ _ _ _ _ _ HX dX6_fileAt_6 (⟨rfl, (by simp [c_1])⟩)
set_option maxHeartbeats 4000000 in
set_option maxRecDepth 100000 in
theorem p1f_file (l : Launch) (G : fa_G) (n : Nat) (hn : 397 ≤ n) (v : fa_V) (r : fa_R) (hA : fa_RA r) (hH : ∀ i, i < 5 → r 114 i = some (115 + 56 * i)) (hr1 : fa_RS r 1) (hr57 : fa_RS r 57) (hr115 : fa_RS r 115) (hF : fa_FV v) (a1 : Int32) (a2 : Int32) : fa_MI l G n yX6_file cX6_file 4 (some .int) 2 [.ref (fa_B G + (0)), .int (a1), .int (a2)] v r (fun x w => w = (v, r) ∧ (x = (-1 : Int32))) := by
  refine fa_startI (by decide +kernel) (Nat.le_of_ble_eq_true rfl) (fun p e s m args below meth c ls Q CX hl HX RET => ?_)
  have hl : lv_has ls 4 [(0, .ref (fa_B G + (0))), (1, .int (a1)), (2, .int (a2))] := hl
  have hx := CX.1.1
  have hb := CX.1.2.1
  refine lv_aload_n hx hb dX6_file_0 rfl (lv_at hl 0 rfl) ?_
  refine fa_getr (k := 0) (j := 1) CX HX fl_X6_10 (by omega) rfl rfl hA.1 dX6_file_1 ?_
  refine lv_iload_n hx hb dX6_file_4 rfl (lv_at hl 1 rfl) ?_
  refine fa_callVrp (As := [.int (a1)]) (rest := []) CX HX (p1_find l G n hn v r 1 (by decide) hr1 (a1) (hF.2.1 1 (by decide))) ln_X6_175 (fa_lt (by decide) 0 (by decide) hn) (fa_s0 (by decide)) rfl rfl rfl (Nat.le_of_ble_eq_true rfl) hl.1 ⟨Nat.le_of_ble_eq_true rfl, Nat.le_of_ble_eq_true rfl⟩ ⟨Nat.le_refl _, Nat.le_refl _⟩ dX6_file_5 (fun H locs h285 HX286 => ?_) (fun q287 H locs h285 HX286 => ?_)
  · refine lv_astore_nN (lv' := [(3, .null), (0, .ref (fa_B G + (0))), (1, .int (a1)), (2, .int (a2))]) hx hb dX6_file_8 rfl hl (by decide) rfl (fun ls hl => ?_)
    refine lv_aload_nN hx hb dX6_file_9 rfl (lv_at hl 0 rfl) ?_
    refine lv_ifnonnullN hx hb dX6_file_10 ?_
    refine lv_iconst (v := (-1 : Int32)) hx hb dX6_file_13 (by decide) ?_
    exact RET _ _ _ _ _ _ _ HX286 dX6_file_14 (⟨rfl, rfl⟩)
  · cases h285
set_option maxHeartbeats 4000000 in
set_option maxRecDepth 100000 in
theorem p1f_sealOf (l : Launch) (G : fa_G) (n : Nat) (hn : 397 ≤ n) (v : fa_V) (r : fa_R) (hA : fa_RA r) (hH : ∀ i, i < 5 → r 114 i = some (115 + 56 * i)) (hr1 : fa_RS r 1) (hr57 : fa_RS r 57) (hr115 : fa_RS r 115) (hF : fa_FV v) (a1 : Int32) (a2 : Int32) : fa_MI l G n yX6_sealOf cX6_sealOf 5 (some .int) 2 [.ref (fa_B G + (0)), .int (a1), .int (a2)] v r (fun x w => w = (v, r) ∧ (x = (-1 : Int32))) := by
  refine fa_startI (by decide +kernel) (Nat.le_of_ble_eq_true rfl) (fun p e s m args below meth c ls Q CX hl HX RET => ?_)
  have hl : lv_has ls 5 [(0, .ref (fa_B G + (0))), (1, .int (a1)), (2, .int (a2))] := hl
  have hx := CX.1.1
  have hb := CX.1.2.1
  refine lv_aload_n hx hb dX6_sealOf_0 rfl (lv_at hl 0 rfl) ?_
  refine fa_getr (k := 0) (j := 1) CX HX fl_X6_10 (by omega) rfl rfl hA.1 dX6_sealOf_1 ?_
  refine lv_iload_n hx hb dX6_sealOf_4 rfl (lv_at hl 2 rfl) ?_
  refine fa_callVrp (As := [.int (a2)]) (rest := []) CX HX (p1_find l G n hn v r 1 (by decide) hr1 (a2) (hF.2.1 1 (by decide))) ln_X6_175 (fa_lt (by decide) 0 (by decide) hn) (fa_s0 (by decide)) rfl rfl rfl (Nat.le_of_ble_eq_true rfl) hl.1 ⟨Nat.le_of_ble_eq_true rfl, Nat.le_of_ble_eq_true rfl⟩ ⟨Nat.le_refl _, Nat.le_refl _⟩ dX6_sealOf_5 (fun H locs h288 HX289 => ?_) (fun q290 H locs h288 HX289 => ?_)
  · refine lv_astore_nN (lv' := [(3, .null), (0, .ref (fa_B G + (0))), (1, .int (a1)), (2, .int (a2))]) hx hb dX6_sealOf_8 rfl hl (by decide) rfl (fun ls hl => ?_)
    refine lv_iload_n hx hb dX6_sealOf_9 rfl (lv_at hl 2 rfl) ?_
    refine fa_callSip (As := [.int (a1)]) (rest := []) CX HX289 (c_X6_isNoHolder l G n v r (a1)) ln_X6_210 rfl rfl (Nat.le_of_ble_eq_true rfl) hl.1 ⟨Nat.le_of_ble_eq_true rfl, Nat.le_of_ble_eq_true rfl⟩ ⟨Nat.le_refl _, Nat.le_refl _⟩ dX6_sealOf_10 (fun x292 H locs h291 HX293 => ?_)
    have h_isNoHolder := h291
    refine lv_if_ne (tgt := 20) hx hb dX6_sealOf_13 (by decide) (fun c_13 => ?_) (fun c_13 => ?_)
    · refine lv_iconst (v := (-1 : Int32)) hx hb dX6_sealOf_20 (by decide) ?_
      exact RET _ _ _ _ _ _ _ HX293 dX6_sealOf_21 (⟨rfl, rfl⟩)
    · refine lv_aload_nN hx hb dX6_sealOf_16 rfl (lv_at hl 0 rfl) ?_
      refine lv_ifnonnullN hx hb dX6_sealOf_17 ?_
      refine lv_iconst (v := (-1 : Int32)) hx hb dX6_sealOf_20 (by decide) ?_
      exact RET _ _ _ _ _ _ _ HX293 dX6_sealOf_21 (⟨rfl, rfl⟩)
  · cases h288
set_option maxHeartbeats 4000000 in
set_option maxRecDepth 100000 in
theorem p1f_trace (l : Launch) (G : fa_G) (n : Nat) (hn : 397 ≤ n) (v : fa_V) (r : fa_R) (hA : fa_RA r) (hH : ∀ i, i < 5 → r 114 i = some (115 + 56 * i)) (hr1 : fa_RS r 1) (hr57 : fa_RS r 57) (hr115 : fa_RS r 115) (hF : fa_FV v) (a1 : Int32) (a2 : Int32) : fa_MI l G n yX6_trace cX6_trace 3 (some .int) 2 [.ref (fa_B G + (0)), .int (a1), .int (a2)] v r (fun x w => w = (v, r) ∧ (x = if a1 < 0 ∨ a2 < 0 ∨ ¬ a2 < nI 5 then (-2 : Int32) else (-6 : Int32))) := by
  refine fa_startI (by decide +kernel) (Nat.le_of_ble_eq_true rfl) (fun p e s m args below meth c ls Q CX hl HX RET => ?_)
  have hl : lv_has ls 3 [(0, .ref (fa_B G + (0))), (1, .int (a1)), (2, .int (a2))] := hl
  have hx := CX.1.1
  have hb := CX.1.2.1
  refine lv_iload_n hx hb dX6_trace_0 rfl (lv_at hl 1 rfl) ?_
  refine lv_if_lt (tgt := 13) hx hb dX6_trace_1 (by decide) (fun c_1 => ?_) (fun c_1 => ?_)
  · refine lv_bipush (v := (-2 : Int32)) hx hb dX6_trace_13 (by decide) ?_
    exact RET _ _ _ _ _ _ _ HX dX6_trace_15 (⟨rfl, (by simp [c_1])⟩)
  · refine lv_iload_n hx hb dX6_trace_4 rfl (lv_at hl 2 rfl) ?_
    refine lv_if_lt (tgt := 13) hx hb dX6_trace_5 (by decide) (fun c_5 => ?_) (fun c_5 => ?_)
    · refine lv_bipush (v := (-2 : Int32)) hx hb dX6_trace_13 (by decide) ?_
      exact RET _ _ _ _ _ _ _ HX dX6_trace_15 (⟨rfl, (by simp [c_1, c_5])⟩)
    · refine lv_iload_n hx hb dX6_trace_8 rfl (lv_at hl 2 rfl) ?_
      refine lv_iconst (v := nI (5)) hx hb dX6_trace_9 (by decide) ?_
      refine lv_icmp_lt (tgt := 16) hx hb dX6_trace_10 (by decide) (fun c_10 => ?_) (fun c_10 => ?_)
      · refine lv_iload_n hx hb dX6_trace_16 rfl (lv_at hl 1 rfl) ?_
        refine lv_aload_n hx hb dX6_trace_17 rfl (lv_at hl 0 rfl) ?_
        refine fa_getr (k := 0) (j := 1) CX HX fl_X6_10 (by omega) rfl rfl hA.1 dX6_trace_18 ?_
        refine fa_getr (k := 1) (j := 1 + 5) CX HX fl_X6_159 (fa_lt (by decide) 0 (by decide) hn) (fa_s0 (by decide)) rfl hr1.2.2.1 dX6_trace_21 ?_
        refine fa_geti (k := 1 + 5) CX HX fl_X6_163 (fa_lt (by decide) 5 (by decide) hn) (fa_s5 (by decide)) rfl dX6_trace_24 ?_
        refine lv_icmp_ge (tgt := 45) hx hb dX6_trace_27 (by decide) (fun c_27 => ?_) (fun c_27 => ?_)
        · refine lv_bipush (v := (-6 : Int32)) hx hb dX6_trace_45 (by decide) ?_
          exact RET _ _ _ _ _ _ _ HX dX6_trace_47 (⟨rfl, (by simp [c_1, c_5, c_10])⟩)
        · exact absurd (by rw [hF.2.2.2.1]; exact Int32.not_lt.mp c_1) c_27
      · refine lv_bipush (v := (-2 : Int32)) hx hb dX6_trace_13 (by decide) ?_
        exact RET _ _ _ _ _ _ _ HX dX6_trace_15 (⟨rfl, (by simp [c_1, c_5, c_10])⟩)
set_option maxHeartbeats 4000000 in
set_option maxRecDepth 100000 in
theorem p1f_reservation (l : Launch) (G : fa_G) (n : Nat) (hn : 397 ≤ n) (v : fa_V) (r : fa_R) (hA : fa_RA r) (hH : ∀ i, i < 5 → r 114 i = some (115 + 56 * i)) (hr1 : fa_RS r 1) (hr57 : fa_RS r 57) (hr115 : fa_RS r 115) (hF : fa_FV v) (a1 : Int32) (a2 : Int32) : fa_MI l G n yX6_reservation cX6_reservation 3 (some .int) 2 [.ref (fa_B G + (0)), .int (a1), .int (a2)] v r (fun x w => w = (v, r) ∧ (x = if a1 < 0 ∨ a2 < 0 ∨ ¬ a2 ≤ nI 1 then (-2 : Int32) else (-6 : Int32))) := by
  refine fa_startI (by decide +kernel) (Nat.le_of_ble_eq_true rfl) (fun p e s m args below meth c ls Q CX hl HX RET => ?_)
  have hl : lv_has ls 3 [(0, .ref (fa_B G + (0))), (1, .int (a1)), (2, .int (a2))] := hl
  have hx := CX.1.1
  have hb := CX.1.2.1
  refine lv_iload_n hx hb dX6_reservation_0 rfl (lv_at hl 1 rfl) ?_
  refine lv_if_lt (tgt := 13) hx hb dX6_reservation_1 (by decide) (fun c_1 => ?_) (fun c_1 => ?_)
  · refine lv_bipush (v := (-2 : Int32)) hx hb dX6_reservation_13 (by decide) ?_
    exact RET _ _ _ _ _ _ _ HX dX6_reservation_15 (⟨rfl, (by simp [c_1])⟩)
  · refine lv_iload_n hx hb dX6_reservation_4 rfl (lv_at hl 2 rfl) ?_
    refine lv_if_lt (tgt := 13) hx hb dX6_reservation_5 (by decide) (fun c_5 => ?_) (fun c_5 => ?_)
    · refine lv_bipush (v := (-2 : Int32)) hx hb dX6_reservation_13 (by decide) ?_
      exact RET _ _ _ _ _ _ _ HX dX6_reservation_15 (⟨rfl, (by simp [c_1, c_5])⟩)
    · refine lv_iload_n hx hb dX6_reservation_8 rfl (lv_at hl 2 rfl) ?_
      refine lv_iconst (v := nI (1)) hx hb dX6_reservation_9 (by decide) ?_
      refine lv_icmp_le (tgt := 16) hx hb dX6_reservation_10 (by decide) (fun c_10 => ?_) (fun c_10 => ?_)
      · refine lv_iload_n hx hb dX6_reservation_16 rfl (lv_at hl 1 rfl) ?_
        refine lv_aload_n hx hb dX6_reservation_17 rfl (lv_at hl 0 rfl) ?_
        refine fa_getr (k := 0) (j := 1) CX HX fl_X6_10 (by omega) rfl rfl hA.1 dX6_reservation_18 ?_
        refine fa_getr (k := 1) (j := 1 + 2) CX HX fl_X6_152 (fa_lt (by decide) 0 (by decide) hn) (fa_s0 (by decide)) rfl hr1.2.1 dX6_reservation_21 ?_
        refine fa_geti (k := 1 + 2) CX HX fl_X6_156 (fa_lt (by decide) 2 (by decide) hn) (fa_s2 (by decide)) rfl dX6_reservation_24 ?_
        refine lv_icmp_lt (tgt := 33) hx hb dX6_reservation_27 (by decide) (fun c_27 => ?_) (fun c_27 => ?_)
        · rw [hF.2.2.1] at c_27; exact absurd c_27 c_1
        · refine lv_bipush (v := (-6 : Int32)) hx hb dX6_reservation_30 (by decide) ?_
          exact RET _ _ _ _ _ _ _ HX dX6_reservation_32 (⟨rfl, (by simp [c_1, c_5, c_10])⟩)
      · refine lv_bipush (v := (-2 : Int32)) hx hb dX6_reservation_13 (by decide) ?_
        exact RET _ _ _ _ _ _ _ HX dX6_reservation_15 (⟨rfl, (by simp [c_1, c_5, c_10])⟩)
set_option maxHeartbeats 4000000 in
set_option maxRecDepth 100000 in
theorem p1f_setting (l : Launch) (G : fa_G) (n : Nat) (hn : 397 ≤ n) (v : fa_V) (r : fa_R) (hA : fa_RA r) (hH : ∀ i, i < 5 → r 114 i = some (115 + 56 * i)) (hr1 : fa_RS r 1) (hr57 : fa_RS r 57) (hr115 : fa_RS r 115) (hF : fa_FV v) (a1 : Int32) : fa_MI l G n yX6_setting cX6_setting 2 (some .int) 2 [.ref (fa_B G + (0)), .int (a1)] v r (fun x w => w = (v, r) ∧ (x = if a1 < 0 ∨ ¬ a1 < nI 7 then (-1 : Int32) else fa_stV 0 a1.toNatClampNeg)) := by
  refine fa_startI (by decide +kernel) (Nat.le_of_ble_eq_true rfl) (fun p e s m args below meth c ls Q CX hl HX RET => ?_)
  have hl : lv_has ls 2 [(0, .ref (fa_B G + (0))), (1, .int (a1))] := hl
  have hx := CX.1.1
  have hb := CX.1.2.1
  refine lv_iload_n hx hb dX6_setting_0 rfl (lv_at hl 1 rfl) ?_
  refine fa_callSip (As := [.int (a1)]) (rest := []) CX HX (c_X6_isNoSetting l G n v r (a1)) ln_X6_225 rfl rfl (Nat.le_of_ble_eq_true rfl) hl.1 ⟨Nat.le_of_ble_eq_true rfl, Nat.le_of_ble_eq_true rfl⟩ ⟨Nat.le_refl _, Nat.le_refl _⟩ dX6_setting_1 (fun x295 H locs h294 HX296 => ?_)
  have h_ns := h294
  refine lv_if_eq (tgt := 11) hx hb dX6_setting_4 (by decide) (fun c_4 => ?_) (fun c_4 => ?_)
  · obtain ⟨j, hj7, ej⟩ := fa_ix7 (by decide) (fa_ifn h_ns c_4)
    have hjc : a1.toNatClampNeg = j := by rw [ej]; exact nI_clamp (by omega)
    refine lv_aload_n hx hb dX6_setting_11 rfl (lv_at hl 0 rfl) ?_
    refine fa_getr (k := 0) (j := 1) CX HX296 fl_X6_10 (by omega) rfl rfl hA.1 dX6_setting_12 ?_
    refine fa_getr (k := 1) (j := 1 + 7) CX HX296 fl_X6_228 (fa_lt (by decide) 0 (by decide) hn) (fa_s0 (by decide)) rfl hr1.2.2.2.1 dX6_setting_15 ?_
    refine lv_iload_n hx hb dX6_setting_18 rfl (lv_at hl 1 rfl) ?_
    rw [show a1 = nI (j) from ej]
    refine fa_iald (k := 1 + 7) (j := j) CX HX296 (fa_lt (by decide) 7 (by decide) hn) (fa_s7 (by decide)) (by omega) (by first | decide | assumption) dX6_setting_19 ?_
    exact RET _ _ _ _ _ _ _ HX296 dX6_setting_20 (⟨rfl, (by rw [if_neg (fa_ifn h_ns c_4), hjc]; exact hF.2.2.2.2.1 j hj7)⟩)
  · refine lv_iconst (v := (-1 : Int32)) hx hb dX6_setting_7 (by decide) ?_
    refine lv_goto (tgt := 20) hx hb dX6_setting_8 (by decide) ?_
    exact RET _ _ _ _ _ _ _ HX296 dX6_setting_20 (⟨rfl, (by rw [if_pos (fa_ift h_ns c_4)])⟩)
set_option maxHeartbeats 4000000 in
set_option maxRecDepth 100000 in
theorem p1f_meanAge (l : Launch) (G : fa_G) (n : Nat) (hn : 397 ≤ n) (v : fa_V) (r : fa_R) (hA : fa_RA r) (hH : ∀ i, i < 5 → r 114 i = some (115 + 56 * i)) (hr1 : fa_RS r 1) (hr57 : fa_RS r 57) (hr115 : fa_RS r 115) (hF : fa_FV v) : fa_MF l G n yX6_meanAge cX6_meanAge 1 2 [.ref (fa_B G + (0))] v r (fun x w => w = (v, r) ∧ (x = FP.fconst0)) := by
  refine fa_startF (by decide +kernel) (Nat.le_of_ble_eq_true rfl) (fun p e s m args below meth c ls Q CX hl HX RET => ?_)
  have hl : lv_has ls 1 [(0, .ref (fa_B G + (0)))] := hl
  have hx := CX.1.1
  have hb := CX.1.2.1
  refine lv_aload_n hx hb dX6_meanAge_0 rfl (lv_at hl 0 rfl) ?_
  refine fa_getr (k := 0) (j := 1) CX HX fl_X6_10 (by omega) rfl rfl hA.1 dX6_meanAge_1 ?_
  refine fa_geti (k := 1) CX HX fl_X6_128 (fa_lt (by decide) 0 (by decide) hn) (fa_s0 (by decide)) rfl dX6_meanAge_4 ?_
  have kx_7 : v 1 1 = (0 : Int32) := (hF.2.1 1 (by decide))
  refine lv_if_ne (tgt := 12) hx hb dX6_meanAge_7 (by decide) (fun c_7 => ?_) (fun c_7 => ?_)
  · exact absurd (by rw [kx_7]; try decide) c_7
  · refine lv_fconst0 hx hb dX6_meanAge_10 ?_
    exact RET _ _ _ _ _ _ _ HX dX6_meanAge_11 (⟨rfl, rfl⟩)
set_option maxHeartbeats 4000000 in
set_option maxRecDepth 100000 in
theorem p1f_stays (l : Launch) (G : fa_G) (n : Nat) (hn : 397 ≤ n) (v : fa_V) (r : fa_R) (hA : fa_RA r) (hH : ∀ i, i < 5 → r 114 i = some (115 + 56 * i)) (hr1 : fa_RS r 1) (hr57 : fa_RS r 57) (hr115 : fa_RS r 115) (hF : fa_FV v) (a1 : Int32) : fa_MI l G n yX6_stays cX6_stays 3 (some .int) 2 [.ref (fa_B G + (0)), .int (a1)] v r (fun x w => w = (v, r) ∧ (x = (-1 : Int32))) := by
  refine fa_startI (by decide +kernel) (Nat.le_of_ble_eq_true rfl) (fun p e s m args below meth c ls Q CX hl HX RET => ?_)
  have hl : lv_has ls 3 [(0, .ref (fa_B G + (0))), (1, .int (a1))] := hl
  have hx := CX.1.1
  have hb := CX.1.2.1
  refine lv_aload_n hx hb dX6_stays_0 rfl (lv_at hl 0 rfl) ?_
  refine fa_getr (k := 0) (j := 1) CX HX fl_X6_10 (by omega) rfl rfl hA.1 dX6_stays_1 ?_
  refine lv_iload_n hx hb dX6_stays_4 rfl (lv_at hl 1 rfl) ?_
  refine fa_callVrp (As := [.int (a1)]) (rest := []) CX HX (p1_find l G n hn v r 1 (by decide) hr1 (a1) (hF.2.1 1 (by decide))) ln_X6_175 (fa_lt (by decide) 0 (by decide) hn) (fa_s0 (by decide)) rfl rfl rfl (Nat.le_of_ble_eq_true rfl) hl.1 ⟨Nat.le_of_ble_eq_true rfl, Nat.le_of_ble_eq_true rfl⟩ ⟨Nat.le_refl _, Nat.le_refl _⟩ dX6_stays_5 (fun H locs h297 HX298 => ?_) (fun q299 H locs h297 HX298 => ?_)
  · refine lv_astore_nN (lv' := [(2, .null), (0, .ref (fa_B G + (0))), (1, .int (a1))]) hx hb dX6_stays_8 rfl hl (by decide) rfl (fun ls hl => ?_)
    refine lv_aload_nN hx hb dX6_stays_9 rfl (lv_at hl 0 rfl) ?_
    refine lv_ifnonnullN hx hb dX6_stays_10 ?_
    refine lv_iconst (v := (-1 : Int32)) hx hb dX6_stays_13 (by decide) ?_
    exact RET _ _ _ _ _ _ _ HX298 dX6_stays_14 (⟨rfl, rfl⟩)
  · cases h297
set_option maxHeartbeats 4000000 in
set_option maxRecDepth 100000 in
theorem p1f_keeper (l : Launch) (G : fa_G) (n : Nat) (hn : 397 ≤ n) (v : fa_V) (r : fa_R) (hA : fa_RA r) (hH : ∀ i, i < 5 → r 114 i = some (115 + 56 * i)) (hr1 : fa_RS r 1) (hr57 : fa_RS r 57) (hr115 : fa_RS r 115) (hF : fa_FV v) (a1 : Int32) : fa_MI l G n yX6_keeper cX6_keeper 3 (some .int) 3 [.ref (fa_B G + (0)), .int (a1)] v r (fun x w => w = (v, r) ∧ (x = (-1 : Int32))) := by
  refine fa_startI (by decide +kernel) (Nat.le_of_ble_eq_true rfl) (fun p e s m args below meth c ls Q CX hl HX RET => ?_)
  have hl : lv_has ls 3 [(0, .ref (fa_B G + (0))), (1, .int (a1))] := hl
  have hx := CX.1.1
  have hb := CX.1.2.1
  refine lv_aload_n hx hb dX6_keeper_0 rfl (lv_at hl 0 rfl) ?_
  refine lv_iload_n hx hb dX6_keeper_1 rfl (lv_at hl 1 rfl) ?_
  refine fa_callVip (As := [.int (a1)]) (rest := []) CX HX (p1f_stays l G n hn v r hA hH hr1 hr57 hr115 hF (a1)) ln_X6_240 (by omega) rfl rfl rfl rfl (Nat.le_of_ble_eq_true rfl) hl.1 ⟨Nat.le_of_ble_eq_true rfl, Nat.le_of_ble_eq_true rfl⟩ ⟨Nat.le_refl _, Nat.le_refl _⟩ dX6_keeper_2 (fun x301 H locs h300 HX302 => ?_)
  have hv_stays := h300
  refine lv_istore_n (lv' := [(2, .int (x301)), (0, .ref (fa_B G + (0))), (1, .int (a1))]) hx hb dX6_keeper_5 rfl hl (by decide) rfl (fun ls hl => ?_)
  refine lv_iload_n hx hb dX6_keeper_6 rfl (lv_at hl 0 rfl) ?_
  refine lv_iconst (v := (-1 : Int32)) hx hb dX6_keeper_7 (by decide) ?_
  have kx_8 : x301 = (-1 : Int32) := h300
  refine lv_icmp_ne (tgt := 13) hx hb dX6_keeper_8 (by decide) (fun c_8 => ?_) (fun c_8 => ?_)
  · exact absurd (by rw [kx_8]; try decide) c_8
  · refine lv_iconst (v := (-1 : Int32)) hx hb dX6_keeper_11 (by decide) ?_
    exact RET _ _ _ _ _ _ _ HX302 dX6_keeper_12 (⟨rfl, rfl⟩)
set_option maxHeartbeats 4000000 in
set_option maxRecDepth 100000 in
theorem p1f_burntIn (l : Launch) (G : fa_G) (n : Nat) (hn : 397 ≤ n) (v : fa_V) (r : fa_R) (hA : fa_RA r) (hH : ∀ i, i < 5 → r 114 i = some (115 + 56 * i)) (hr1 : fa_RS r 1) (hr57 : fa_RS r 57) (hr115 : fa_RS r 115) (hF : fa_FV v) (a1 : Int32) : fa_MI l G n yX6_burntIn cX6_burntIn 3 (some .int) 4 [.ref (fa_B G + (0)), .int (a1)] v r (fun x w => w = (v, r) ∧ (x = (-1 : Int32))) := by
  refine fa_startI (by decide +kernel) (Nat.le_of_ble_eq_true rfl) (fun p e s m args below meth c ls Q CX hl HX RET => ?_)
  have hl : lv_has ls 3 [(0, .ref (fa_B G + (0))), (1, .int (a1))] := hl
  have hx := CX.1.1
  have hb := CX.1.2.1
  refine lv_aload_n hx hb dX6_burntIn_0 rfl (lv_at hl 0 rfl) ?_
  refine fa_getr (k := 0) (j := 1) CX HX fl_X6_10 (by omega) rfl rfl hA.1 dX6_burntIn_1 ?_
  refine lv_iload_n hx hb dX6_burntIn_4 rfl (lv_at hl 1 rfl) ?_
  refine fa_callVrp (As := [.int (a1)]) (rest := []) CX HX (p1_find l G n hn v r 1 (by decide) hr1 (a1) (hF.2.1 1 (by decide))) ln_X6_175 (fa_lt (by decide) 0 (by decide) hn) (fa_s0 (by decide)) rfl rfl rfl (Nat.le_of_ble_eq_true rfl) hl.1 ⟨Nat.le_of_ble_eq_true rfl, Nat.le_of_ble_eq_true rfl⟩ ⟨Nat.le_refl _, Nat.le_refl _⟩ dX6_burntIn_5 (fun H locs h303 HX304 => ?_) (fun q305 H locs h303 HX304 => ?_)
  · refine lv_ifnonnullN hx hb dX6_burntIn_8 ?_
    refine lv_iconst (v := (-1 : Int32)) hx hb dX6_burntIn_11 (by decide) ?_
    exact RET _ _ _ _ _ _ _ HX304 dX6_burntIn_12 (⟨rfl, rfl⟩)
  · cases h303
set_option maxHeartbeats 4000000 in
set_option maxRecDepth 100000 in
theorem p1f_ifPassed (l : Launch) (G : fa_G) (n : Nat) (hn : 397 ≤ n) (v : fa_V) (r : fa_R) (hA : fa_RA r) (hH : ∀ i, i < 5 → r 114 i = some (115 + 56 * i)) (hr1 : fa_RS r 1) (hr57 : fa_RS r 57) (hr115 : fa_RS r 115) (hF : fa_FV v) (a1 : Int32) (a2 : Int32) : fa_MI l G n yX6_ifPassed cX6_ifPassed 4 (some .int) 4 [.ref (fa_B G + (0)), .int (a1), .int (a2)] v r (fa_voi r (fun x v1 => (x = if a1 < nI 1 ∨ nI 400 < a1 ∨ a2 < 0 ∨ ¬ a2 ≤ nI 2 then (-2 : Int32) else 0) ∧ (fa_fr (0) (397) v v1))) := by
  refine fa_startI (by decide +kernel) (Nat.le_of_ble_eq_true rfl) (fun p e s m args below meth c ls Q CX hl HX RET => ?_)
  have hl : lv_has ls 4 [(0, .ref (fa_B G + (0))), (1, .int (a1)), (2, .int (a2))] := hl
  have hx := CX.1.1
  have hb := CX.1.2.1
  refine lv_iload_n hx hb dX6_ifPassed_0 rfl (lv_at hl 1 rfl) ?_
  refine lv_iconst (v := nI (1)) hx hb dX6_ifPassed_1 (by decide) ?_
  refine lv_icmp_lt (tgt := 21) hx hb dX6_ifPassed_2 (by decide) (fun c_2 => ?_) (fun c_2 => ?_)
  · refine lv_bipush (v := (-2 : Int32)) hx hb dX6_ifPassed_21 (by decide) ?_
    exact RET _ _ _ _ _ _ _ HX dX6_ifPassed_23 (⟨rfl, ⟨(by simp [c_2]), fa_fr.rf⟩⟩)
  · refine lv_iload_n hx hb dX6_ifPassed_5 rfl (lv_at hl 1 rfl) ?_
    refine lv_sipush (v := nI (400)) hx hb dX6_ifPassed_6 (by decide) ?_
    refine lv_icmp_gt (tgt := 21) hx hb dX6_ifPassed_9 (by decide) (fun c_9 => ?_) (fun c_9 => ?_)
    · refine lv_bipush (v := (-2 : Int32)) hx hb dX6_ifPassed_21 (by decide) ?_
      exact RET _ _ _ _ _ _ _ HX dX6_ifPassed_23 (⟨rfl, ⟨(by simp [c_2, c_9]), fa_fr.rf⟩⟩)
    · refine lv_iload_n hx hb dX6_ifPassed_12 rfl (lv_at hl 2 rfl) ?_
      refine lv_if_lt (tgt := 21) hx hb dX6_ifPassed_13 (by decide) (fun c_13 => ?_) (fun c_13 => ?_)
      · refine lv_bipush (v := (-2 : Int32)) hx hb dX6_ifPassed_21 (by decide) ?_
        exact RET _ _ _ _ _ _ _ HX dX6_ifPassed_23 (⟨rfl, ⟨(by simp [c_2, c_9, c_13]), fa_fr.rf⟩⟩)
      · refine lv_iload_n hx hb dX6_ifPassed_16 rfl (lv_at hl 2 rfl) ?_
        refine lv_iconst (v := nI (2)) hx hb dX6_ifPassed_17 (by decide) ?_
        refine lv_icmp_le (tgt := 24) hx hb dX6_ifPassed_18 (by decide) (fun c_18 => ?_) (fun c_18 => ?_)
        · obtain ⟨ka, hka1, hka, eka⟩ := fa_natIn (by decide) c_2 (Int32.not_lt.mp c_9)
          refine lv_aload_n hx hb dX6_ifPassed_24 rfl (lv_at hl 0 rfl) ?_
          refine fa_getr (k := 0) (j := 57) CX HX fl_X6_16 (by omega) rfl rfl hA.2.1 dX6_ifPassed_25 ?_
          refine lv_aload_n hx hb dX6_ifPassed_28 rfl (lv_at hl 0 rfl) ?_
          refine fa_getr (k := 0) (j := 1) CX HX fl_X6_10 (by omega) rfl rfl hA.1 dX6_ifPassed_29 ?_
          refine fa_callVvu (As := [.ref (fa_B G + (1))]) (rest := []) CX HX (p1_scopy l G n hn v r 57 (by decide) hr57 1 (by decide) hr1 (by decide) (hF.2.1 1 (by decide))) ln_X6_119 (fa_lt (by decide) 0 (by decide) hn) (fa_s0 (by decide)) rfl rfl rfl (Nat.le_of_ble_eq_true rfl) hl.1 ⟨Nat.le_of_ble_eq_true rfl, Nat.le_of_ble_eq_true rfl⟩ ⟨Nat.le_refl _, Nat.le_refl _⟩ dX6_ifPassed_32 (fun v307 H locs h306 HX308 => ?_)
          have h_sc := h306.1
          refine lv_iconst (v := nI (0)) hx hb dX6_ifPassed_35 (by decide) ?_
          refine lv_istore_n (lv' := [(3, .int (nI (0))), (0, .ref (fa_B G + (0))), (1, .int (a1)), (2, .int (a2))]) hx hb dX6_ifPassed_36 rfl hl (by decide) rfl (fun ls hl => ?_)
          have LOOP_37 : ∀ (fu : Nat) (j : Nat) (v309 : fa_V) (H : Heap) (locs : List Loc) (ls : Array Slot), ka - j < fu → (j ≤ ka ∧ (v309 57 1 = 0 ∧ v309 (57 + 2) 0 = 0 ∧ (∀ i, 3 ≤ i → i < 6 → v309 57 i = 0) ∧ fa_fr 57 113 v v309)) → lv_has ls 4 [(0, .ref (fa_B G + (0))), (1, .int (a1)), (2, .int (a2)), (3, .int (nI (j)))] → fa_HX G (n) v309 r s H locs → W p l e (fa_rm 4) s m args below meth c H locs (0) (0) Q (F0 m 37 ls []) := by
            intro fu
            induction fu with
            | zero => intro j v309 H locs ls hk; exact absurd hk (Nat.not_lt_zero _)
            | succ fu ih_37 =>
              intro j v309 H locs ls hk_37 hi_37 hl HX310
              have hq := hi_37.2
              refine lv_iload_n hx hb dX6_ifPassed_37 rfl (lv_at hl 3 rfl) ?_
              refine lv_iload_n hx hb dX6_ifPassed_38 rfl (lv_at hl 1 rfl) ?_
              refine lv_icmp_ge (tgt := 56) hx hb dX6_ifPassed_39 (by decide) (fun c_39 => ?_) (fun c_39 => ?_)
              · refine lv_iload_n hx hb dX6_ifPassed_56 rfl (lv_at hl 2 rfl) ?_
                by_cases c_57_0 : a2 = (0 : Int32)
                · refine lv_lookup (off := 27) (tgt := 84) hx hb dX6_ifPassed_57 (by decide) (by rw [c_57_0]; decide) (by decide) ?_
                  refine lv_aload_n hx hb dX6_ifPassed_84 rfl (lv_at hl 0 rfl) ?_
                  refine fa_getr (k := 0) (j := 57) CX HX310 fl_X6_16 (by omega) rfl rfl hA.2.1 dX6_ifPassed_85 ?_
                  refine fa_geti (k := 57) CX HX310 fl_X6_137 (fa_lt (by decide) 0 (by decide) hn) (fa_s0 (by decide)) rfl dX6_ifPassed_88 ?_
                  refine lv_aload_n hx hb dX6_ifPassed_91 rfl (lv_at hl 0 rfl) ?_
                  refine fa_getr (k := 0) (j := 1) CX HX310 fl_X6_10 (by omega) rfl rfl hA.1 dX6_ifPassed_92 ?_
                  refine fa_geti (k := 1) CX HX310 fl_X6_137 (fa_lt (by decide) 0 (by decide) hn) (fa_s0 (by decide)) rfl dX6_ifPassed_95 ?_
                  refine lv_isub hx hb dX6_ifPassed_98 ?_
                  exact RET _ _ _ _ _ _ _ HX310 dX6_ifPassed_99 (⟨rfl, ⟨(by rw [if_neg (by simp [c_2, c_9, c_13, c_18]), hq.2.2.1 3 (by decide) (by decide), hq.2.2.2 1 (by omega), hF.2.1 3 (by decide)]; rfl), (fa_fr.tr fa_fr.rf (fa_fr.wide hi_37.2.2.2.2 (by omega) (by omega)))⟩⟩)
                by_cases c_57_1 : a2 = (1 : Int32)
                · refine lv_lookup (off := 43) (tgt := 100) hx hb dX6_ifPassed_57 (by decide) (by rw [c_57_1]; decide) (by decide) ?_
                  refine lv_aload_n hx hb dX6_ifPassed_100 rfl (lv_at hl 0 rfl) ?_
                  refine fa_getr (k := 0) (j := 57) CX HX310 fl_X6_16 (by omega) rfl rfl hA.2.1 dX6_ifPassed_101 ?_
                  refine fa_geti (k := 57) CX HX310 fl_X6_140 (fa_lt (by decide) 0 (by decide) hn) (fa_s0 (by decide)) rfl dX6_ifPassed_104 ?_
                  refine lv_aload_n hx hb dX6_ifPassed_107 rfl (lv_at hl 0 rfl) ?_
                  refine fa_getr (k := 0) (j := 1) CX HX310 fl_X6_10 (by omega) rfl rfl hA.1 dX6_ifPassed_108 ?_
                  refine fa_geti (k := 1) CX HX310 fl_X6_140 (fa_lt (by decide) 0 (by decide) hn) (fa_s0 (by decide)) rfl dX6_ifPassed_111 ?_
                  refine lv_isub hx hb dX6_ifPassed_114 ?_
                  exact RET _ _ _ _ _ _ _ HX310 dX6_ifPassed_115 (⟨rfl, ⟨(by rw [if_neg (by simp [c_2, c_9, c_13, c_18]), hq.2.2.1 4 (by decide) (by decide), hq.2.2.2 1 (by omega), hF.2.1 4 (by decide)]; rfl), (fa_fr.tr fa_fr.rf (fa_fr.wide hi_37.2.2.2.2 (by omega) (by omega)))⟩⟩)
                refine lv_lookup (off := 59) (tgt := 116) hx hb dX6_ifPassed_57 (by decide) (by show Op.lookupswitch.offset [(0, 27), (1, 43)] 59 _ = _; rw [lv_osw (k := 0) c_57_0 (by decide), lv_osw (k := 1) c_57_1 (by decide)]; rfl) (by decide) ?_
                refine lv_aload_n hx hb dX6_ifPassed_116 rfl (lv_at hl 0 rfl) ?_
                refine fa_getr (k := 0) (j := 57) CX HX310 fl_X6_16 (by omega) rfl rfl hA.2.1 dX6_ifPassed_117 ?_
                refine fa_geti (k := 57) CX HX310 fl_X6_143 (fa_lt (by decide) 0 (by decide) hn) (fa_s0 (by decide)) rfl dX6_ifPassed_120 ?_
                refine lv_aload_n hx hb dX6_ifPassed_123 rfl (lv_at hl 0 rfl) ?_
                refine fa_getr (k := 0) (j := 1) CX HX310 fl_X6_10 (by omega) rfl rfl hA.1 dX6_ifPassed_124 ?_
                refine fa_geti (k := 1) CX HX310 fl_X6_143 (fa_lt (by decide) 0 (by decide) hn) (fa_s0 (by decide)) rfl dX6_ifPassed_127 ?_
                refine lv_isub hx hb dX6_ifPassed_130 ?_
                exact RET _ _ _ _ _ _ _ HX310 dX6_ifPassed_131 (⟨rfl, ⟨(by rw [if_neg (by simp [c_2, c_9, c_13, c_18]), hq.2.2.1 5 (by decide) (by decide), hq.2.2.2 1 (by omega), hF.2.1 5 (by decide)]; rfl), (fa_fr.tr fa_fr.rf (fa_fr.wide hi_37.2.2.2.2 (by omega) (by omega)))⟩⟩)
              · have hjk : j < ka := by
                  rw [eka] at c_39
                  exact Nat.lt_of_not_le (fun q => c_39 ((nI_leI (by omega) (by omega)).mpr q))
                refine lv_aload_n hx hb dX6_ifPassed_42 rfl (lv_at hl 0 rfl) ?_
                refine fa_getr (k := 0) (j := 57) CX HX310 fl_X6_16 (by omega) rfl rfl hA.2.1 dX6_ifPassed_43 ?_
                refine fa_callViu (As := []) (rest := []) CX HX310 (p1_passDay l G n hn v309 r 57 (by decide) hr57 hq.1 hq.2.1) ln_X6_246 (fa_lt (by decide) 0 (by decide) hn) (fa_s0 (by decide)) rfl rfl rfl (Nat.le_of_ble_eq_true rfl) hl.1 ⟨Nat.le_of_ble_eq_true rfl, Nat.le_of_ble_eq_true rfl⟩ ⟨Nat.le_refl _, Nat.le_refl _⟩ dX6_ifPassed_46 (fun x312 v313 H locs h311 HX314 => ?_)
                have h_pd := h311.1
                refine lv_pop hx hb dX6_ifPassed_49 rfl ?_
                refine lv_iinc (v := nI (j + 1)) (lv' := [(3, .int (nI (j + 1))), (0, .ref (fa_B G + (0))), (1, .int (a1)), (2, .int (a2))]) hx hb dX6_ifPassed_50 hl (k := 3) rfl (nI_add (j) 1) (by decide) rfl (fun ls hl => ?_)
                refine lv_goto (tgt := 37) hx hb dX6_ifPassed_53 (by decide) ?_
                exact ih_37 (j + 1) v313 _ _ _ (by omega) (⟨by omega, (by rw [h_pd.2 1 (by decide) (by decide)]; exact hq.1), (by rw [h311.2 (57 + 2) (by omega)]; exact hq.2.1), (fun i h1 h2 => by rw [h_pd.2 i (by omega) (by omega)]; exact hq.2.2.1 i h1 h2), (fa_fr.tr (fa_fr.tr fa_fr.rf (fa_fr.wide hi_37.2.2.2.2 (by omega) (by omega))) (fa_fr.wide h311.2 (by omega) (by omega)))⟩) (lv_sub hl [1, 2, 3, 0] rfl) HX314
          exact LOOP_37 (ka - 0 + 1) (0) v307 _ _ _ (Nat.lt_succ_self _) (⟨Nat.zero_le _, (h_sc.2.1.trans (hF.2.1 1 (by decide))), (h_sc.2.2.2.2.2.2.2.2.1.trans hF.2.2.1), (fun i h1 h2 => by rcases (show i = 3 ∨ i = 4 ∨ i = 5 by omega) with z | z | z <;> subst z; exact h_sc.2.2.2.1.trans (hF.2.1 3 (by decide)); exact h_sc.2.2.2.2.1.trans (hF.2.1 4 (by decide)); exact h_sc.2.2.2.2.2.1.trans (hF.2.1 5 (by decide))), (fa_fr.tr fa_fr.rf (fa_fr.wide h306.2 (by omega) (by omega)))⟩) (lv_sub hl [1, 2, 3, 0] rfl) HX308
        · refine lv_bipush (v := (-2 : Int32)) hx hb dX6_ifPassed_21 (by decide) ?_
          exact RET _ _ _ _ _ _ _ HX dX6_ifPassed_23 (⟨rfl, ⟨(by simp [c_2, c_9, c_13, c_18]), fa_fr.rf⟩⟩)
