set_option maxHeartbeats 4000000 in
set_option maxRecDepth 100000 in
theorem p1_signHere (l : Launch) (G : fa_G) (n : Nat) (hn : 397 ≤ n) (v : fa_V) (r : fa_R) (hA : fa_RA r) (hH : ∀ i, i < 5 → r 114 i = some (115 + 56 * i)) (hr1 : fa_RS r 1) (hr57 : fa_RS r 57) (hr115 : fa_RS r 115) (hl0 : v 395 1 = 0) : fa_MI l G n yX1_signHere cX1_signHere 1 (some .char) 1 [.ref (fa_B G + (395))] v r (fun x w => w = (v, r) ∧ (x = (0 : Int32))) := by
  refine fa_startC (by decide +kernel) (Nat.le_of_ble_eq_true rfl) (fun p e s m args below meth c ls Q CX hl HX RET => ?_)
  have hl : lv_has ls 1 [(0, .ref (fa_B G + (395)))] := hl
  have hx := CX.1.1
  have hb := CX.1.2.1
  refine lv_aload_n hx hb dX1_signHere_0 rfl (lv_at hl 0 rfl) ?_
  refine fa_geti (k := 395) CX HX fl_X1_19 (by omega) rfl rfl dX1_signHere_1 ?_
  refine lv_if_lt (tgt := 30) hx hb dX1_signHere_4 (by decide) (fun c_4 => ?_) (fun c_4 => ?_)
  · refine lv_iconst (v := nI (0)) hx hb dX1_signHere_30 (by decide) ?_
    exact RET _ _ _ _ _ _ _ HX dX1_signHere_31 (by decide) (⟨rfl, rfl⟩)
  · refine lv_aload_n hx hb dX1_signHere_7 rfl (lv_at hl 0 rfl) ?_
    refine fa_geti (k := 395) CX HX fl_X1_19 (by omega) rfl rfl dX1_signHere_8 ?_
    refine lv_aload_n hx hb dX1_signHere_11 rfl (lv_at hl 0 rfl) ?_
    refine fa_geti (k := 395) CX HX fl_X1_15 (by omega) rfl rfl dX1_signHere_12 ?_
    refine lv_icmp_ge (tgt := 30) hx hb dX1_signHere_15 (by decide) (fun c_15 => ?_) (fun c_15 => ?_)
    · refine lv_iconst (v := nI (0)) hx hb dX1_signHere_30 (by decide) ?_
      exact RET _ _ _ _ _ _ _ HX dX1_signHere_31 (by decide) (⟨rfl, rfl⟩)
    · rw [hl0] at c_15; exact absurd (Int32.not_le.mp c_15) c_4
set_option maxHeartbeats 4000000 in
set_option maxRecDepth 100000 in
theorem p1_readOrder (l : Launch) (G : fa_G) (n : Nat) (hn : 397 ≤ n) (v : fa_V) (r : fa_R) (hA : fa_RA r) (hH : ∀ i, i < 5 → r 114 i = some (115 + 56 * i)) (hr1 : fa_RS r 1) (hr57 : fa_RS r 57) (hr115 : fa_RS r 115) (hl0 : v 395 1 = 0) : fa_MI l G n yX1_readOrder cX1_readOrder 1 (some .boolean) 2 [.ref (fa_B G + (395))] v r (fa_voi r (fun x v1 => (x = (0 : Int32)) ∧ (v1 395 2 = v 395 2) ∧ (fa_fr (395) (396) v v1))) := by
  refine fa_startZ (by decide +kernel) (Nat.le_of_ble_eq_true rfl) (fun p e s m args below meth c ls Q CX hl HX RET => ?_)
  have hl : lv_has ls 1 [(0, .ref (fa_B G + (395)))] := hl
  have hx := CX.1.1
  have hb := CX.1.2.1
  refine lv_aload_n hx hb dX1_readOrder_0 rfl (lv_at hl 0 rfl) ?_
  refine lv_aload_n hx hb dX1_readOrder_1 rfl (lv_at hl 0 rfl) ?_
  refine fa_callVip (As := []) (rest := [.ref (fa_B G + (395))]) CX HX (p1_signHere l G n hn v r hA hH hr1 hr57 hr115  hl0) ln_X1_30 (by omega) rfl rfl rfl rfl (Nat.le_of_ble_eq_true rfl) hl.1 ⟨Nat.le_of_ble_eq_true rfl, Nat.le_of_ble_eq_true rfl⟩ ⟨Nat.le_refl _, Nat.le_refl _⟩ dX1_readOrder_2 (fun x153 H locs h152 HX154 => ?_)
  have hv_signHere := h152
  refine fa_puti (k := 395) CX HX154 fl_X1_34 (by omega) rfl rfl (by rw [hv_signHere]; decide) (by rw [hv_signHere]; decide) dX1_readOrder_5 (fun H locs v155 e156 HX157 => ?_)
  refine lv_aload_n hx hb dX1_readOrder_8 rfl (lv_at hl 0 rfl) ?_
  refine fa_geti (k := 395) CX HX157 fl_X1_34 (by omega) rfl rfl dX1_readOrder_9 ?_
  have sw_12 : v155 395 3 = (0 : Int32) := by simp [h152, e156, fa_u] <;> rfl
  refine lv_tableOut (tgt := 202) hx hb dX1_readOrder_12 (by rw [sw_12]; decide) (by decide) ?_
  refine lv_iconst (v := nI (0)) hx hb dX1_readOrder_202 (by decide) ?_
  exact RET _ _ _ _ _ _ _ HX157 dX1_readOrder_203 (by decide) (⟨rfl, ⟨rfl, (by show v155 395 2 = v 395 2; rw [e156, fa_u_n _ _ (by decide)]), (by rw [e156]; exact fa_fr.u fa_fr.rf (by omega))⟩⟩)
set_option maxHeartbeats 4000000 in
set_option maxRecDepth 100000 in
theorem p1_findFault (l : Launch) (G : fa_G) (n : Nat) (hn : 397 ≤ n) (v : fa_V) (r : fa_R) (hA : fa_RA r) (hH : ∀ i, i < 5 → r 114 i = some (115 + 56 * i)) (hr1 : fa_RS r 1) (hr57 : fa_RS r 57) (hr115 : fa_RS r 115) (hl0 : v 395 1 = 0) : fa_MI l G n yX1_findFault cX1_findFault 2 (some .int) 3 [.ref (fa_B G + (395))] v r (fa_voi r (fun x v1 => (x = (0 : Int32)) ∧ (fa_fr (395) (396) v v1))) := by
  refine fa_startI (by decide +kernel) (Nat.le_of_ble_eq_true rfl) (fun p e s m args below meth c ls Q CX hl HX RET => ?_)
  have hl : lv_has ls 2 [(0, .ref (fa_B G + (395)))] := hl
  have hx := CX.1.1
  have hb := CX.1.2.1
  refine lv_aload_n hx hb dX1_findFault_0 rfl (lv_at hl 0 rfl) ?_
  refine lv_iconst (v := nI (0)) hx hb dX1_findFault_1 (by decide) ?_
  refine fa_puti (k := 395) CX HX fl_X1_19 (by omega) rfl rfl rfl rfl dX1_findFault_2 (fun H locs v158 e159 HX160 => ?_)
  refine lv_iconst (v := nI (0)) hx hb dX1_findFault_5 (by decide) ?_
  refine lv_istore_n (lv' := [(1, .int (nI (0))), (0, .ref (fa_B G + (395)))]) hx hb dX1_findFault_6 rfl hl (by decide) rfl (fun ls hl => ?_)
  refine lv_iload_n hx hb dX1_findFault_7 rfl (lv_at hl 0 rfl) ?_
  refine lv_bipush (v := nI (60)) hx hb dX1_findFault_8 (by decide) ?_
  refine lv_icmp_gt (tgt := 59) hx hb dX1_findFault_10 (by decide) (fun c_10 => ?_) (fun c_10 => ?_)
  · exact absurd c_10 (by try decide)
  · refine lv_aload_n hx hb dX1_findFault_13 rfl (lv_at hl 1 rfl) ?_
    refine fa_callViu (As := []) (rest := []) CX HX160 (p1_readOrder l G n hn v158 r hA hH hr1 hr57 hr115  (by rw [show v158 395 1 = (0 : Int32) by simp [hl0, e159, fa_u]]; try rfl)) ln_X1_22 (by omega) rfl rfl rfl rfl (Nat.le_of_ble_eq_true rfl) hl.1 ⟨Nat.le_of_ble_eq_true rfl, Nat.le_of_ble_eq_true rfl⟩ ⟨Nat.le_refl _, Nat.le_refl _⟩ dX1_findFault_14 (fun x162 v163 H locs h161 HX164 => ?_)
    have hv_readOrder := h161.1
    have h_readOrder := h161.2.1
    have kx_17 : x162 = (0 : Int32) := h161.1
    refine lv_if_ne (tgt := 25) hx hb dX1_findFault_17 (by decide) (fun c_17 => ?_) (fun c_17 => ?_)
    · exact absurd (by rw [kx_17]; try decide) c_17
    · refine lv_aload_n hx hb dX1_findFault_20 rfl (lv_at hl 1 rfl) ?_
      refine fa_geti (k := 395) CX HX164 fl_X1_19 (by omega) rfl rfl dX1_findFault_21 ?_
      exact RET _ _ _ _ _ _ _ HX164 dX1_findFault_24 (⟨rfl, ⟨(by rw [h_readOrder, e159, fa_u_s]; rfl), (fa_fr.tr (by rw [e159]; exact fa_fr.u fa_fr.rf (by omega)) (fa_fr.wide h161.2.2 (by omega) (by omega)))⟩⟩)
set_option maxHeartbeats 4000000 in
set_option maxRecDepth 100000 in
theorem p1_appendSign (l : Launch) (G : fa_G) (n : Nat) (hn : 397 ≤ n) (v : fa_V) (r : fa_R) (hA : fa_RA r) (hH : ∀ i, i < 5 → r 114 i = some (115 + 56 * i)) (hr1 : fa_RS r 1) (hr57 : fa_RS r 57) (hr115 : fa_RS r 115) (a1 : Int32) (hl0 : v 395 1 = 0) : fa_MI l G n yX1_appendSign cX1_appendSign 2 (some .boolean) 1 [.ref (fa_B G + (395)), .int (a1)] v r (fa_voi r (fun x v1 => (x = (1 : Int32)) ∧ (v1 395 1 = nI 1) ∧ (fa_fr (395) (397) v v1))) := by
  refine fa_startZ (by decide +kernel) (Nat.le_of_ble_eq_true rfl) (fun p e s m args below meth c ls Q CX hl HX RET => ?_)
  have hl : lv_has ls 2 [(0, .ref (fa_B G + (395))), (1, .int (a1))] := hl
  have hx := CX.1.1
  have hb := CX.1.2.1
  refine lv_aload_n hx hb dX1_appendSign_0 rfl (lv_at hl 0 rfl) ?_
  refine fa_geti (k := 395) CX HX fl_X1_15 (by omega) rfl rfl dX1_appendSign_1 ?_
  refine lv_bipush (v := nI (60)) hx hb dX1_appendSign_4 (by decide) ?_
  have kx_6 : v 395 1 = (0 : Int32) := hl0
  refine lv_icmp_lt (tgt := 11) hx hb dX1_appendSign_6 (by decide) (fun c_6 => ?_) (fun c_6 => ?_)
  · refine lv_aload_n hx hb dX1_appendSign_11 rfl (lv_at hl 0 rfl) ?_
    refine fa_getr (k := 395) (j := 396) CX HX fl_X1_9 (by omega) rfl rfl hA.2.2.2.2.2 dX1_appendSign_12 ?_
    refine lv_aload_n hx hb dX1_appendSign_15 rfl (lv_at hl 0 rfl) ?_
    refine fa_geti (k := 395) CX HX fl_X1_15 (by omega) rfl rfl dX1_appendSign_16 ?_
    refine lv_iload_n hx hb dX1_appendSign_19 rfl (lv_at hl 1 rfl) ?_
    rw [show v 395 1 = nI (0) from hl0]
    refine fa_cast (k := 396) (j := 0) CX HX (by omega) rfl (by omega) (by first | decide | assumption) dX1_appendSign_20 (fun H locs v165 e166 HX167 => ?_)
    refine lv_aload_n hx hb dX1_appendSign_21 rfl (lv_at hl 0 rfl) ?_
    refine lv_dup hx hb dX1_appendSign_22 rfl ?_
    refine fa_geti (k := 395) CX HX167 fl_X1_15 (by omega) rfl rfl dX1_appendSign_23 ?_
    refine lv_iconst (v := nI (1)) hx hb dX1_appendSign_26 (by decide) ?_
    refine lv_iadd hx hb dX1_appendSign_27 ?_
    refine fa_puti (k := 395) CX HX167 fl_X1_15 (by omega) rfl rfl rfl rfl dX1_appendSign_28 (fun H locs v168 e169 HX170 => ?_)
    refine lv_iconst (v := nI (1)) hx hb dX1_appendSign_31 (by decide) ?_
    exact RET _ _ _ _ _ _ _ HX170 dX1_appendSign_32 (by decide) (⟨rfl, ⟨rfl, (by show v168 395 1 = nI 1; rw [e169, fa_u_s, e166, fa_u_n _ _ (by decide), hl0]; rfl), (by rw [e169]; exact fa_fr.u (by rw [e166]; exact fa_fr.u fa_fr.rf (by omega)) (by omega))⟩⟩)
  · exact absurd (by rw [kx_6]; try decide) c_6
