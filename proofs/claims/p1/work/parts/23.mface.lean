set_option maxHeartbeats 4000000 in
set_option maxRecDepth 100000 in
theorem p1n_add (l : Launch) (G : fa_G) (n : Nat) (hn : 406 ≤ n) (v : fa_V) (r : fa_R) (hM : fa_RM r) (hF : fa_FM v) (a1 : Int32) (a2 : Int32) : fa_MI l G n yX7_add cX7_add 3 (some .int) 5 [.ref (fa_B G + (397)), .int (a1), .int (a2)] v r (fa_voi r (fun x v1 => (x = if a1 < 0 ∨ nI 4 < a1 ∨ a2 < nI 1 ∨ ¬ a2 ≤ nI 50 then (-2 : Int32) else nI 0) ∧ (fa_fr (397) (406) v v1))) := by
  refine fa_startI (by decide +kernel) (Nat.le_of_ble_eq_true rfl) (fun p e s m args below meth c ls Q CX hl HX RET => ?_)
  have hl : lv_has ls 3 [(0, .ref (fa_B G + (397))), (1, .int (a1)), (2, .int (a2))] := hl
  have hx := CX.1.1
  have hb := CX.1.2.1
  refine lv_aload_n hx hb dX7_add_0 rfl (lv_at hl 0 rfl) ?_
  refine fa_callVvu (As := []) (rest := []) CX HX (p1m_hold l G n hn v r hM  ) ln_X7_102 (by omega) rfl rfl rfl rfl (Nat.le_of_ble_eq_true rfl) hl.1 ⟨Nat.le_of_ble_eq_true rfl, Nat.le_of_ble_eq_true rfl⟩ ⟨Nat.le_refl _, Nat.le_refl _⟩ dX7_add_1 (fun v482 H locs h481 HX483 => ?_)
  have h_hold := h481.1
  refine lv_aload_n hx hb dX7_add_4 rfl (lv_at hl 0 rfl) ?_
  refine lv_aload_n hx hb dX7_add_5 rfl (lv_at hl 0 rfl) ?_
  refine lv_iload_n hx hb dX7_add_6 rfl (lv_at hl 1 rfl) ?_
  refine lv_iload_n hx hb dX7_add_7 rfl (lv_at hl 2 rfl) ?_
  refine fa_callViu (As := [.int (a1), .int (a2)]) (rest := [.ref (fa_B G + (397))]) CX HX483 (p1m_adds l G n hn v482 r hM (a1) (a2) (by simp [(hF.1 14 (by decide) (by decide)), h481.2 398 (by omega)] <;> rfl) (by simp [(hF.1 8 (by decide) (by decide)), h481.2 398 (by omega)] <;> rfl) (by simp [(show v 398 6 = (300 : Int32) from hF.2.1 6 (by decide)), h481.2 398 (by omega)] <;> rfl)) ln_X7_105 (by omega) rfl rfl rfl rfl (Nat.le_of_ble_eq_true rfl) hl.1 ⟨Nat.le_of_ble_eq_true rfl, Nat.le_of_ble_eq_true rfl⟩ ⟨Nat.le_refl _, Nat.le_refl _⟩ dX7_add_8 (fun x485 v486 H locs h484 HX487 => ?_)
  have h_adds := h484.1
  refine fa_callViu (As := [.int (x485)]) (rest := []) CX HX487 (p1m_recorded l G n hn v486 r hM (x485) (by simp [hF.2.2.2.2, h481.2 397 (by omega), h484.2 397 (by omega)] <;> rfl)) ln_X7_109 (by omega) rfl rfl rfl rfl (Nat.le_of_ble_eq_true rfl) hl.1 ⟨Nat.le_of_ble_eq_true rfl, Nat.le_of_ble_eq_true rfl⟩ ⟨Nat.le_refl _, Nat.le_refl _⟩ dX7_add_11 (fun x489 v490 H locs h488 HX491 => ?_)
  have h_re := h488.1
  exact RET _ _ _ _ _ _ _ HX491 dX7_add_14 (⟨rfl, ⟨(by rw [h_re]; exact h_adds), (fa_fr.tr (fa_fr.tr (fa_fr.tr fa_fr.rf (fa_fr.wide h481.2 (by omega) (by omega))) (fa_fr.wide h484.2 (by omega) (by omega))) (fa_fr.wide h488.2 (by omega) (by omega)))⟩⟩)
set_option maxHeartbeats 4000000 in
set_option maxRecDepth 100000 in
theorem p1n_ask (l : Launch) (G : fa_G) (n : Nat) (hn : 406 ≤ n) (v : fa_V) (r : fa_R) (hM : fa_RM r) (hF : fa_FM v) (a1 : Int32) : fa_MI l G n yX7_ask cX7_ask 2 (some .int) 5 [.ref (fa_B G + (397)), .int (a1)] v r (fa_voi r (fun x v1 => (x = (-1 : Int32)) ∧ (fa_fr (397) (406) v v1))) := by
  refine fa_startI (by decide +kernel) (Nat.le_of_ble_eq_true rfl) (fun p e s m args below meth c ls Q CX hl HX RET => ?_)
  have hl : lv_has ls 2 [(0, .ref (fa_B G + (397))), (1, .int (a1))] := hl
  have hx := CX.1.1
  have hb := CX.1.2.1
  refine lv_aload_n hx hb dX7_ask_0 rfl (lv_at hl 0 rfl) ?_
  refine fa_callVvu (As := []) (rest := []) CX HX (p1m_hold l G n hn v r hM  ) ln_X7_102 (by omega) rfl rfl rfl rfl (Nat.le_of_ble_eq_true rfl) hl.1 ⟨Nat.le_of_ble_eq_true rfl, Nat.le_of_ble_eq_true rfl⟩ ⟨Nat.le_refl _, Nat.le_refl _⟩ dX7_ask_1 (fun v493 H locs h492 HX494 => ?_)
  have h_hold := h492.1
  refine lv_aload_n hx hb dX7_ask_4 rfl (lv_at hl 0 rfl) ?_
  refine lv_aload_n hx hb dX7_ask_5 rfl (lv_at hl 0 rfl) ?_
  refine lv_iload_n hx hb dX7_ask_6 rfl (lv_at hl 1 rfl) ?_
  refine fa_callVip (As := [.int (a1)]) (rest := [.ref (fa_B G + (397))]) CX HX494 (p1m_asksFor l G n hn v493 r hM (a1) (by simp [(hF.1 8 (by decide) (by decide)), h492.2 398 (by omega)] <;> rfl)) ln_X7_112 (by omega) rfl rfl rfl rfl (Nat.le_of_ble_eq_true rfl) hl.1 ⟨Nat.le_of_ble_eq_true rfl, Nat.le_of_ble_eq_true rfl⟩ ⟨Nat.le_refl _, Nat.le_refl _⟩ dX7_ask_7 (fun x496 H locs h495 HX497 => ?_)
  have hv_asksFor := h495
  refine fa_callViu (As := [.int (x496)]) (rest := []) CX HX497 (p1m_recorded l G n hn v493 r hM (x496) (by simp [hF.2.2.2.2, h492.2 397 (by omega)] <;> rfl)) ln_X7_109 (by omega) rfl rfl rfl rfl (Nat.le_of_ble_eq_true rfl) hl.1 ⟨Nat.le_of_ble_eq_true rfl, Nat.le_of_ble_eq_true rfl⟩ ⟨Nat.le_refl _, Nat.le_refl _⟩ dX7_ask_10 (fun x499 v500 H locs h498 HX501 => ?_)
  have h_re := h498.1
  exact RET _ _ _ _ _ _ _ HX501 dX7_ask_13 (⟨rfl, ⟨(by rw [h_re]; exact hv_asksFor), (fa_fr.tr (fa_fr.tr fa_fr.rf (fa_fr.wide h492.2 (by omega) (by omega))) (fa_fr.wide h498.2 (by omega) (by omega)))⟩⟩)
set_option maxHeartbeats 4000000 in
set_option maxRecDepth 100000 in
theorem p1n_seal (l : Launch) (G : fa_G) (n : Nat) (hn : 406 ≤ n) (v : fa_V) (r : fa_R) (hM : fa_RM r) (hF : fa_FM v) (a1 : Int32) (a2 : Int32) (a3 : Int32) : fa_MI l G n yX7_seal cX7_seal 4 (some .int) 5 [.ref (fa_B G + (397)), .int (a1), .int (a2), .int (a3)] v r (fa_voi r (fun x v1 => (x = (-1 : Int32)) ∧ (fa_fr (397) (406) v v1))) := by
  refine fa_startI (by decide +kernel) (Nat.le_of_ble_eq_true rfl) (fun p e s m args below meth c ls Q CX hl HX RET => ?_)
  have hl : lv_has ls 4 [(0, .ref (fa_B G + (397))), (1, .int (a1)), (2, .int (a2)), (3, .int (a3))] := hl
  have hx := CX.1.1
  have hb := CX.1.2.1
  refine lv_aload_n hx hb dX7_seal_0 rfl (lv_at hl 0 rfl) ?_
  refine fa_callVvu (As := []) (rest := []) CX HX (p1m_hold l G n hn v r hM  ) ln_X7_102 (by omega) rfl rfl rfl rfl (Nat.le_of_ble_eq_true rfl) hl.1 ⟨Nat.le_of_ble_eq_true rfl, Nat.le_of_ble_eq_true rfl⟩ ⟨Nat.le_refl _, Nat.le_refl _⟩ dX7_seal_1 (fun v503 H locs h502 HX504 => ?_)
  have h_hold := h502.1
  refine lv_aload_n hx hb dX7_seal_4 rfl (lv_at hl 0 rfl) ?_
  refine lv_aload_n hx hb dX7_seal_5 rfl (lv_at hl 0 rfl) ?_
  refine lv_iload_n hx hb dX7_seal_6 rfl (lv_at hl 1 rfl) ?_
  refine lv_iload_n hx hb dX7_seal_7 rfl (lv_at hl 2 rfl) ?_
  refine lv_iload_n hx hb dX7_seal_8 rfl (lv_at hl 3 rfl) ?_
  refine fa_callVip (As := [.int (a1), .int (a2), .int (a3)]) (rest := [.ref (fa_B G + (397))]) CX HX504 (p1m_seals l G n hn v503 r hM (a1) (a2) (a3) (by simp [(hF.1 14 (by decide) (by decide)), h502.2 398 (by omega)] <;> rfl)) ln_X7_115 (by omega) rfl rfl rfl rfl (Nat.le_of_ble_eq_true rfl) hl.1 ⟨Nat.le_of_ble_eq_true rfl, Nat.le_of_ble_eq_true rfl⟩ ⟨Nat.le_refl _, Nat.le_refl _⟩ dX7_seal_9 (fun x506 H locs h505 HX507 => ?_)
  have hv_seals := h505
  refine fa_callViu (As := [.int (x506)]) (rest := []) CX HX507 (p1m_recorded l G n hn v503 r hM (x506) (by simp [hF.2.2.2.2, h502.2 397 (by omega)] <;> rfl)) ln_X7_109 (by omega) rfl rfl rfl rfl (Nat.le_of_ble_eq_true rfl) hl.1 ⟨Nat.le_of_ble_eq_true rfl, Nat.le_of_ble_eq_true rfl⟩ ⟨Nat.le_refl _, Nat.le_refl _⟩ dX7_seal_12 (fun x509 v510 H locs h508 HX511 => ?_)
  have h_re := h508.1
  exact RET _ _ _ _ _ _ _ HX511 dX7_seal_15 (⟨rfl, ⟨(by rw [h_re]; exact hv_seals), (fa_fr.tr (fa_fr.tr fa_fr.rf (fa_fr.wide h502.2 (by omega) (by omega))) (fa_fr.wide h508.2 (by omega) (by omega)))⟩⟩)
set_option maxHeartbeats 4000000 in
set_option maxRecDepth 100000 in
theorem p1n_lift (l : Launch) (G : fa_G) (n : Nat) (hn : 406 ≤ n) (v : fa_V) (r : fa_R) (hM : fa_RM r) (hF : fa_FM v) (a1 : Int32) (a2 : Int32) : fa_MI l G n yX7_lift cX7_lift 3 (some .int) 5 [.ref (fa_B G + (397)), .int (a1), .int (a2)] v r (fa_voi r (fun x v1 => (x = (-1 : Int32)) ∧ (fa_fr (397) (406) v v1))) := by
  refine fa_startI (by decide +kernel) (Nat.le_of_ble_eq_true rfl) (fun p e s m args below meth c ls Q CX hl HX RET => ?_)
  have hl : lv_has ls 3 [(0, .ref (fa_B G + (397))), (1, .int (a1)), (2, .int (a2))] := hl
  have hx := CX.1.1
  have hb := CX.1.2.1
  refine lv_aload_n hx hb dX7_lift_0 rfl (lv_at hl 0 rfl) ?_
  refine fa_callVvu (As := []) (rest := []) CX HX (p1m_hold l G n hn v r hM  ) ln_X7_102 (by omega) rfl rfl rfl rfl (Nat.le_of_ble_eq_true rfl) hl.1 ⟨Nat.le_of_ble_eq_true rfl, Nat.le_of_ble_eq_true rfl⟩ ⟨Nat.le_refl _, Nat.le_refl _⟩ dX7_lift_1 (fun v513 H locs h512 HX514 => ?_)
  have h_hold := h512.1
  refine lv_aload_n hx hb dX7_lift_4 rfl (lv_at hl 0 rfl) ?_
  refine lv_aload_n hx hb dX7_lift_5 rfl (lv_at hl 0 rfl) ?_
  refine lv_iload_n hx hb dX7_lift_6 rfl (lv_at hl 1 rfl) ?_
  refine lv_iload_n hx hb dX7_lift_7 rfl (lv_at hl 2 rfl) ?_
  refine fa_callVip (As := [.int (a1), .int (a2)]) (rest := [.ref (fa_B G + (397))]) CX HX514 (p1m_lifts l G n hn v513 r hM (a1) (a2) (by simp [(hF.1 14 (by decide) (by decide)), h512.2 398 (by omega)] <;> rfl)) ln_X7_119 (by omega) rfl rfl rfl rfl (Nat.le_of_ble_eq_true rfl) hl.1 ⟨Nat.le_of_ble_eq_true rfl, Nat.le_of_ble_eq_true rfl⟩ ⟨Nat.le_refl _, Nat.le_refl _⟩ dX7_lift_8 (fun x516 H locs h515 HX517 => ?_)
  have hv_lifts := h515
  refine fa_callViu (As := [.int (x516)]) (rest := []) CX HX517 (p1m_recorded l G n hn v513 r hM (x516) (by simp [hF.2.2.2.2, h512.2 397 (by omega)] <;> rfl)) ln_X7_109 (by omega) rfl rfl rfl rfl (Nat.le_of_ble_eq_true rfl) hl.1 ⟨Nat.le_of_ble_eq_true rfl, Nat.le_of_ble_eq_true rfl⟩ ⟨Nat.le_refl _, Nat.le_refl _⟩ dX7_lift_11 (fun x519 v520 H locs h518 HX521 => ?_)
  have h_re := h518.1
  exact RET _ _ _ _ _ _ _ HX521 dX7_lift_14 (⟨rfl, ⟨(by rw [h_re]; exact hv_lifts), (fa_fr.tr (fa_fr.tr fa_fr.rf (fa_fr.wide h512.2 (by omega) (by omega))) (fa_fr.wide h518.2 (by omega) (by omega)))⟩⟩)
set_option maxHeartbeats 4000000 in
set_option maxRecDepth 100000 in
theorem p1n_refer (l : Launch) (G : fa_G) (n : Nat) (hn : 406 ≤ n) (v : fa_V) (r : fa_R) (hM : fa_RM r) (hF : fa_FM v) (a1 : Int32) (a2 : Int32) : fa_MI l G n yX7_refer cX7_refer 3 (some .int) 5 [.ref (fa_B G + (397)), .int (a1), .int (a2)] v r (fa_voi r (fun x v1 => (x = (-1 : Int32)) ∧ (fa_fr (397) (406) v v1))) := by
  refine fa_startI (by decide +kernel) (Nat.le_of_ble_eq_true rfl) (fun p e s m args below meth c ls Q CX hl HX RET => ?_)
  have hl : lv_has ls 3 [(0, .ref (fa_B G + (397))), (1, .int (a1)), (2, .int (a2))] := hl
  have hx := CX.1.1
  have hb := CX.1.2.1
  refine lv_aload_n hx hb dX7_refer_0 rfl (lv_at hl 0 rfl) ?_
  refine fa_callVvu (As := []) (rest := []) CX HX (p1m_hold l G n hn v r hM  ) ln_X7_102 (by omega) rfl rfl rfl rfl (Nat.le_of_ble_eq_true rfl) hl.1 ⟨Nat.le_of_ble_eq_true rfl, Nat.le_of_ble_eq_true rfl⟩ ⟨Nat.le_refl _, Nat.le_refl _⟩ dX7_refer_1 (fun v523 H locs h522 HX524 => ?_)
  have h_hold := h522.1
  refine lv_aload_n hx hb dX7_refer_4 rfl (lv_at hl 0 rfl) ?_
  refine lv_aload_n hx hb dX7_refer_5 rfl (lv_at hl 0 rfl) ?_
  refine lv_iload_n hx hb dX7_refer_6 rfl (lv_at hl 1 rfl) ?_
  refine lv_iload_n hx hb dX7_refer_7 rfl (lv_at hl 2 rfl) ?_
  refine fa_callVip (As := [.int (a1), .int (a2)]) (rest := [.ref (fa_B G + (397))]) CX HX524 (p1m_refers l G n hn v523 r hM (a1) (a2) (by simp [(hF.1 14 (by decide) (by decide)), h522.2 398 (by omega)] <;> rfl)) ln_X7_122 (by omega) rfl rfl rfl rfl (Nat.le_of_ble_eq_true rfl) hl.1 ⟨Nat.le_of_ble_eq_true rfl, Nat.le_of_ble_eq_true rfl⟩ ⟨Nat.le_refl _, Nat.le_refl _⟩ dX7_refer_8 (fun x526 H locs h525 HX527 => ?_)
  have hv_refers := h525
  refine fa_callViu (As := [.int (x526)]) (rest := []) CX HX527 (p1m_recorded l G n hn v523 r hM (x526) (by simp [hF.2.2.2.2, h522.2 397 (by omega)] <;> rfl)) ln_X7_109 (by omega) rfl rfl rfl rfl (Nat.le_of_ble_eq_true rfl) hl.1 ⟨Nat.le_of_ble_eq_true rfl, Nat.le_of_ble_eq_true rfl⟩ ⟨Nat.le_refl _, Nat.le_refl _⟩ dX7_refer_11 (fun x529 v530 H locs h528 HX531 => ?_)
  have h_re := h528.1
  exact RET _ _ _ _ _ _ _ HX531 dX7_refer_14 (⟨rfl, ⟨(by rw [h_re]; exact hv_refers), (fa_fr.tr (fa_fr.tr fa_fr.rf (fa_fr.wide h522.2 (by omega) (by omega))) (fa_fr.wide h528.2 (by omega) (by omega)))⟩⟩)
set_option maxHeartbeats 4000000 in
set_option maxRecDepth 100000 in
theorem p1n_reserve (l : Launch) (G : fa_G) (n : Nat) (hn : 406 ≤ n) (v : fa_V) (r : fa_R) (hM : fa_RM r) (hF : fa_FM v) (a1 : Int32) (a2 : Int32) : fa_MI l G n yX7_reserve cX7_reserve 3 (some .int) 5 [.ref (fa_B G + (397)), .int (a1), .int (a2)] v r (fun x w => w = (v, r) ∧ (x = (-1 : Int32))) := by
  refine fa_startI (by decide +kernel) (Nat.le_of_ble_eq_true rfl) (fun p e s m args below meth c ls Q CX hl HX RET => ?_)
  have hl : lv_has ls 3 [(0, .ref (fa_B G + (397))), (1, .int (a1)), (2, .int (a2))] := hl
  have hx := CX.1.1
  have hb := CX.1.2.1
  refine lv_aload_n hx hb dX7_reserve_0 rfl (lv_at hl 0 rfl) ?_
  refine lv_iload_n hx hb dX7_reserve_1 rfl (lv_at hl 1 rfl) ?_
  refine fa_callVip (As := [.int (a1)]) (rest := []) CX HX (p1m_placeOf l G n hn v r hM (a1) (hF.1 14 (by decide) (by decide))) ln_X7_60 (by omega) rfl rfl rfl rfl (Nat.le_of_ble_eq_true rfl) hl.1 ⟨Nat.le_of_ble_eq_true rfl, Nat.le_of_ble_eq_true rfl⟩ ⟨Nat.le_refl _, Nat.le_refl _⟩ dX7_reserve_2 (fun x533 H locs h532 HX534 => ?_)
  have hv_placeOf := h532
  refine lv_iconst (v := (-1 : Int32)) hx hb dX7_reserve_5 (by decide) ?_
  have kx_6 : x533 = (-1 : Int32) := h532
  refine lv_icmp_ne (tgt := 11) hx hb dX7_reserve_6 (by decide) (fun c_6 => ?_) (fun c_6 => ?_)
  · exact absurd (by rw [kx_6]; try decide) c_6
  · refine lv_iconst (v := (-1 : Int32)) hx hb dX7_reserve_9 (by decide) ?_
    exact RET _ _ _ _ _ _ _ HX534 dX7_reserve_10 (⟨rfl, rfl⟩)
set_option maxHeartbeats 4000000 in
set_option maxRecDepth 100000 in
theorem p1n_cancel (l : Launch) (G : fa_G) (n : Nat) (hn : 406 ≤ n) (v : fa_V) (r : fa_R) (hM : fa_RM r) (hF : fa_FM v) (a1 : Int32) (a2 : Int32) : fa_MI l G n yX7_cancel cX7_cancel 4 (some .int) 5 [.ref (fa_B G + (397)), .int (a1), .int (a2)] v r (fun x w => w = (v, r) ∧ (x = (-1 : Int32))) := by
  refine fa_startI (by decide +kernel) (Nat.le_of_ble_eq_true rfl) (fun p e s m args below meth c ls Q CX hl HX RET => ?_)
  have hl : lv_has ls 4 [(0, .ref (fa_B G + (397))), (1, .int (a1)), (2, .int (a2))] := hl
  have hx := CX.1.1
  have hb := CX.1.2.1
  refine lv_aload_n hx hb dX7_cancel_0 rfl (lv_at hl 0 rfl) ?_
  refine lv_iload_n hx hb dX7_cancel_1 rfl (lv_at hl 1 rfl) ?_
  refine lv_iload_n hx hb dX7_cancel_2 rfl (lv_at hl 2 rfl) ?_
  refine fa_callVip (As := [.int (a1), .int (a2)]) (rest := []) CX HX (p1m_find l G n hn v r hM (a1) (a2) (hF.1 15 (by decide) (by decide))) ln_X7_125 (by omega) rfl rfl rfl rfl (Nat.le_of_ble_eq_true rfl) hl.1 ⟨Nat.le_of_ble_eq_true rfl, Nat.le_of_ble_eq_true rfl⟩ ⟨Nat.le_refl _, Nat.le_refl _⟩ dX7_cancel_3 (fun x536 H locs h535 HX537 => ?_)
  have hv_find := h535
  refine lv_istore_n (lv' := [(3, .int (x536)), (0, .ref (fa_B G + (397))), (1, .int (a1)), (2, .int (a2))]) hx hb dX7_cancel_6 rfl hl (by decide) rfl (fun ls hl => ?_)
  refine lv_iload_n hx hb dX7_cancel_7 rfl (lv_at hl 0 rfl) ?_
  refine lv_iconst (v := (-1 : Int32)) hx hb dX7_cancel_8 (by decide) ?_
  have kx_9 : x536 = (-1 : Int32) := h535
  refine lv_icmp_ne (tgt := 14) hx hb dX7_cancel_9 (by decide) (fun c_9 => ?_) (fun c_9 => ?_)
  · exact absurd (by rw [kx_9]; try decide) c_9
  · refine lv_iconst (v := (-1 : Int32)) hx hb dX7_cancel_12 (by decide) ?_
    exact RET _ _ _ _ _ _ _ HX537 dX7_cancel_13 (⟨rfl, rfl⟩)
set_option maxHeartbeats 4000000 in
set_option maxRecDepth 100000 in
theorem p1n_pass (l : Launch) (G : fa_G) (n : Nat) (hn : 406 ≤ n) (v : fa_V) (r : fa_R) (hM : fa_RM r) (hF : fa_FM v) (a1 : Int32) : fa_MI l G n yX7_pass cX7_pass 2 (some .int) 6 [.ref (fa_B G + (397)), .int (a1)] v r (fa_voi r (fun x v1 => (x = if a1 < nI 1 ∨ ¬ a1 ≤ nI 400 then (-2 : Int32) else nI 0) ∧ (fa_fr (397) (406) v v1))) := by
  refine fa_startI (by decide +kernel) (Nat.le_of_ble_eq_true rfl) (fun p e s m args below meth c ls Q CX hl HX RET => ?_)
  have hl : lv_has ls 2 [(0, .ref (fa_B G + (397))), (1, .int (a1))] := hl
  have hx := CX.1.1
  have hb := CX.1.2.1
  refine lv_aload_n hx hb dX7_pass_0 rfl (lv_at hl 0 rfl) ?_
  refine fa_callVvu (As := []) (rest := []) CX HX (p1m_hold l G n hn v r hM  ) ln_X7_102 (by omega) rfl rfl rfl rfl (Nat.le_of_ble_eq_true rfl) hl.1 ⟨Nat.le_of_ble_eq_true rfl, Nat.le_of_ble_eq_true rfl⟩ ⟨Nat.le_refl _, Nat.le_refl _⟩ dX7_pass_1 (fun v539 H locs h538 HX540 => ?_)
  have h_hold := h538.1
  refine lv_aload_n hx hb dX7_pass_4 rfl (lv_at hl 0 rfl) ?_
  refine lv_aload_n hx hb dX7_pass_5 rfl (lv_at hl 0 rfl) ?_
  refine lv_iload_n hx hb dX7_pass_6 rfl (lv_at hl 1 rfl) ?_
  refine fa_callViu (As := [.int (a1)]) (rest := [.ref (fa_B G + (397))]) CX HX540 (p1m_passes l G n hn v539 r hM (a1) (by simp [(hF.1 14 (by decide) (by decide)), h538.2 398 (by omega)] <;> rfl) (by simp [(hF.1 15 (by decide) (by decide)), h538.2 398 (by omega)] <;> rfl) (by simp [(hF.1 7 (by decide) (by decide)), h538.2 398 (by omega)] <;> rfl)) ln_X7_128 (by omega) rfl rfl rfl rfl (Nat.le_of_ble_eq_true rfl) hl.1 ⟨Nat.le_of_ble_eq_true rfl, Nat.le_of_ble_eq_true rfl⟩ ⟨Nat.le_refl _, Nat.le_refl _⟩ dX7_pass_7 (fun x542 v543 H locs h541 HX544 => ?_)
  have h_passes := h541.1
  refine fa_callViu (As := [.int (x542)]) (rest := []) CX HX544 (p1m_recorded l G n hn v543 r hM (x542) (by simp [hF.2.2.2.2, h538.2 397 (by omega), h541.2 397 (by omega)] <;> rfl)) ln_X7_109 (by omega) rfl rfl rfl rfl (Nat.le_of_ble_eq_true rfl) hl.1 ⟨Nat.le_of_ble_eq_true rfl, Nat.le_of_ble_eq_true rfl⟩ ⟨Nat.le_refl _, Nat.le_refl _⟩ dX7_pass_10 (fun x546 v547 H locs h545 HX548 => ?_)
  have h_re := h545.1
  exact RET _ _ _ _ _ _ _ HX548 dX7_pass_13 (⟨rfl, ⟨(by rw [h_re]; exact h_passes), (fa_fr.tr (fa_fr.tr (fa_fr.tr fa_fr.rf (fa_fr.wide h538.2 (by omega) (by omega))) (fa_fr.wide h541.2 (by omega) (by omega))) (fa_fr.wide h545.2 (by omega) (by omega)))⟩⟩)
set_option maxHeartbeats 4000000 in
set_option maxRecDepth 100000 in
theorem p1n_set (l : Launch) (G : fa_G) (n : Nat) (hn : 406 ≤ n) (v : fa_V) (r : fa_R) (hM : fa_RM r) (hF : fa_FM v) (a1 : Int32) (a2 : Int32) : fa_MI l G n yX7_set cX7_set 4 (some .int) 5 [.ref (fa_B G + (397)), .int (a1), .int (a2)] v r (fa_voi r (fun x v1 => (x = if a1 < 0 ∨ ¬ a1 < nI 7 then (-1 : Int32) else if a2 < fa_stV 1 a1.toNatClampNeg ∨ ¬ a2 ≤ fa_stV 2 a1.toNatClampNeg then (-2 : Int32) else fa_stV 0 a1.toNatClampNeg) ∧ (fa_fr (397) (406) v v1))) := by
  refine fa_startI (by decide +kernel) (Nat.le_of_ble_eq_true rfl) (fun p e s m args below meth c ls Q CX hl HX RET => ?_)
  have hl : lv_has ls 4 [(0, .ref (fa_B G + (397))), (1, .int (a1)), (2, .int (a2))] := hl
  have hx := CX.1.1
  have hb := CX.1.2.1
  refine lv_iload_n hx hb dX7_set_0 rfl (lv_at hl 1 rfl) ?_
  refine lv_iconst (v := nI (0)) hx hb dX7_set_1 (by decide) ?_
  refine lv_bipush (v := nI (6)) hx hb dX7_set_2 (by decide) ?_
  refine fa_callSip (As := [.int (a1), .int (nI (0)), .int (nI (6))]) (rest := []) CX HX (c_X7_in l G n v r (a1) (nI (0)) (nI (6))) ln_X7_86 rfl rfl (Nat.le_of_ble_eq_true rfl) hl.1 ⟨Nat.le_of_ble_eq_true rfl, Nat.le_of_ble_eq_true rfl⟩ ⟨Nat.le_refl _, Nat.le_refl _⟩ dX7_set_4 (fun x550 H locs h549 HX551 => ?_)
  have h_in_4 := h549
  refine lv_if_ne (tgt := 12) hx hb dX7_set_7 (by decide) (fun c_7 => ?_) (fun c_7 => ?_)
  · obtain ⟨j, hj7, ej⟩ := fa_ix7 (by decide) (fa_set6 (fa_in1 h_in_4 c_7))
    rcases fa_seven hj7 with z | z | z | z | z | z | z
    · have ka : a1 = nI 0 := by rw [ej, z]
      have kt : a1.toNatClampNeg = 0 := by rw [ka]; exact nI_clamp (by decide)
      refine lv_iload_n hx hb dX7_set_12 rfl (lv_at hl 2 rfl) ?_
      refine lv_iload_n hx hb dX7_set_13 rfl (lv_at hl 1 rfl) ?_
      rw [show a1 = nI (0) from ka]
      refine lv_iconst (v := nI (5)) hx hb dX7_set_14 (by decide) ?_
      refine lv_icmp_ge (tgt := 23) hx hb dX7_set_15 (by decide) (fun c_15 => ?_) (fun c_15 => ?_)
      · exact absurd c_15 (by try decide)
      · refine lv_bipush (v := nI (30)) hx hb dX7_set_18 (by decide) ?_
        refine lv_goto (tgt := 34) hx hb dX7_set_20 (by decide) ?_
        refine lv_iload_n hx hb dX7_set_34 rfl (lv_at hl 1 rfl) ?_
        rw [show a1 = nI (0) from ka]
        refine lv_iconst (v := nI (5)) hx hb dX7_set_35 (by decide) ?_
        refine lv_icmp_ge (tgt := 45) hx hb dX7_set_36 (by decide) (fun c_36 => ?_) (fun c_36 => ?_)
        · exact absurd c_36 (by try decide)
        · refine lv_sipush (v := nI (2000)) hx hb dX7_set_39 (by decide) ?_
          refine lv_goto (tgt := 58) hx hb dX7_set_42 (by decide) ?_
          refine fa_callSip (As := [.int (a2), .int (nI (30)), .int (nI (2000))]) (rest := []) CX HX551 (c_X7_in l G n v r (a2) (nI (30)) (nI (2000))) ln_X7_86 rfl rfl (Nat.le_of_ble_eq_true rfl) hl.1 ⟨Nat.le_of_ble_eq_true rfl, Nat.le_of_ble_eq_true rfl⟩ ⟨Nat.le_refl _, Nat.le_refl _⟩ dX7_set_58 (fun x553 H locs h552 HX554 => ?_)
          have h_in_58 := h552
          refine lv_if_ne (tgt := 67) hx hb dX7_set_61 (by decide) (fun c_61 => ?_) (fun c_61 => ?_)
          · refine lv_aload_n hx hb dX7_set_67 rfl (lv_at hl 0 rfl) ?_
            refine fa_callVvu (As := []) (rest := []) CX HX554 (p1m_hold l G n hn v r hM  ) ln_X7_102 (by omega) rfl rfl rfl rfl (Nat.le_of_ble_eq_true rfl) hl.1 ⟨Nat.le_of_ble_eq_true rfl, Nat.le_of_ble_eq_true rfl⟩ ⟨Nat.le_refl _, Nat.le_refl _⟩ dX7_set_68 (fun v556 H locs h555 HX557 => ?_)
            have h_hold := h555.1
            refine lv_aload_n hx hb dX7_set_71 rfl (lv_at hl 0 rfl) ?_
            refine fa_getr (k := 397) (j := 398) CX HX557 fl_X7_7 (by omega) rfl rfl hM.1 dX7_set_72 ?_
            refine lv_iload_n hx hb dX7_set_75 rfl (lv_at hl 1 rfl) ?_
            rw [show a1 = nI (0) from ka]
            refine fa_iald (k := 398) (j := 0) CX HX557 (by omega) rfl (by omega) (by first | decide | assumption) dX7_set_76 ?_
            refine lv_istore_n (lv' := [(3, .int (v556 398 0)), (0, .ref (fa_B G + (397))), (1, .int (a1)), (2, .int (a2))]) hx hb dX7_set_77 rfl hl (by decide) rfl (fun ls hl => ?_)
            refine lv_aload_n hx hb dX7_set_78 rfl (lv_at hl 1 rfl) ?_
            refine fa_getr (k := 397) (j := 398) CX HX557 fl_X7_7 (by omega) rfl rfl hM.1 dX7_set_79 ?_
            refine lv_iload_n hx hb dX7_set_82 rfl (lv_at hl 2 rfl) ?_
            rw [show a1 = nI (0) from ka]
            refine lv_iload_n hx hb dX7_set_83 rfl (lv_at hl 3 rfl) ?_
            refine fa_iast (k := 398) (j := 0) CX HX557 (by omega) rfl (by omega) (by first | decide | assumption) dX7_set_84 (fun H locs v558 e559 HX560 => ?_)
            refine lv_aload_n hx hb dX7_set_85 rfl (lv_at hl 1 rfl) ?_
            refine lv_iload_n hx hb dX7_set_86 rfl (lv_at hl 0 rfl) ?_
            refine fa_callViu (As := [.int (v556 398 0)]) (rest := []) CX HX560 (p1m_recorded l G n hn v558 r hM (v556 398 0) (by simp [hF.2.2.2.2, h555.2 397 (by omega), e559, fa_u] <;> rfl)) ln_X7_109 (by omega) rfl rfl rfl rfl (Nat.le_of_ble_eq_true rfl) hl.1 ⟨Nat.le_of_ble_eq_true rfl, Nat.le_of_ble_eq_true rfl⟩ ⟨Nat.le_refl _, Nat.le_refl _⟩ dX7_set_87 (fun x562 v563 H locs h561 HX564 => ?_)
            have h_re := h561.1
            exact RET _ _ _ _ _ _ _ HX564 dX7_set_90 (⟨rfl, ⟨(by rw [if_neg (fa_set6 (fa_in1 h_in_4 c_7)), kt, if_neg (fun y => fa_in1 h_in_58 c_61 (y.elim Or.inl (fun y => Or.inr (Int32.not_le.mp y)))), h_re]; exact (by simp [(show v 398 0 = (90 : Int32) from hF.2.1 0 (by decide)), h555.2 398 (by omega)] <;> rfl)), (fa_fr.tr (by rw [e559]; exact fa_fr.u (fa_fr.tr fa_fr.rf (fa_fr.wide h555.2 (by omega) (by omega))) (by omega)) (fa_fr.wide h561.2 (by omega) (by omega)))⟩⟩)
          · refine lv_bipush (v := (-2 : Int32)) hx hb dX7_set_64 (by decide) ?_
            exact RET _ _ _ _ _ _ _ HX554 dX7_set_66 (⟨rfl, ⟨(by rw [if_neg (fa_set6 (fa_in1 h_in_4 c_7)), kt, if_pos (by have z := fa_in0 h_in_58 c_61; rcases z with z | z; exact Or.inl z; exact Or.inr (Int32.not_le.mpr z))]), fa_fr.rf⟩⟩)
    · have ka : a1 = nI 1 := by rw [ej, z]
      have kt : a1.toNatClampNeg = 1 := by rw [ka]; exact nI_clamp (by decide)
      refine lv_iload_n hx hb dX7_set_12 rfl (lv_at hl 2 rfl) ?_
      refine lv_iload_n hx hb dX7_set_13 rfl (lv_at hl 1 rfl) ?_
      rw [show a1 = nI (1) from ka]
      refine lv_iconst (v := nI (5)) hx hb dX7_set_14 (by decide) ?_
      refine lv_icmp_ge (tgt := 23) hx hb dX7_set_15 (by decide) (fun c_15 => ?_) (fun c_15 => ?_)
      · exact absurd c_15 (by try decide)
      · refine lv_bipush (v := nI (30)) hx hb dX7_set_18 (by decide) ?_
        refine lv_goto (tgt := 34) hx hb dX7_set_20 (by decide) ?_
        refine lv_iload_n hx hb dX7_set_34 rfl (lv_at hl 1 rfl) ?_
        rw [show a1 = nI (1) from ka]
        refine lv_iconst (v := nI (5)) hx hb dX7_set_35 (by decide) ?_
        refine lv_icmp_ge (tgt := 45) hx hb dX7_set_36 (by decide) (fun c_36 => ?_) (fun c_36 => ?_)
        · exact absurd c_36 (by try decide)
        · refine lv_sipush (v := nI (2000)) hx hb dX7_set_39 (by decide) ?_
          refine lv_goto (tgt := 58) hx hb dX7_set_42 (by decide) ?_
          refine fa_callSip (As := [.int (a2), .int (nI (30)), .int (nI (2000))]) (rest := []) CX HX551 (c_X7_in l G n v r (a2) (nI (30)) (nI (2000))) ln_X7_86 rfl rfl (Nat.le_of_ble_eq_true rfl) hl.1 ⟨Nat.le_of_ble_eq_true rfl, Nat.le_of_ble_eq_true rfl⟩ ⟨Nat.le_refl _, Nat.le_refl _⟩ dX7_set_58 (fun x566 H locs h565 HX567 => ?_)
          have h_in_58 := h565
          refine lv_if_ne (tgt := 67) hx hb dX7_set_61 (by decide) (fun c_61 => ?_) (fun c_61 => ?_)
          · refine lv_aload_n hx hb dX7_set_67 rfl (lv_at hl 0 rfl) ?_
            refine fa_callVvu (As := []) (rest := []) CX HX567 (p1m_hold l G n hn v r hM  ) ln_X7_102 (by omega) rfl rfl rfl rfl (Nat.le_of_ble_eq_true rfl) hl.1 ⟨Nat.le_of_ble_eq_true rfl, Nat.le_of_ble_eq_true rfl⟩ ⟨Nat.le_refl _, Nat.le_refl _⟩ dX7_set_68 (fun v569 H locs h568 HX570 => ?_)
            have h_hold := h568.1
            refine lv_aload_n hx hb dX7_set_71 rfl (lv_at hl 0 rfl) ?_
            refine fa_getr (k := 397) (j := 398) CX HX570 fl_X7_7 (by omega) rfl rfl hM.1 dX7_set_72 ?_
            refine lv_iload_n hx hb dX7_set_75 rfl (lv_at hl 1 rfl) ?_
            rw [show a1 = nI (1) from ka]
            refine fa_iald (k := 398) (j := 1) CX HX570 (by omega) rfl (by omega) (by first | decide | assumption) dX7_set_76 ?_
            refine lv_istore_n (lv' := [(3, .int (v569 398 1)), (0, .ref (fa_B G + (397))), (1, .int (a1)), (2, .int (a2))]) hx hb dX7_set_77 rfl hl (by decide) rfl (fun ls hl => ?_)
            refine lv_aload_n hx hb dX7_set_78 rfl (lv_at hl 1 rfl) ?_
            refine fa_getr (k := 397) (j := 398) CX HX570 fl_X7_7 (by omega) rfl rfl hM.1 dX7_set_79 ?_
            refine lv_iload_n hx hb dX7_set_82 rfl (lv_at hl 2 rfl) ?_
            rw [show a1 = nI (1) from ka]
            refine lv_iload_n hx hb dX7_set_83 rfl (lv_at hl 3 rfl) ?_
            refine fa_iast (k := 398) (j := 1) CX HX570 (by omega) rfl (by omega) (by first | decide | assumption) dX7_set_84 (fun H locs v571 e572 HX573 => ?_)
            refine lv_aload_n hx hb dX7_set_85 rfl (lv_at hl 1 rfl) ?_
            refine lv_iload_n hx hb dX7_set_86 rfl (lv_at hl 0 rfl) ?_
            refine fa_callViu (As := [.int (v569 398 1)]) (rest := []) CX HX573 (p1m_recorded l G n hn v571 r hM (v569 398 1) (by simp [hF.2.2.2.2, h568.2 397 (by omega), e572, fa_u] <;> rfl)) ln_X7_109 (by omega) rfl rfl rfl rfl (Nat.le_of_ble_eq_true rfl) hl.1 ⟨Nat.le_of_ble_eq_true rfl, Nat.le_of_ble_eq_true rfl⟩ ⟨Nat.le_refl _, Nat.le_refl _⟩ dX7_set_87 (fun x575 v576 H locs h574 HX577 => ?_)
            have h_re := h574.1
            exact RET _ _ _ _ _ _ _ HX577 dX7_set_90 (⟨rfl, ⟨(by rw [if_neg (fa_set6 (fa_in1 h_in_4 c_7)), kt, if_neg (fun y => fa_in1 h_in_58 c_61 (y.elim Or.inl (fun y => Or.inr (Int32.not_le.mp y)))), h_re]; exact (by simp [(show v 398 1 = (180 : Int32) from hF.2.1 1 (by decide)), h568.2 398 (by omega)] <;> rfl)), (fa_fr.tr (by rw [e572]; exact fa_fr.u (fa_fr.tr fa_fr.rf (fa_fr.wide h568.2 (by omega) (by omega))) (by omega)) (fa_fr.wide h574.2 (by omega) (by omega)))⟩⟩)
          · refine lv_bipush (v := (-2 : Int32)) hx hb dX7_set_64 (by decide) ?_
            exact RET _ _ _ _ _ _ _ HX567 dX7_set_66 (⟨rfl, ⟨(by rw [if_neg (fa_set6 (fa_in1 h_in_4 c_7)), kt, if_pos (by have z := fa_in0 h_in_58 c_61; rcases z with z | z; exact Or.inl z; exact Or.inr (Int32.not_le.mpr z))]), fa_fr.rf⟩⟩)
    · have ka : a1 = nI 2 := by rw [ej, z]
      have kt : a1.toNatClampNeg = 2 := by rw [ka]; exact nI_clamp (by decide)
      refine lv_iload_n hx hb dX7_set_12 rfl (lv_at hl 2 rfl) ?_
      refine lv_iload_n hx hb dX7_set_13 rfl (lv_at hl 1 rfl) ?_
      rw [show a1 = nI (2) from ka]
      refine lv_iconst (v := nI (5)) hx hb dX7_set_14 (by decide) ?_
      refine lv_icmp_ge (tgt := 23) hx hb dX7_set_15 (by decide) (fun c_15 => ?_) (fun c_15 => ?_)
      · exact absurd c_15 (by try decide)
      · refine lv_bipush (v := nI (30)) hx hb dX7_set_18 (by decide) ?_
        refine lv_goto (tgt := 34) hx hb dX7_set_20 (by decide) ?_
        refine lv_iload_n hx hb dX7_set_34 rfl (lv_at hl 1 rfl) ?_
        rw [show a1 = nI (2) from ka]
        refine lv_iconst (v := nI (5)) hx hb dX7_set_35 (by decide) ?_
        refine lv_icmp_ge (tgt := 45) hx hb dX7_set_36 (by decide) (fun c_36 => ?_) (fun c_36 => ?_)
        · exact absurd c_36 (by try decide)
        · refine lv_sipush (v := nI (2000)) hx hb dX7_set_39 (by decide) ?_
          refine lv_goto (tgt := 58) hx hb dX7_set_42 (by decide) ?_
          refine fa_callSip (As := [.int (a2), .int (nI (30)), .int (nI (2000))]) (rest := []) CX HX551 (c_X7_in l G n v r (a2) (nI (30)) (nI (2000))) ln_X7_86 rfl rfl (Nat.le_of_ble_eq_true rfl) hl.1 ⟨Nat.le_of_ble_eq_true rfl, Nat.le_of_ble_eq_true rfl⟩ ⟨Nat.le_refl _, Nat.le_refl _⟩ dX7_set_58 (fun x579 H locs h578 HX580 => ?_)
          have h_in_58 := h578
          refine lv_if_ne (tgt := 67) hx hb dX7_set_61 (by decide) (fun c_61 => ?_) (fun c_61 => ?_)
          · refine lv_aload_n hx hb dX7_set_67 rfl (lv_at hl 0 rfl) ?_
            refine fa_callVvu (As := []) (rest := []) CX HX580 (p1m_hold l G n hn v r hM  ) ln_X7_102 (by omega) rfl rfl rfl rfl (Nat.le_of_ble_eq_true rfl) hl.1 ⟨Nat.le_of_ble_eq_true rfl, Nat.le_of_ble_eq_true rfl⟩ ⟨Nat.le_refl _, Nat.le_refl _⟩ dX7_set_68 (fun v582 H locs h581 HX583 => ?_)
            have h_hold := h581.1
            refine lv_aload_n hx hb dX7_set_71 rfl (lv_at hl 0 rfl) ?_
            refine fa_getr (k := 397) (j := 398) CX HX583 fl_X7_7 (by omega) rfl rfl hM.1 dX7_set_72 ?_
            refine lv_iload_n hx hb dX7_set_75 rfl (lv_at hl 1 rfl) ?_
            rw [show a1 = nI (2) from ka]
            refine fa_iald (k := 398) (j := 2) CX HX583 (by omega) rfl (by omega) (by first | decide | assumption) dX7_set_76 ?_
            refine lv_istore_n (lv' := [(3, .int (v582 398 2)), (0, .ref (fa_B G + (397))), (1, .int (a1)), (2, .int (a2))]) hx hb dX7_set_77 rfl hl (by decide) rfl (fun ls hl => ?_)
            refine lv_aload_n hx hb dX7_set_78 rfl (lv_at hl 1 rfl) ?_
            refine fa_getr (k := 397) (j := 398) CX HX583 fl_X7_7 (by omega) rfl rfl hM.1 dX7_set_79 ?_
            refine lv_iload_n hx hb dX7_set_82 rfl (lv_at hl 2 rfl) ?_
            rw [show a1 = nI (2) from ka]
            refine lv_iload_n hx hb dX7_set_83 rfl (lv_at hl 3 rfl) ?_
            refine fa_iast (k := 398) (j := 2) CX HX583 (by omega) rfl (by omega) (by first | decide | assumption) dX7_set_84 (fun H locs v584 e585 HX586 => ?_)
            refine lv_aload_n hx hb dX7_set_85 rfl (lv_at hl 1 rfl) ?_
            refine lv_iload_n hx hb dX7_set_86 rfl (lv_at hl 0 rfl) ?_
            refine fa_callViu (As := [.int (v582 398 2)]) (rest := []) CX HX586 (p1m_recorded l G n hn v584 r hM (v582 398 2) (by simp [hF.2.2.2.2, h581.2 397 (by omega), e585, fa_u] <;> rfl)) ln_X7_109 (by omega) rfl rfl rfl rfl (Nat.le_of_ble_eq_true rfl) hl.1 ⟨Nat.le_of_ble_eq_true rfl, Nat.le_of_ble_eq_true rfl⟩ ⟨Nat.le_refl _, Nat.le_refl _⟩ dX7_set_87 (fun x588 v589 H locs h587 HX590 => ?_)
            have h_re := h587.1
            exact RET _ _ _ _ _ _ _ HX590 dX7_set_90 (⟨rfl, ⟨(by rw [if_neg (fa_set6 (fa_in1 h_in_4 c_7)), kt, if_neg (fun y => fa_in1 h_in_58 c_61 (y.elim Or.inl (fun y => Or.inr (Int32.not_le.mp y)))), h_re]; exact (by simp [(show v 398 2 = (360 : Int32) from hF.2.1 2 (by decide)), h581.2 398 (by omega)] <;> rfl)), (fa_fr.tr (by rw [e585]; exact fa_fr.u (fa_fr.tr fa_fr.rf (fa_fr.wide h581.2 (by omega) (by omega))) (by omega)) (fa_fr.wide h587.2 (by omega) (by omega)))⟩⟩)
          · refine lv_bipush (v := (-2 : Int32)) hx hb dX7_set_64 (by decide) ?_
            exact RET _ _ _ _ _ _ _ HX580 dX7_set_66 (⟨rfl, ⟨(by rw [if_neg (fa_set6 (fa_in1 h_in_4 c_7)), kt, if_pos (by have z := fa_in0 h_in_58 c_61; rcases z with z | z; exact Or.inl z; exact Or.inr (Int32.not_le.mpr z))]), fa_fr.rf⟩⟩)
    · have ka : a1 = nI 3 := by rw [ej, z]
      have kt : a1.toNatClampNeg = 3 := by rw [ka]; exact nI_clamp (by decide)
      refine lv_iload_n hx hb dX7_set_12 rfl (lv_at hl 2 rfl) ?_
      refine lv_iload_n hx hb dX7_set_13 rfl (lv_at hl 1 rfl) ?_
      rw [show a1 = nI (3) from ka]
      refine lv_iconst (v := nI (5)) hx hb dX7_set_14 (by decide) ?_
      refine lv_icmp_ge (tgt := 23) hx hb dX7_set_15 (by decide) (fun c_15 => ?_) (fun c_15 => ?_)
      · exact absurd c_15 (by try decide)
      · refine lv_bipush (v := nI (30)) hx hb dX7_set_18 (by decide) ?_
        refine lv_goto (tgt := 34) hx hb dX7_set_20 (by decide) ?_
        refine lv_iload_n hx hb dX7_set_34 rfl (lv_at hl 1 rfl) ?_
        rw [show a1 = nI (3) from ka]
        refine lv_iconst (v := nI (5)) hx hb dX7_set_35 (by decide) ?_
        refine lv_icmp_ge (tgt := 45) hx hb dX7_set_36 (by decide) (fun c_36 => ?_) (fun c_36 => ?_)
        · exact absurd c_36 (by try decide)
        · refine lv_sipush (v := nI (2000)) hx hb dX7_set_39 (by decide) ?_
          refine lv_goto (tgt := 58) hx hb dX7_set_42 (by decide) ?_
          refine fa_callSip (As := [.int (a2), .int (nI (30)), .int (nI (2000))]) (rest := []) CX HX551 (c_X7_in l G n v r (a2) (nI (30)) (nI (2000))) ln_X7_86 rfl rfl (Nat.le_of_ble_eq_true rfl) hl.1 ⟨Nat.le_of_ble_eq_true rfl, Nat.le_of_ble_eq_true rfl⟩ ⟨Nat.le_refl _, Nat.le_refl _⟩ dX7_set_58 (fun x592 H locs h591 HX593 => ?_)
          have h_in_58 := h591
          refine lv_if_ne (tgt := 67) hx hb dX7_set_61 (by decide) (fun c_61 => ?_) (fun c_61 => ?_)
          · refine lv_aload_n hx hb dX7_set_67 rfl (lv_at hl 0 rfl) ?_
            refine fa_callVvu (As := []) (rest := []) CX HX593 (p1m_hold l G n hn v r hM  ) ln_X7_102 (by omega) rfl rfl rfl rfl (Nat.le_of_ble_eq_true rfl) hl.1 ⟨Nat.le_of_ble_eq_true rfl, Nat.le_of_ble_eq_true rfl⟩ ⟨Nat.le_refl _, Nat.le_refl _⟩ dX7_set_68 (fun v595 H locs h594 HX596 => ?_)
            have h_hold := h594.1
            refine lv_aload_n hx hb dX7_set_71 rfl (lv_at hl 0 rfl) ?_
            refine fa_getr (k := 397) (j := 398) CX HX596 fl_X7_7 (by omega) rfl rfl hM.1 dX7_set_72 ?_
            refine lv_iload_n hx hb dX7_set_75 rfl (lv_at hl 1 rfl) ?_
            rw [show a1 = nI (3) from ka]
            refine fa_iald (k := 398) (j := 3) CX HX596 (by omega) rfl (by omega) (by first | decide | assumption) dX7_set_76 ?_
            refine lv_istore_n (lv' := [(3, .int (v595 398 3)), (0, .ref (fa_B G + (397))), (1, .int (a1)), (2, .int (a2))]) hx hb dX7_set_77 rfl hl (by decide) rfl (fun ls hl => ?_)
            refine lv_aload_n hx hb dX7_set_78 rfl (lv_at hl 1 rfl) ?_
            refine fa_getr (k := 397) (j := 398) CX HX596 fl_X7_7 (by omega) rfl rfl hM.1 dX7_set_79 ?_
            refine lv_iload_n hx hb dX7_set_82 rfl (lv_at hl 2 rfl) ?_
            rw [show a1 = nI (3) from ka]
            refine lv_iload_n hx hb dX7_set_83 rfl (lv_at hl 3 rfl) ?_
            refine fa_iast (k := 398) (j := 3) CX HX596 (by omega) rfl (by omega) (by first | decide | assumption) dX7_set_84 (fun H locs v597 e598 HX599 => ?_)
            refine lv_aload_n hx hb dX7_set_85 rfl (lv_at hl 1 rfl) ?_
            refine lv_iload_n hx hb dX7_set_86 rfl (lv_at hl 0 rfl) ?_
            refine fa_callViu (As := [.int (v595 398 3)]) (rest := []) CX HX599 (p1m_recorded l G n hn v597 r hM (v595 398 3) (by simp [hF.2.2.2.2, h594.2 397 (by omega), e598, fa_u] <;> rfl)) ln_X7_109 (by omega) rfl rfl rfl rfl (Nat.le_of_ble_eq_true rfl) hl.1 ⟨Nat.le_of_ble_eq_true rfl, Nat.le_of_ble_eq_true rfl⟩ ⟨Nat.le_refl _, Nat.le_refl _⟩ dX7_set_87 (fun x601 v602 H locs h600 HX603 => ?_)
            have h_re := h600.1
            exact RET _ _ _ _ _ _ _ HX603 dX7_set_90 (⟨rfl, ⟨(by rw [if_neg (fa_set6 (fa_in1 h_in_4 c_7)), kt, if_neg (fun y => fa_in1 h_in_58 c_61 (y.elim Or.inl (fun y => Or.inr (Int32.not_le.mp y)))), h_re]; exact (by simp [(show v 398 3 = (720 : Int32) from hF.2.1 3 (by decide)), h594.2 398 (by omega)] <;> rfl)), (fa_fr.tr (by rw [e598]; exact fa_fr.u (fa_fr.tr fa_fr.rf (fa_fr.wide h594.2 (by omega) (by omega))) (by omega)) (fa_fr.wide h600.2 (by omega) (by omega)))⟩⟩)
          · refine lv_bipush (v := (-2 : Int32)) hx hb dX7_set_64 (by decide) ?_
            exact RET _ _ _ _ _ _ _ HX593 dX7_set_66 (⟨rfl, ⟨(by rw [if_neg (fa_set6 (fa_in1 h_in_4 c_7)), kt, if_pos (by have z := fa_in0 h_in_58 c_61; rcases z with z | z; exact Or.inl z; exact Or.inr (Int32.not_le.mpr z))]), fa_fr.rf⟩⟩)
    · have ka : a1 = nI 4 := by rw [ej, z]
      have kt : a1.toNatClampNeg = 4 := by rw [ka]; exact nI_clamp (by decide)
      refine lv_iload_n hx hb dX7_set_12 rfl (lv_at hl 2 rfl) ?_
      refine lv_iload_n hx hb dX7_set_13 rfl (lv_at hl 1 rfl) ?_
      rw [show a1 = nI (4) from ka]
      refine lv_iconst (v := nI (5)) hx hb dX7_set_14 (by decide) ?_
      refine lv_icmp_ge (tgt := 23) hx hb dX7_set_15 (by decide) (fun c_15 => ?_) (fun c_15 => ?_)
      · exact absurd c_15 (by try decide)
      · refine lv_bipush (v := nI (30)) hx hb dX7_set_18 (by decide) ?_
        refine lv_goto (tgt := 34) hx hb dX7_set_20 (by decide) ?_
        refine lv_iload_n hx hb dX7_set_34 rfl (lv_at hl 1 rfl) ?_
        rw [show a1 = nI (4) from ka]
        refine lv_iconst (v := nI (5)) hx hb dX7_set_35 (by decide) ?_
        refine lv_icmp_ge (tgt := 45) hx hb dX7_set_36 (by decide) (fun c_36 => ?_) (fun c_36 => ?_)
        · exact absurd c_36 (by try decide)
        · refine lv_sipush (v := nI (2000)) hx hb dX7_set_39 (by decide) ?_
          refine lv_goto (tgt := 58) hx hb dX7_set_42 (by decide) ?_
          refine fa_callSip (As := [.int (a2), .int (nI (30)), .int (nI (2000))]) (rest := []) CX HX551 (c_X7_in l G n v r (a2) (nI (30)) (nI (2000))) ln_X7_86 rfl rfl (Nat.le_of_ble_eq_true rfl) hl.1 ⟨Nat.le_of_ble_eq_true rfl, Nat.le_of_ble_eq_true rfl⟩ ⟨Nat.le_refl _, Nat.le_refl _⟩ dX7_set_58 (fun x605 H locs h604 HX606 => ?_)
          have h_in_58 := h604
          refine lv_if_ne (tgt := 67) hx hb dX7_set_61 (by decide) (fun c_61 => ?_) (fun c_61 => ?_)
          · refine lv_aload_n hx hb dX7_set_67 rfl (lv_at hl 0 rfl) ?_
            refine fa_callVvu (As := []) (rest := []) CX HX606 (p1m_hold l G n hn v r hM  ) ln_X7_102 (by omega) rfl rfl rfl rfl (Nat.le_of_ble_eq_true rfl) hl.1 ⟨Nat.le_of_ble_eq_true rfl, Nat.le_of_ble_eq_true rfl⟩ ⟨Nat.le_refl _, Nat.le_refl _⟩ dX7_set_68 (fun v608 H locs h607 HX609 => ?_)
            have h_hold := h607.1
            refine lv_aload_n hx hb dX7_set_71 rfl (lv_at hl 0 rfl) ?_
            refine fa_getr (k := 397) (j := 398) CX HX609 fl_X7_7 (by omega) rfl rfl hM.1 dX7_set_72 ?_
            refine lv_iload_n hx hb dX7_set_75 rfl (lv_at hl 1 rfl) ?_
            rw [show a1 = nI (4) from ka]
            refine fa_iald (k := 398) (j := 4) CX HX609 (by omega) rfl (by omega) (by first | decide | assumption) dX7_set_76 ?_
            refine lv_istore_n (lv' := [(3, .int (v608 398 4)), (0, .ref (fa_B G + (397))), (1, .int (a1)), (2, .int (a2))]) hx hb dX7_set_77 rfl hl (by decide) rfl (fun ls hl => ?_)
            refine lv_aload_n hx hb dX7_set_78 rfl (lv_at hl 1 rfl) ?_
            refine fa_getr (k := 397) (j := 398) CX HX609 fl_X7_7 (by omega) rfl rfl hM.1 dX7_set_79 ?_
            refine lv_iload_n hx hb dX7_set_82 rfl (lv_at hl 2 rfl) ?_
            rw [show a1 = nI (4) from ka]
            refine lv_iload_n hx hb dX7_set_83 rfl (lv_at hl 3 rfl) ?_
            refine fa_iast (k := 398) (j := 4) CX HX609 (by omega) rfl (by omega) (by first | decide | assumption) dX7_set_84 (fun H locs v610 e611 HX612 => ?_)
            refine lv_aload_n hx hb dX7_set_85 rfl (lv_at hl 1 rfl) ?_
            refine lv_iload_n hx hb dX7_set_86 rfl (lv_at hl 0 rfl) ?_
            refine fa_callViu (As := [.int (v608 398 4)]) (rest := []) CX HX612 (p1m_recorded l G n hn v610 r hM (v608 398 4) (by simp [hF.2.2.2.2, h607.2 397 (by omega), e611, fa_u] <;> rfl)) ln_X7_109 (by omega) rfl rfl rfl rfl (Nat.le_of_ble_eq_true rfl) hl.1 ⟨Nat.le_of_ble_eq_true rfl, Nat.le_of_ble_eq_true rfl⟩ ⟨Nat.le_refl _, Nat.le_refl _⟩ dX7_set_87 (fun x614 v615 H locs h613 HX616 => ?_)
            have h_re := h613.1
            exact RET _ _ _ _ _ _ _ HX616 dX7_set_90 (⟨rfl, ⟨(by rw [if_neg (fa_set6 (fa_in1 h_in_4 c_7)), kt, if_neg (fun y => fa_in1 h_in_58 c_61 (y.elim Or.inl (fun y => Or.inr (Int32.not_le.mp y)))), h_re]; exact (by simp [(show v 398 4 = (1440 : Int32) from hF.2.1 4 (by decide)), h607.2 398 (by omega)] <;> rfl)), (fa_fr.tr (by rw [e611]; exact fa_fr.u (fa_fr.tr fa_fr.rf (fa_fr.wide h607.2 (by omega) (by omega))) (by omega)) (fa_fr.wide h613.2 (by omega) (by omega)))⟩⟩)
          · refine lv_bipush (v := (-2 : Int32)) hx hb dX7_set_64 (by decide) ?_
            exact RET _ _ _ _ _ _ _ HX606 dX7_set_66 (⟨rfl, ⟨(by rw [if_neg (fa_set6 (fa_in1 h_in_4 c_7)), kt, if_pos (by have z := fa_in0 h_in_58 c_61; rcases z with z | z; exact Or.inl z; exact Or.inr (Int32.not_le.mpr z))]), fa_fr.rf⟩⟩)
    · have ka : a1 = nI 5 := by rw [ej, z]
      have kt : a1.toNatClampNeg = 5 := by rw [ka]; exact nI_clamp (by decide)
      refine lv_iload_n hx hb dX7_set_12 rfl (lv_at hl 2 rfl) ?_
      refine lv_iload_n hx hb dX7_set_13 rfl (lv_at hl 1 rfl) ?_
      rw [show a1 = nI (5) from ka]
      refine lv_iconst (v := nI (5)) hx hb dX7_set_14 (by decide) ?_
      refine lv_icmp_ge (tgt := 23) hx hb dX7_set_15 (by decide) (fun c_15 => ?_) (fun c_15 => ?_)
      · refine lv_iload_n hx hb dX7_set_23 rfl (lv_at hl 1 rfl) ?_
        rw [show a1 = nI (5) from ka]
        refine lv_iconst (v := nI (5)) hx hb dX7_set_24 (by decide) ?_
        refine lv_icmp_ne (tgt := 32) hx hb dX7_set_25 (by decide) (fun c_25 => ?_) (fun c_25 => ?_)
        · exact absurd (by try decide) c_25
        · refine lv_iconst (v := nI (1)) hx hb dX7_set_28 (by decide) ?_
          refine lv_goto (tgt := 34) hx hb dX7_set_29 (by decide) ?_
          refine lv_iload_n hx hb dX7_set_34 rfl (lv_at hl 1 rfl) ?_
          rw [show a1 = nI (5) from ka]
          refine lv_iconst (v := nI (5)) hx hb dX7_set_35 (by decide) ?_
          refine lv_icmp_ge (tgt := 45) hx hb dX7_set_36 (by decide) (fun c_36 => ?_) (fun c_36 => ?_)
          · refine lv_iload_n hx hb dX7_set_45 rfl (lv_at hl 1 rfl) ?_
            rw [show a1 = nI (5) from ka]
            refine lv_iconst (v := nI (5)) hx hb dX7_set_46 (by decide) ?_
            refine lv_icmp_ne (tgt := 55) hx hb dX7_set_47 (by decide) (fun c_47 => ?_) (fun c_47 => ?_)
            · exact absurd (by try decide) c_47
            · refine lv_bipush (v := nI (20)) hx hb dX7_set_50 (by decide) ?_
              refine lv_goto (tgt := 58) hx hb dX7_set_52 (by decide) ?_
              refine fa_callSip (As := [.int (a2), .int (nI (1)), .int (nI (20))]) (rest := []) CX HX551 (c_X7_in l G n v r (a2) (nI (1)) (nI (20))) ln_X7_86 rfl rfl (Nat.le_of_ble_eq_true rfl) hl.1 ⟨Nat.le_of_ble_eq_true rfl, Nat.le_of_ble_eq_true rfl⟩ ⟨Nat.le_refl _, Nat.le_refl _⟩ dX7_set_58 (fun x618 H locs h617 HX619 => ?_)
              have h_in_58 := h617
              refine lv_if_ne (tgt := 67) hx hb dX7_set_61 (by decide) (fun c_61 => ?_) (fun c_61 => ?_)
              · refine lv_aload_n hx hb dX7_set_67 rfl (lv_at hl 0 rfl) ?_
                refine fa_callVvu (As := []) (rest := []) CX HX619 (p1m_hold l G n hn v r hM  ) ln_X7_102 (by omega) rfl rfl rfl rfl (Nat.le_of_ble_eq_true rfl) hl.1 ⟨Nat.le_of_ble_eq_true rfl, Nat.le_of_ble_eq_true rfl⟩ ⟨Nat.le_refl _, Nat.le_refl _⟩ dX7_set_68 (fun v621 H locs h620 HX622 => ?_)
                have h_hold := h620.1
                refine lv_aload_n hx hb dX7_set_71 rfl (lv_at hl 0 rfl) ?_
                refine fa_getr (k := 397) (j := 398) CX HX622 fl_X7_7 (by omega) rfl rfl hM.1 dX7_set_72 ?_
                refine lv_iload_n hx hb dX7_set_75 rfl (lv_at hl 1 rfl) ?_
                rw [show a1 = nI (5) from ka]
                refine fa_iald (k := 398) (j := 5) CX HX622 (by omega) rfl (by omega) (by first | decide | assumption) dX7_set_76 ?_
                refine lv_istore_n (lv' := [(3, .int (v621 398 5)), (0, .ref (fa_B G + (397))), (1, .int (a1)), (2, .int (a2))]) hx hb dX7_set_77 rfl hl (by decide) rfl (fun ls hl => ?_)
                refine lv_aload_n hx hb dX7_set_78 rfl (lv_at hl 1 rfl) ?_
                refine fa_getr (k := 397) (j := 398) CX HX622 fl_X7_7 (by omega) rfl rfl hM.1 dX7_set_79 ?_
                refine lv_iload_n hx hb dX7_set_82 rfl (lv_at hl 2 rfl) ?_
                rw [show a1 = nI (5) from ka]
                refine lv_iload_n hx hb dX7_set_83 rfl (lv_at hl 3 rfl) ?_
                refine fa_iast (k := 398) (j := 5) CX HX622 (by omega) rfl (by omega) (by first | decide | assumption) dX7_set_84 (fun H locs v623 e624 HX625 => ?_)
                refine lv_aload_n hx hb dX7_set_85 rfl (lv_at hl 1 rfl) ?_
                refine lv_iload_n hx hb dX7_set_86 rfl (lv_at hl 0 rfl) ?_
                refine fa_callViu (As := [.int (v621 398 5)]) (rest := []) CX HX625 (p1m_recorded l G n hn v623 r hM (v621 398 5) (by simp [hF.2.2.2.2, h620.2 397 (by omega), e624, fa_u] <;> rfl)) ln_X7_109 (by omega) rfl rfl rfl rfl (Nat.le_of_ble_eq_true rfl) hl.1 ⟨Nat.le_of_ble_eq_true rfl, Nat.le_of_ble_eq_true rfl⟩ ⟨Nat.le_refl _, Nat.le_refl _⟩ dX7_set_87 (fun x627 v628 H locs h626 HX629 => ?_)
                have h_re := h626.1
                exact RET _ _ _ _ _ _ _ HX629 dX7_set_90 (⟨rfl, ⟨(by rw [if_neg (fa_set6 (fa_in1 h_in_4 c_7)), kt, if_neg (fun y => fa_in1 h_in_58 c_61 (y.elim Or.inl (fun y => Or.inr (Int32.not_le.mp y)))), h_re]; exact (by simp [(show v 398 5 = (3 : Int32) from hF.2.1 5 (by decide)), h620.2 398 (by omega)] <;> rfl)), (fa_fr.tr (by rw [e624]; exact fa_fr.u (fa_fr.tr fa_fr.rf (fa_fr.wide h620.2 (by omega) (by omega))) (by omega)) (fa_fr.wide h626.2 (by omega) (by omega)))⟩⟩)
              · refine lv_bipush (v := (-2 : Int32)) hx hb dX7_set_64 (by decide) ?_
                exact RET _ _ _ _ _ _ _ HX619 dX7_set_66 (⟨rfl, ⟨(by rw [if_neg (fa_set6 (fa_in1 h_in_4 c_7)), kt, if_pos (by have z := fa_in0 h_in_58 c_61; rcases z with z | z; exact Or.inl z; exact Or.inr (Int32.not_le.mpr z))]), fa_fr.rf⟩⟩)
          · exact absurd (by try decide) c_36
      · exact absurd (by try decide) c_15
    · have ka : a1 = nI 6 := by rw [ej, z]
      have kt : a1.toNatClampNeg = 6 := by rw [ka]; exact nI_clamp (by decide)
      refine lv_iload_n hx hb dX7_set_12 rfl (lv_at hl 2 rfl) ?_
      refine lv_iload_n hx hb dX7_set_13 rfl (lv_at hl 1 rfl) ?_
      rw [show a1 = nI (6) from ka]
      refine lv_iconst (v := nI (5)) hx hb dX7_set_14 (by decide) ?_
      refine lv_icmp_ge (tgt := 23) hx hb dX7_set_15 (by decide) (fun c_15 => ?_) (fun c_15 => ?_)
      · refine lv_iload_n hx hb dX7_set_23 rfl (lv_at hl 1 rfl) ?_
        rw [show a1 = nI (6) from ka]
        refine lv_iconst (v := nI (5)) hx hb dX7_set_24 (by decide) ?_
        refine lv_icmp_ne (tgt := 32) hx hb dX7_set_25 (by decide) (fun c_25 => ?_) (fun c_25 => ?_)
        · refine lv_bipush (v := nI (50)) hx hb dX7_set_32 (by decide) ?_
          refine lv_iload_n hx hb dX7_set_34 rfl (lv_at hl 1 rfl) ?_
          rw [show a1 = nI (6) from ka]
          refine lv_iconst (v := nI (5)) hx hb dX7_set_35 (by decide) ?_
          refine lv_icmp_ge (tgt := 45) hx hb dX7_set_36 (by decide) (fun c_36 => ?_) (fun c_36 => ?_)
          · refine lv_iload_n hx hb dX7_set_45 rfl (lv_at hl 1 rfl) ?_
            rw [show a1 = nI (6) from ka]
            refine lv_iconst (v := nI (5)) hx hb dX7_set_46 (by decide) ?_
            refine lv_icmp_ne (tgt := 55) hx hb dX7_set_47 (by decide) (fun c_47 => ?_) (fun c_47 => ?_)
            · refine lv_sipush (v := nI (600)) hx hb dX7_set_55 (by decide) ?_
              refine fa_callSip (As := [.int (a2), .int (nI (50)), .int (nI (600))]) (rest := []) CX HX551 (c_X7_in l G n v r (a2) (nI (50)) (nI (600))) ln_X7_86 rfl rfl (Nat.le_of_ble_eq_true rfl) hl.1 ⟨Nat.le_of_ble_eq_true rfl, Nat.le_of_ble_eq_true rfl⟩ ⟨Nat.le_refl _, Nat.le_refl _⟩ dX7_set_58 (fun x631 H locs h630 HX632 => ?_)
              have h_in_58 := h630
              refine lv_if_ne (tgt := 67) hx hb dX7_set_61 (by decide) (fun c_61 => ?_) (fun c_61 => ?_)
              · refine lv_aload_n hx hb dX7_set_67 rfl (lv_at hl 0 rfl) ?_
                refine fa_callVvu (As := []) (rest := []) CX HX632 (p1m_hold l G n hn v r hM  ) ln_X7_102 (by omega) rfl rfl rfl rfl (Nat.le_of_ble_eq_true rfl) hl.1 ⟨Nat.le_of_ble_eq_true rfl, Nat.le_of_ble_eq_true rfl⟩ ⟨Nat.le_refl _, Nat.le_refl _⟩ dX7_set_68 (fun v634 H locs h633 HX635 => ?_)
                have h_hold := h633.1
                refine lv_aload_n hx hb dX7_set_71 rfl (lv_at hl 0 rfl) ?_
                refine fa_getr (k := 397) (j := 398) CX HX635 fl_X7_7 (by omega) rfl rfl hM.1 dX7_set_72 ?_
                refine lv_iload_n hx hb dX7_set_75 rfl (lv_at hl 1 rfl) ?_
                rw [show a1 = nI (6) from ka]
                refine fa_iald (k := 398) (j := 6) CX HX635 (by omega) rfl (by omega) (by first | decide | assumption) dX7_set_76 ?_
                refine lv_istore_n (lv' := [(3, .int (v634 398 6)), (0, .ref (fa_B G + (397))), (1, .int (a1)), (2, .int (a2))]) hx hb dX7_set_77 rfl hl (by decide) rfl (fun ls hl => ?_)
                refine lv_aload_n hx hb dX7_set_78 rfl (lv_at hl 1 rfl) ?_
                refine fa_getr (k := 397) (j := 398) CX HX635 fl_X7_7 (by omega) rfl rfl hM.1 dX7_set_79 ?_
                refine lv_iload_n hx hb dX7_set_82 rfl (lv_at hl 2 rfl) ?_
                rw [show a1 = nI (6) from ka]
                refine lv_iload_n hx hb dX7_set_83 rfl (lv_at hl 3 rfl) ?_
                refine fa_iast (k := 398) (j := 6) CX HX635 (by omega) rfl (by omega) (by first | decide | assumption) dX7_set_84 (fun H locs v636 e637 HX638 => ?_)
                refine lv_aload_n hx hb dX7_set_85 rfl (lv_at hl 1 rfl) ?_
                refine lv_iload_n hx hb dX7_set_86 rfl (lv_at hl 0 rfl) ?_
                refine fa_callViu (As := [.int (v634 398 6)]) (rest := []) CX HX638 (p1m_recorded l G n hn v636 r hM (v634 398 6) (by simp [hF.2.2.2.2, h633.2 397 (by omega), e637, fa_u] <;> rfl)) ln_X7_109 (by omega) rfl rfl rfl rfl (Nat.le_of_ble_eq_true rfl) hl.1 ⟨Nat.le_of_ble_eq_true rfl, Nat.le_of_ble_eq_true rfl⟩ ⟨Nat.le_refl _, Nat.le_refl _⟩ dX7_set_87 (fun x640 v641 H locs h639 HX642 => ?_)
                have h_re := h639.1
                exact RET _ _ _ _ _ _ _ HX642 dX7_set_90 (⟨rfl, ⟨(by rw [if_neg (fa_set6 (fa_in1 h_in_4 c_7)), kt, if_neg (fun y => fa_in1 h_in_58 c_61 (y.elim Or.inl (fun y => Or.inr (Int32.not_le.mp y)))), h_re]; exact (by simp [(show v 398 6 = (300 : Int32) from hF.2.1 6 (by decide)), h633.2 398 (by omega)] <;> rfl)), (fa_fr.tr (by rw [e637]; exact fa_fr.u (fa_fr.tr fa_fr.rf (fa_fr.wide h633.2 (by omega) (by omega))) (by omega)) (fa_fr.wide h639.2 (by omega) (by omega)))⟩⟩)
              · refine lv_bipush (v := (-2 : Int32)) hx hb dX7_set_64 (by decide) ?_
                exact RET _ _ _ _ _ _ _ HX632 dX7_set_66 (⟨rfl, ⟨(by rw [if_neg (fa_set6 (fa_in1 h_in_4 c_7)), kt, if_pos (by have z := fa_in0 h_in_58 c_61; rcases z with z | z; exact Or.inl z; exact Or.inr (Int32.not_le.mpr z))]), fa_fr.rf⟩⟩)
            · exact absurd c_47 (by try decide)
          · exact absurd (by try decide) c_36
        · exact absurd c_25 (by try decide)
      · exact absurd (by try decide) c_15
  · refine lv_iconst (v := (-1 : Int32)) hx hb dX7_set_10 (by decide) ?_
    exact RET _ _ _ _ _ _ _ HX551 dX7_set_11 (⟨rfl, ⟨(by rw [if_pos (fa_set6n (fa_in0 h_in_4 c_7))]), fa_fr.rf⟩⟩)
set_option maxHeartbeats 4000000 in
set_option maxRecDepth 100000 in
theorem p1n_append (l : Launch) (G : fa_G) (n : Nat) (hn : 406 ≤ n) (v : fa_V) (r : fa_R) (hM : fa_RM r) (hF : fa_FM v) (a1 : Int32) : fa_MI l G n yX7_append cX7_append 2 (some .int) 3 [.ref (fa_B G + (397)), .int (a1)] v r (fa_voi r (fun x v1 => (x = if a1 < nI 32 ∨ ¬ a1 ≤ nI 126 then (-2 : Int32) else nI 1) ∧ (fa_fr (397) (406) v v1))) := by
  refine fa_startI (by decide +kernel) (Nat.le_of_ble_eq_true rfl) (fun p e s m args below meth c ls Q CX hl HX RET => ?_)
  have hl : lv_has ls 2 [(0, .ref (fa_B G + (397))), (1, .int (a1))] := hl
  have hx := CX.1.1
  have hb := CX.1.2.1
  refine lv_iload_n hx hb dX7_append_0 rfl (lv_at hl 1 rfl) ?_
  refine lv_bipush (v := nI (32)) hx hb dX7_append_1 (by decide) ?_
  refine lv_bipush (v := nI (126)) hx hb dX7_append_3 (by decide) ?_
  refine fa_callSip (As := [.int (a1), .int (nI (32)), .int (nI (126))]) (rest := []) CX HX (c_X7_in l G n v r (a1) (nI (32)) (nI (126))) ln_X7_86 rfl rfl (Nat.le_of_ble_eq_true rfl) hl.1 ⟨Nat.le_of_ble_eq_true rfl, Nat.le_of_ble_eq_true rfl⟩ ⟨Nat.le_refl _, Nat.le_refl _⟩ dX7_append_5 (fun x644 H locs h643 HX645 => ?_)
  have h_in_5 := h643
  refine lv_if_ne (tgt := 14) hx hb dX7_append_8 (by decide) (fun c_8 => ?_) (fun c_8 => ?_)
  · refine lv_aload_n hx hb dX7_append_14 rfl (lv_at hl 0 rfl) ?_
    refine fa_geti (k := 397) CX HX645 fl_X7_131 (by omega) rfl rfl dX7_append_15 ?_
    refine lv_bipush (v := nI (60)) hx hb dX7_append_18 (by decide) ?_
    have kx_20 : v 397 9 = (0 : Int32) := hF.2.2.2.1
    refine lv_icmp_ne (tgt := 26) hx hb dX7_append_20 (by decide) (fun c_20 => ?_) (fun c_20 => ?_)
    · refine lv_aload_n hx hb dX7_append_26 rfl (lv_at hl 0 rfl) ?_
      refine fa_getr (k := 397) (j := 405) CX HX645 fl_X7_32 (by omega) rfl rfl hM.2.2.2.2.2.2.2 dX7_append_27 ?_
      refine lv_aload_n hx hb dX7_append_30 rfl (lv_at hl 0 rfl) ?_
      refine fa_geti (k := 397) CX HX645 fl_X7_131 (by omega) rfl rfl dX7_append_31 ?_
      refine lv_iload_n hx hb dX7_append_34 rfl (lv_at hl 1 rfl) ?_
      refine lv_i2c hx hb dX7_append_35 rfl ?_
      rw [show v 397 9 = nI (0) from hF.2.2.2.1]
      refine fa_cast (k := 405) (j := 0) CX HX645 (by omega) rfl (by omega) (by first | decide | assumption) dX7_append_36 (fun H locs v646 e647 HX648 => ?_)
      refine lv_aload_n hx hb dX7_append_37 rfl (lv_at hl 0 rfl) ?_
      refine lv_dup hx hb dX7_append_38 rfl ?_
      refine fa_geti (k := 397) CX HX648 fl_X7_131 (by omega) rfl rfl dX7_append_39 ?_
      refine lv_iconst (v := nI (1)) hx hb dX7_append_42 (by decide) ?_
      refine lv_iadd hx hb dX7_append_43 ?_
      refine fa_puti (k := 397) CX HX648 fl_X7_131 (by omega) rfl rfl rfl rfl dX7_append_44 (fun H locs v649 e650 HX651 => ?_)
      refine lv_aload_n hx hb dX7_append_47 rfl (lv_at hl 0 rfl) ?_
      refine fa_geti (k := 397) CX HX651 fl_X7_131 (by omega) rfl rfl dX7_append_48 ?_
      exact RET _ _ _ _ _ _ _ HX651 dX7_append_51 (⟨rfl, ⟨(by rw [if_neg (fun y => fa_in1 h_in_5 c_8 (y.elim Or.inl (fun y => Or.inr (Int32.not_le.mp y))))]; exact (by simp [(show (v646 397 9) + (nI (1)) = (1 : Int32) from by rw [show v646 397 9 = (0 : Int32) from (by simp [hF.2.2.2.1, e647, fa_u] <;> rfl), show nI (1) = (1 : Int32) from (by decide)]; decide), e650, fa_u] <;> rfl)), (by rw [e650]; exact fa_fr.u (by rw [e647]; exact fa_fr.u fa_fr.rf (by omega)) (by omega))⟩⟩)
    · exact absurd c_20 (by rw [kx_20]; try decide)
  · refine lv_bipush (v := (-2 : Int32)) hx hb dX7_append_11 (by decide) ?_
    exact RET _ _ _ _ _ _ _ HX645 dX7_append_13 (⟨rfl, ⟨(by have z := fa_in0 h_in_5 c_8; rw [if_pos (by rcases z with z | z; exact Or.inl z; exact Or.inr (Int32.not_le.mpr z))]), fa_fr.rf⟩⟩)
set_option maxHeartbeats 4000000 in
set_option maxRecDepth 100000 in
theorem p1n_clearText (l : Launch) (G : fa_G) (n : Nat) (hn : 406 ≤ n) (v : fa_V) (r : fa_R) (hM : fa_RM r) (hF : fa_FM v) : fa_MI l G n yX7_clearText cX7_clearText 2 (some .int) 1 [.ref (fa_B G + (397))] v r (fa_voi r (fun x v1 => (x = (0 : Int32)) ∧ (fa_fr (397) (406) v v1))) := by
  refine fa_startI (by decide +kernel) (Nat.le_of_ble_eq_true rfl) (fun p e s m args below meth c ls Q CX hl HX RET => ?_)
  have hl : lv_has ls 2 [(0, .ref (fa_B G + (397)))] := hl
  have hx := CX.1.1
  have hb := CX.1.2.1
  refine lv_aload_n hx hb dX7_clearText_0 rfl (lv_at hl 0 rfl) ?_
  refine fa_geti (k := 397) CX HX fl_X7_131 (by omega) rfl rfl dX7_clearText_1 ?_
  refine lv_istore_n (lv' := [(1, .int (v 397 9)), (0, .ref (fa_B G + (397)))]) hx hb dX7_clearText_4 rfl hl (by decide) rfl (fun ls hl => ?_)
  refine lv_aload_n hx hb dX7_clearText_5 rfl (lv_at hl 1 rfl) ?_
  refine lv_iconst (v := nI (0)) hx hb dX7_clearText_6 (by decide) ?_
  refine fa_puti (k := 397) CX HX fl_X7_131 (by omega) rfl rfl rfl rfl dX7_clearText_7 (fun H locs v652 e653 HX654 => ?_)
  refine lv_iload_n hx hb dX7_clearText_10 rfl (lv_at hl 0 rfl) ?_
  exact RET _ _ _ _ _ _ _ HX654 dX7_clearText_11 (⟨rfl, ⟨hF.2.2.2.1, (by rw [e653]; exact fa_fr.u fa_fr.rf (by omega))⟩⟩)
set_option maxHeartbeats 4000000 in
set_option maxRecDepth 100000 in
theorem p1n_fault (l : Launch) (G : fa_G) (n : Nat) (hn : 406 ≤ n) (v : fa_V) (r : fa_R) (hM : fa_RM r) (hF : fa_FM v) : fa_MI l G n yX7_fault cX7_fault 2 (some .int) 5 [.ref (fa_B G + (397))] v r (fa_voi r (fun x v1 => (x = (0 : Int32)) ∧ (fa_fr (397) (406) v v1))) := by
  refine fa_startI (by decide +kernel) (Nat.le_of_ble_eq_true rfl) (fun p e s m args below meth c ls Q CX hl HX RET => ?_)
  have hl : lv_has ls 2 [(0, .ref (fa_B G + (397)))] := hl
  have hx := CX.1.1
  have hb := CX.1.2.1
  refine lv_aload_n hx hb dX7_fault_0 rfl (lv_at hl 0 rfl) ?_
  refine fa_callViu (As := []) (rest := []) CX HX (p1m_faultOf l G n hn v r hM  hF.2.2.2.1) ln_X7_155 (by omega) rfl rfl rfl rfl (Nat.le_of_ble_eq_true rfl) hl.1 ⟨Nat.le_of_ble_eq_true rfl, Nat.le_of_ble_eq_true rfl⟩ ⟨Nat.le_refl _, Nat.le_refl _⟩ dX7_fault_1 (fun x656 v657 H locs h655 HX658 => ?_)
  have hv_faultOf := h655.1
  refine lv_istore_n (lv' := [(1, .int (x656)), (0, .ref (fa_B G + (397)))]) hx hb dX7_fault_4 rfl hl (by decide) rfl (fun ls hl => ?_)
  refine lv_iload_n hx hb dX7_fault_5 rfl (lv_at hl 0 rfl) ?_
  have kx_6 : x656 = (0 : Int32) := h655.1
  refine lv_if_ge (tgt := 14) hx hb dX7_fault_6 (by decide) (fun c_6 => ?_) (fun c_6 => ?_)
  · refine lv_iload_n hx hb dX7_fault_14 rfl (lv_at hl 0 rfl) ?_
    exact RET _ _ _ _ _ _ _ HX658 dX7_fault_15 (⟨rfl, ⟨(by assumption), (fa_fr.tr fa_fr.rf (fa_fr.wide h655.2 (by omega) (by omega)))⟩⟩)
  · exact absurd (by rw [kx_6]; try decide) c_6
set_option maxHeartbeats 4000000 in
set_option maxRecDepth 100000 in
theorem p1n_run (l : Launch) (G : fa_G) (n : Nat) (hn : 406 ≤ n) (v : fa_V) (r : fa_R) (hM : fa_RM r) (hF : fa_FM v) : fa_MI l G n yX7_run cX7_run 3 (some .int) 5 [.ref (fa_B G + (397))] v r (fa_voi r (fun x v1 => (x = (-3 : Int32)) ∧ (fa_fr (397) (406) v v1))) := by
  refine fa_startI (by decide +kernel) (Nat.le_of_ble_eq_true rfl) (fun p e s m args below meth c ls Q CX hl HX RET => ?_)
  have hl : lv_has ls 3 [(0, .ref (fa_B G + (397)))] := hl
  have hx := CX.1.1
  have hb := CX.1.2.1
  refine lv_aload_n hx hb dX7_run_0 rfl (lv_at hl 0 rfl) ?_
  refine fa_callViu (As := []) (rest := []) CX HX (p1m_faultOf l G n hn v r hM  hF.2.2.2.1) ln_X7_155 (by omega) rfl rfl rfl rfl (Nat.le_of_ble_eq_true rfl) hl.1 ⟨Nat.le_of_ble_eq_true rfl, Nat.le_of_ble_eq_true rfl⟩ ⟨Nat.le_refl _, Nat.le_refl _⟩ dX7_run_1 (fun x660 v661 H locs h659 HX662 => ?_)
  have hv_faultOf := h659.1
  have kx_4 : x660 = (0 : Int32) := h659.1
  refine lv_if_lt (tgt := 10) hx hb dX7_run_4 (by decide) (fun c_4 => ?_) (fun c_4 => ?_)
  · exact absurd c_4 (by rw [kx_4]; try decide)
  · refine lv_bipush (v := (-3 : Int32)) hx hb dX7_run_7 (by decide) ?_
    exact RET _ _ _ _ _ _ _ HX662 dX7_run_9 (⟨rfl, ⟨rfl, (fa_fr.tr fa_fr.rf (fa_fr.wide h659.2 (by omega) (by omega)))⟩⟩)
set_option maxHeartbeats 4000000 in
set_option maxRecDepth 100000 in
theorem p1n_why (l : Launch) (G : fa_G) (n : Nat) (hn : 406 ≤ n) (v : fa_V) (r : fa_R) (hM : fa_RM r) (hF : fa_FM v) (a1 : Int32) : fa_MI l G n yX7_why cX7_why 2 (some .int) 2 [.ref (fa_B G + (397)), .int (a1)] v r (fun x w => w = (v, r) ∧ (x = if a1 < 0 ∨ ¬ a1 ≤ nI 2 then (-2 : Int32) else (-6 : Int32))) := by
  refine fa_startI (by decide +kernel) (Nat.le_of_ble_eq_true rfl) (fun p e s m args below meth c ls Q CX hl HX RET => ?_)
  have hl : lv_has ls 2 [(0, .ref (fa_B G + (397))), (1, .int (a1))] := hl
  have hx := CX.1.1
  have hb := CX.1.2.1
  refine lv_iload_n hx hb dX7_why_0 rfl (lv_at hl 1 rfl) ?_
  refine lv_iconst (v := nI (0)) hx hb dX7_why_1 (by decide) ?_
  refine lv_iconst (v := nI (2)) hx hb dX7_why_2 (by decide) ?_
  refine fa_callSip (As := [.int (a1), .int (nI (0)), .int (nI (2))]) (rest := []) CX HX (c_X7_in l G n v r (a1) (nI (0)) (nI (2))) ln_X7_86 rfl rfl (Nat.le_of_ble_eq_true rfl) hl.1 ⟨Nat.le_of_ble_eq_true rfl, Nat.le_of_ble_eq_true rfl⟩ ⟨Nat.le_refl _, Nat.le_refl _⟩ dX7_why_3 (fun x664 H locs h663 HX665 => ?_)
  have h_in_3 := h663
  refine lv_if_ne (tgt := 14) hx hb dX7_why_6 (by decide) (fun c_6 => ?_) (fun c_6 => ?_)
  · refine lv_aload_n hx hb dX7_why_14 rfl (lv_at hl 0 rfl) ?_
    refine fa_geti (k := 397) CX HX665 fl_X7_158 (by omega) rfl rfl dX7_why_15 ?_
    have kx_18 : v 397 8 = (0 : Int32) := hF.2.2.1
    refine lv_if_eq (tgt := 30) hx hb dX7_why_18 (by decide) (fun c_18 => ?_) (fun c_18 => ?_)
    · refine lv_bipush (v := (-6 : Int32)) hx hb dX7_why_30 (by decide) ?_
      exact RET _ _ _ _ _ _ _ HX665 dX7_why_32 (⟨rfl, (by rw [if_neg (fun y => fa_in1 h_in_3 c_6 (y.elim Or.inl (fun y => Or.inr (Int32.not_le.mp y))))])⟩)
    · exact absurd (by rw [kx_18]; try decide) c_18
  · refine lv_bipush (v := (-2 : Int32)) hx hb dX7_why_9 (by decide) ?_
    refine lv_goto (tgt := 32) hx hb dX7_why_11 (by decide) ?_
    exact RET _ _ _ _ _ _ _ HX665 dX7_why_32 (⟨rfl, (by have z := fa_in0 h_in_3 c_6; rw [if_pos (by rcases z with z | z; exact Or.inl z; exact Or.inr (Int32.not_le.mpr z))])⟩)
set_option maxHeartbeats 4000000 in
set_option maxRecDepth 100000 in
theorem p1n_undo (l : Launch) (G : fa_G) (n : Nat) (hn : 406 ≤ n) (v : fa_V) (r : fa_R) (hM : fa_RM r) (hF : fa_FM v) : fa_MI l G n yX7_undo cX7_undo 2 (some .int) 1 [.ref (fa_B G + (397))] v r (fun x w => w = (v, r) ∧ (x = (-6 : Int32))) := by
  refine fa_startI (by decide +kernel) (Nat.le_of_ble_eq_true rfl) (fun p e s m args below meth c ls Q CX hl HX RET => ?_)
  have hl : lv_has ls 2 [(0, .ref (fa_B G + (397)))] := hl
  have hx := CX.1.1
  have hb := CX.1.2.1
  refine lv_aload_n hx hb dX7_undo_0 rfl (lv_at hl 0 rfl) ?_
  refine fa_geti (k := 397) CX HX fl_X7_40 (by omega) rfl rfl dX7_undo_1 ?_
  have kx_4 : v 397 10 = (0 : Int32) := hF.2.2.2.2
  refine lv_if_ne (tgt := 10) hx hb dX7_undo_4 (by decide) (fun c_4 => ?_) (fun c_4 => ?_)
  · exact absurd (by rw [kx_4]; try decide) c_4
  · refine lv_bipush (v := (-6 : Int32)) hx hb dX7_undo_7 (by decide) ?_
    exact RET _ _ _ _ _ _ _ HX dX7_undo_9 (⟨rfl, rfl⟩)
set_option maxHeartbeats 4000000 in
set_option maxRecDepth 100000 in
theorem p1n_now (l : Launch) (G : fa_G) (n : Nat) (hn : 406 ≤ n) (v : fa_V) (r : fa_R) (hM : fa_RM r) (hF : fa_FM v) : fa_MI l G n yX7_now cX7_now 1 (some .int) 1 [.ref (fa_B G + (397))] v r (fun x w => w = (v, r) ∧ (x = (0 : Int32))) := by
  refine fa_startI (by decide +kernel) (Nat.le_of_ble_eq_true rfl) (fun p e s m args below meth c ls Q CX hl HX RET => ?_)
  have hl : lv_has ls 1 [(0, .ref (fa_B G + (397)))] := hl
  have hx := CX.1.1
  have hb := CX.1.2.1
  refine lv_aload_n hx hb dX7_now_0 rfl (lv_at hl 0 rfl) ?_
  refine fa_getr (k := 397) (j := 398) CX HX fl_X7_7 (by omega) rfl rfl hM.1 dX7_now_1 ?_
  refine lv_bipush (v := nI (7)) hx hb dX7_now_4 (by decide) ?_
  refine fa_iald (k := 398) (j := 7) CX HX (by omega) rfl (by omega) (by first | decide | assumption) dX7_now_6 ?_
  exact RET _ _ _ _ _ _ _ HX dX7_now_7 (⟨rfl, (hF.1 7 (by decide) (by decide))⟩)
set_option maxHeartbeats 4000000 in
set_option maxRecDepth 100000 in
theorem p1n_count (l : Launch) (G : fa_G) (n : Nat) (hn : 406 ≤ n) (v : fa_V) (r : fa_R) (hM : fa_RM r) (hF : fa_FM v) (a1 : Int32) : fa_MI l G n yX7_count cX7_count 2 (some .int) 3 [.ref (fa_B G + (397)), .int (a1)] v r (fun x w => w = (v, r) ∧ (x = if a1 = (0 : Int32) ∨ a1 = (1 : Int32) ∨ a1 = (2 : Int32) ∨ a1 = (3 : Int32) ∨ a1 = (4 : Int32) ∨ a1 = (5 : Int32) ∨ a1 = (6 : Int32) ∨ a1 = (7 : Int32) ∨ a1 = (8 : Int32) ∨ a1 = (9 : Int32) then 0 else (-2 : Int32))) := by
  refine fa_startI (by decide +kernel) (Nat.le_of_ble_eq_true rfl) (fun p e s m args below meth c ls Q CX hl HX RET => ?_)
  have hl : lv_has ls 2 [(0, .ref (fa_B G + (397))), (1, .int (a1))] := hl
  have hx := CX.1.1
  have hb := CX.1.2.1
  refine lv_iload_n hx hb dX7_count_0 rfl (lv_at hl 1 rfl) ?_
  by_cases c_1_0 : a1 = (0 : Int32)
  · refine lv_tableIn (off := 55) (tgt := 56) hx hb dX7_count_1 (by rw [c_1_0]; decide) (by rw [c_1_0]; decide) (by rw [c_1_0]; decide) (by decide) ?_
    refine lv_aload_n hx hb dX7_count_56 rfl (lv_at hl 0 rfl) ?_
    refine fa_getr (k := 397) (j := 398) CX HX fl_X7_7 (by omega) rfl rfl hM.1 dX7_count_57 ?_
    refine lv_bipush (v := nI (14)) hx hb dX7_count_60 (by decide) ?_
    refine fa_iald (k := 398) (j := 14) CX HX (by omega) rfl (by omega) (by first | decide | assumption) dX7_count_62 ?_
    exact RET _ _ _ _ _ _ _ HX dX7_count_63 (⟨rfl, (by rw [if_pos (by simp [c_1_0])]; exact (hF.1 14 (by decide) (by decide)))⟩)
  by_cases c_1_1 : a1 = (1 : Int32)
  · refine lv_tableIn (off := 63) (tgt := 64) hx hb dX7_count_1 (by rw [c_1_1]; decide) (by rw [c_1_1]; decide) (by rw [c_1_1]; decide) (by decide) ?_
    refine lv_aload_n hx hb dX7_count_64 rfl (lv_at hl 0 rfl) ?_
    refine fa_getr (k := 397) (j := 398) CX HX fl_X7_7 (by omega) rfl rfl hM.1 dX7_count_65 ?_
    refine lv_bipush (v := nI (8)) hx hb dX7_count_68 (by decide) ?_
    refine fa_iald (k := 398) (j := 8) CX HX (by omega) rfl (by omega) (by first | decide | assumption) dX7_count_70 ?_
    exact RET _ _ _ _ _ _ _ HX dX7_count_71 (⟨rfl, (by rw [if_pos (by simp [c_1_1])]; exact (hF.1 8 (by decide) (by decide)))⟩)
  by_cases c_1_2 : a1 = (2 : Int32)
  · refine lv_tableIn (off := 71) (tgt := 72) hx hb dX7_count_1 (by rw [c_1_2]; decide) (by rw [c_1_2]; decide) (by rw [c_1_2]; decide) (by decide) ?_
    refine lv_aload_n hx hb dX7_count_72 rfl (lv_at hl 0 rfl) ?_
    refine fa_callVip (As := []) (rest := []) CX HX (p1m_pages l G n hn v r hM  (hF.1 14 (by decide) (by decide))) ln_X7_90 (by omega) rfl rfl rfl rfl (Nat.le_of_ble_eq_true rfl) hl.1 ⟨Nat.le_of_ble_eq_true rfl, Nat.le_of_ble_eq_true rfl⟩ ⟨Nat.le_refl _, Nat.le_refl _⟩ dX7_count_73 (fun x667 H locs h666 HX668 => ?_)
    have hv_pages := h666
    exact RET _ _ _ _ _ _ _ HX668 dX7_count_76 (⟨rfl, (by rw [if_pos (by simp [c_1_2])]; exact h666)⟩)
  by_cases c_1_3 : a1 = (3 : Int32)
  · refine lv_tableIn (off := 76) (tgt := 77) hx hb dX7_count_1 (by rw [c_1_3]; decide) (by rw [c_1_3]; decide) (by rw [c_1_3]; decide) (by decide) ?_
    refine lv_aload_n hx hb dX7_count_77 rfl (lv_at hl 0 rfl) ?_
    refine fa_getr (k := 397) (j := 398) CX HX fl_X7_7 (by omega) rfl rfl hM.1 dX7_count_78 ?_
    refine lv_bipush (v := nI (9)) hx hb dX7_count_81 (by decide) ?_
    refine lv_iload_n hx hb dX7_count_83 rfl (lv_at hl 1 rfl) ?_
    rw [show a1 = nI (3) from c_1_3]
    refine fa_iaddN hx hb dX7_count_84 ?_
    refine lv_iconst (v := nI (3)) hx hb dX7_count_85 (by decide) ?_
    refine fa_isubN hx hb dX7_count_86 (by decide) ?_
    refine fa_iald (k := 398) (j := (9 + 3) - 3) CX HX (by omega) rfl (by omega) (by first | decide | assumption) dX7_count_87 ?_
    exact RET _ _ _ _ _ _ _ HX dX7_count_88 (⟨rfl, (by rw [if_pos (by simp [c_1_3])]; exact (hF.1 9 (by decide) (by decide)))⟩)
  by_cases c_1_4 : a1 = (4 : Int32)
  · refine lv_tableIn (off := 76) (tgt := 77) hx hb dX7_count_1 (by rw [c_1_4]; decide) (by rw [c_1_4]; decide) (by rw [c_1_4]; decide) (by decide) ?_
    refine lv_aload_n hx hb dX7_count_77 rfl (lv_at hl 0 rfl) ?_
    refine fa_getr (k := 397) (j := 398) CX HX fl_X7_7 (by omega) rfl rfl hM.1 dX7_count_78 ?_
    refine lv_bipush (v := nI (9)) hx hb dX7_count_81 (by decide) ?_
    refine lv_iload_n hx hb dX7_count_83 rfl (lv_at hl 1 rfl) ?_
    rw [show a1 = nI (4) from c_1_4]
    refine fa_iaddN hx hb dX7_count_84 ?_
    refine lv_iconst (v := nI (3)) hx hb dX7_count_85 (by decide) ?_
    refine fa_isubN hx hb dX7_count_86 (by decide) ?_
    refine fa_iald (k := 398) (j := (9 + 4) - 3) CX HX (by omega) rfl (by omega) (by first | decide | assumption) dX7_count_87 ?_
    exact RET _ _ _ _ _ _ _ HX dX7_count_88 (⟨rfl, (by rw [if_pos (by simp [c_1_4])]; exact (hF.1 10 (by decide) (by decide)))⟩)
  by_cases c_1_5 : a1 = (5 : Int32)
  · refine lv_tableIn (off := 76) (tgt := 77) hx hb dX7_count_1 (by rw [c_1_5]; decide) (by rw [c_1_5]; decide) (by rw [c_1_5]; decide) (by decide) ?_
    refine lv_aload_n hx hb dX7_count_77 rfl (lv_at hl 0 rfl) ?_
    refine fa_getr (k := 397) (j := 398) CX HX fl_X7_7 (by omega) rfl rfl hM.1 dX7_count_78 ?_
    refine lv_bipush (v := nI (9)) hx hb dX7_count_81 (by decide) ?_
    refine lv_iload_n hx hb dX7_count_83 rfl (lv_at hl 1 rfl) ?_
    rw [show a1 = nI (5) from c_1_5]
    refine fa_iaddN hx hb dX7_count_84 ?_
    refine lv_iconst (v := nI (3)) hx hb dX7_count_85 (by decide) ?_
    refine fa_isubN hx hb dX7_count_86 (by decide) ?_
    refine fa_iald (k := 398) (j := (9 + 5) - 3) CX HX (by omega) rfl (by omega) (by first | decide | assumption) dX7_count_87 ?_
    exact RET _ _ _ _ _ _ _ HX dX7_count_88 (⟨rfl, (by rw [if_pos (by simp [c_1_5])]; exact (hF.1 11 (by decide) (by decide)))⟩)
  by_cases c_1_6 : a1 = (6 : Int32)
  · refine lv_tableIn (off := 76) (tgt := 77) hx hb dX7_count_1 (by rw [c_1_6]; decide) (by rw [c_1_6]; decide) (by rw [c_1_6]; decide) (by decide) ?_
    refine lv_aload_n hx hb dX7_count_77 rfl (lv_at hl 0 rfl) ?_
    refine fa_getr (k := 397) (j := 398) CX HX fl_X7_7 (by omega) rfl rfl hM.1 dX7_count_78 ?_
    refine lv_bipush (v := nI (9)) hx hb dX7_count_81 (by decide) ?_
    refine lv_iload_n hx hb dX7_count_83 rfl (lv_at hl 1 rfl) ?_
    rw [show a1 = nI (6) from c_1_6]
    refine fa_iaddN hx hb dX7_count_84 ?_
    refine lv_iconst (v := nI (3)) hx hb dX7_count_85 (by decide) ?_
    refine fa_isubN hx hb dX7_count_86 (by decide) ?_
    refine fa_iald (k := 398) (j := (9 + 6) - 3) CX HX (by omega) rfl (by omega) (by first | decide | assumption) dX7_count_87 ?_
    exact RET _ _ _ _ _ _ _ HX dX7_count_88 (⟨rfl, (by rw [if_pos (by simp [c_1_6])]; exact (hF.1 12 (by decide) (by decide)))⟩)
  by_cases c_1_7 : a1 = (7 : Int32)
  · refine lv_tableIn (off := 76) (tgt := 77) hx hb dX7_count_1 (by rw [c_1_7]; decide) (by rw [c_1_7]; decide) (by rw [c_1_7]; decide) (by decide) ?_
    refine lv_aload_n hx hb dX7_count_77 rfl (lv_at hl 0 rfl) ?_
    refine fa_getr (k := 397) (j := 398) CX HX fl_X7_7 (by omega) rfl rfl hM.1 dX7_count_78 ?_
    refine lv_bipush (v := nI (9)) hx hb dX7_count_81 (by decide) ?_
    refine lv_iload_n hx hb dX7_count_83 rfl (lv_at hl 1 rfl) ?_
    rw [show a1 = nI (7) from c_1_7]
    refine fa_iaddN hx hb dX7_count_84 ?_
    refine lv_iconst (v := nI (3)) hx hb dX7_count_85 (by decide) ?_
    refine fa_isubN hx hb dX7_count_86 (by decide) ?_
    refine fa_iald (k := 398) (j := (9 + 7) - 3) CX HX (by omega) rfl (by omega) (by first | decide | assumption) dX7_count_87 ?_
    exact RET _ _ _ _ _ _ _ HX dX7_count_88 (⟨rfl, (by rw [if_pos (by simp [c_1_7])]; exact (hF.1 13 (by decide) (by decide)))⟩)
  by_cases c_1_8 : a1 = (8 : Int32)
  · refine lv_tableIn (off := 88) (tgt := 89) hx hb dX7_count_1 (by rw [c_1_8]; decide) (by rw [c_1_8]; decide) (by rw [c_1_8]; decide) (by decide) ?_
    refine lv_aload_n hx hb dX7_count_89 rfl (lv_at hl 0 rfl) ?_
    refine fa_getr (k := 397) (j := 398) CX HX fl_X7_7 (by omega) rfl rfl hM.1 dX7_count_90 ?_
    refine lv_bipush (v := nI (15)) hx hb dX7_count_93 (by decide) ?_
    refine fa_iald (k := 398) (j := 15) CX HX (by omega) rfl (by omega) (by first | decide | assumption) dX7_count_95 ?_
    exact RET _ _ _ _ _ _ _ HX dX7_count_96 (⟨rfl, (by rw [if_pos (by simp [c_1_8])]; exact (hF.1 15 (by decide) (by decide)))⟩)
  by_cases c_1_9 : a1 = (9 : Int32)
  · refine lv_tableIn (off := 96) (tgt := 97) hx hb dX7_count_1 (by rw [c_1_9]; decide) (by rw [c_1_9]; decide) (by rw [c_1_9]; decide) (by decide) ?_
    refine lv_aload_n hx hb dX7_count_97 rfl (lv_at hl 0 rfl) ?_
    refine fa_getr (k := 397) (j := 398) CX HX fl_X7_7 (by omega) rfl rfl hM.1 dX7_count_98 ?_
    refine lv_bipush (v := nI (16)) hx hb dX7_count_101 (by decide) ?_
    refine fa_iald (k := 398) (j := 16) CX HX (by omega) rfl (by omega) (by first | decide | assumption) dX7_count_103 ?_
    exact RET _ _ _ _ _ _ _ HX dX7_count_104 (⟨rfl, (by rw [if_pos (by simp [c_1_9])]; exact (hF.1 16 (by decide) (by decide)))⟩)
  have hout_1 : (a1).toInt < 0 ∨ 9 < (a1).toInt := by
    have z0 := lv_neT (a := 0) c_1_0 (by decide)
    have z1 := lv_neT (a := 1) c_1_1 (by decide)
    have z2 := lv_neT (a := 2) c_1_2 (by decide)
    have z3 := lv_neT (a := 3) c_1_3 (by decide)
    have z4 := lv_neT (a := 4) c_1_4 (by decide)
    have z5 := lv_neT (a := 5) c_1_5 (by decide)
    have z6 := lv_neT (a := 6) c_1_6 (by decide)
    have z7 := lv_neT (a := 7) c_1_7 (by decide)
    have z8 := lv_neT (a := 8) c_1_8 (by decide)
    have z9 := lv_neT (a := 9) c_1_9 (by decide)
    omega
  refine lv_tableOut (tgt := 105) hx hb dX7_count_1 hout_1 (by decide) ?_
  refine lv_bipush (v := (-2 : Int32)) hx hb dX7_count_105 (by decide) ?_
  exact RET _ _ _ _ _ _ _ HX dX7_count_107 (⟨rfl, (by rw [if_neg (by simp [c_1_0, c_1_1, c_1_2, c_1_3, c_1_4, c_1_5, c_1_6, c_1_7, c_1_8, c_1_9])])⟩)
set_option maxHeartbeats 4000000 in
set_option maxRecDepth 100000 in
theorem p1n_fileAt (l : Launch) (G : fa_G) (n : Nat) (hn : 406 ≤ n) (v : fa_V) (r : fa_R) (hM : fa_RM r) (hF : fa_FM v) (a1 : Int32) : fa_MI l G n yX7_fileAt cX7_fileAt 2 (some .int) 2 [.ref (fa_B G + (397)), .int (a1)] v r (fun x w => w = (v, r) ∧ (x = if 0 ≤ a1 then (-6 : Int32) else (-2 : Int32))) := by
  refine fa_startI (by decide +kernel) (Nat.le_of_ble_eq_true rfl) (fun p e s m args below meth c ls Q CX hl HX RET => ?_)
  have hl : lv_has ls 2 [(0, .ref (fa_B G + (397))), (1, .int (a1))] := hl
  have hx := CX.1.1
  have hb := CX.1.2.1
  refine lv_iload_n hx hb dX7_fileAt_0 rfl (lv_at hl 1 rfl) ?_
  refine lv_if_ge (tgt := 9) hx hb dX7_fileAt_1 (by decide) (fun c_1 => ?_) (fun c_1 => ?_)
  · refine lv_iload_n hx hb dX7_fileAt_9 rfl (lv_at hl 1 rfl) ?_
    refine lv_aload_n hx hb dX7_fileAt_10 rfl (lv_at hl 0 rfl) ?_
    refine fa_getr (k := 397) (j := 398) CX HX fl_X7_7 (by omega) rfl rfl hM.1 dX7_fileAt_11 ?_
    refine lv_bipush (v := nI (14)) hx hb dX7_fileAt_14 (by decide) ?_
    refine fa_iald (k := 398) (j := 14) CX HX (by omega) rfl (by omega) (by first | decide | assumption) dX7_fileAt_16 ?_
    refine lv_icmp_ge (tgt := 32) hx hb dX7_fileAt_17 (by decide) (fun c_17 => ?_) (fun c_17 => ?_)
    · refine lv_bipush (v := (-6 : Int32)) hx hb dX7_fileAt_32 (by decide) ?_
      exact RET _ _ _ _ _ _ _ HX dX7_fileAt_34 (⟨rfl, (by simp [c_1, c_17])⟩)
    · exact absurd (by rw [(hF.1 14 (by decide) (by decide))]; exact c_1) c_17
  · refine lv_bipush (v := (-2 : Int32)) hx hb dX7_fileAt_4 (by decide) ?_
    refine lv_goto (tgt := 34) hx hb dX7_fileAt_6 (by decide) ?_
    exact RET _ _ _ _ _ _ _ HX dX7_fileAt_34 (⟨rfl, (by simp [c_1])⟩)
set_option maxHeartbeats 4000000 in
set_option maxRecDepth 100000 in
theorem p1n_file (l : Launch) (G : fa_G) (n : Nat) (hn : 406 ≤ n) (v : fa_V) (r : fa_R) (hM : fa_RM r) (hF : fa_FM v) (a1 : Int32) (a2 : Int32) : fa_MI l G n yX7_file cX7_file 5 (some .int) 3 [.ref (fa_B G + (397)), .int (a1), .int (a2)] v r (fun x w => w = (v, r) ∧ (x = (-1 : Int32))) := by
  refine fa_startI (by decide +kernel) (Nat.le_of_ble_eq_true rfl) (fun p e s m args below meth c ls Q CX hl HX RET => ?_)
  have hl : lv_has ls 5 [(0, .ref (fa_B G + (397))), (1, .int (a1)), (2, .int (a2))] := hl
  have hx := CX.1.1
  have hb := CX.1.2.1
  refine lv_aload_n hx hb dX7_file_0 rfl (lv_at hl 0 rfl) ?_
  refine lv_iload_n hx hb dX7_file_1 rfl (lv_at hl 1 rfl) ?_
  refine fa_callVip (As := [.int (a1)]) (rest := []) CX HX (p1m_placeOf l G n hn v r hM (a1) (hF.1 14 (by decide) (by decide))) ln_X7_60 (by omega) rfl rfl rfl rfl (Nat.le_of_ble_eq_true rfl) hl.1 ⟨Nat.le_of_ble_eq_true rfl, Nat.le_of_ble_eq_true rfl⟩ ⟨Nat.le_refl _, Nat.le_refl _⟩ dX7_file_2 (fun x670 H locs h669 HX671 => ?_)
  have hv_placeOf := h669
  refine lv_istore_n (lv' := [(3, .int (x670)), (0, .ref (fa_B G + (397))), (1, .int (a1)), (2, .int (a2))]) hx hb dX7_file_5 rfl hl (by decide) rfl (fun ls hl => ?_)
  refine lv_iload_n hx hb dX7_file_6 rfl (lv_at hl 0 rfl) ?_
  refine lv_iconst (v := (-1 : Int32)) hx hb dX7_file_7 (by decide) ?_
  have kx_8 : x670 = (-1 : Int32) := h669
  refine lv_icmp_ne (tgt := 13) hx hb dX7_file_8 (by decide) (fun c_8 => ?_) (fun c_8 => ?_)
  · exact absurd (by rw [kx_8]; try decide) c_8
  · refine lv_iconst (v := (-1 : Int32)) hx hb dX7_file_11 (by decide) ?_
    exact RET _ _ _ _ _ _ _ HX671 dX7_file_12 (⟨rfl, rfl⟩)
set_option maxHeartbeats 4000000 in
set_option maxRecDepth 100000 in
theorem p1n_sealOf (l : Launch) (G : fa_G) (n : Nat) (hn : 406 ≤ n) (v : fa_V) (r : fa_R) (hM : fa_RM r) (hF : fa_FM v) (a1 : Int32) (a2 : Int32) : fa_MI l G n yX7_sealOf cX7_sealOf 5 (some .int) 3 [.ref (fa_B G + (397)), .int (a1), .int (a2)] v r (fun x w => w = (v, r) ∧ (x = (-1 : Int32))) := by
  refine fa_startI (by decide +kernel) (Nat.le_of_ble_eq_true rfl) (fun p e s m args below meth c ls Q CX hl HX RET => ?_)
  have hl : lv_has ls 5 [(0, .ref (fa_B G + (397))), (1, .int (a1)), (2, .int (a2))] := hl
  have hx := CX.1.1
  have hb := CX.1.2.1
  refine lv_aload_n hx hb dX7_sealOf_0 rfl (lv_at hl 0 rfl) ?_
  refine lv_iload_n hx hb dX7_sealOf_1 rfl (lv_at hl 2 rfl) ?_
  refine fa_callVip (As := [.int (a2)]) (rest := []) CX HX (p1m_placeOf l G n hn v r hM (a2) (hF.1 14 (by decide) (by decide))) ln_X7_60 (by omega) rfl rfl rfl rfl (Nat.le_of_ble_eq_true rfl) hl.1 ⟨Nat.le_of_ble_eq_true rfl, Nat.le_of_ble_eq_true rfl⟩ ⟨Nat.le_refl _, Nat.le_refl _⟩ dX7_sealOf_2 (fun x673 H locs h672 HX674 => ?_)
  have hv_placeOf := h672
  refine lv_istore_n (lv' := [(3, .int (x673)), (0, .ref (fa_B G + (397))), (1, .int (a1)), (2, .int (a2))]) hx hb dX7_sealOf_5 rfl hl (by decide) rfl (fun ls hl => ?_)
  refine lv_iload_n hx hb dX7_sealOf_6 rfl (lv_at hl 2 rfl) ?_
  refine lv_iconst (v := nI (0)) hx hb dX7_sealOf_7 (by decide) ?_
  refine lv_bipush (v := nI (7)) hx hb dX7_sealOf_8 (by decide) ?_
  refine fa_callSip (As := [.int (a1), .int (nI (0)), .int (nI (7))]) (rest := []) CX HX674 (c_X7_in l G n v r (a1) (nI (0)) (nI (7))) ln_X7_86 rfl rfl (Nat.le_of_ble_eq_true rfl) hl.1 ⟨Nat.le_of_ble_eq_true rfl, Nat.le_of_ble_eq_true rfl⟩ ⟨Nat.le_refl _, Nat.le_refl _⟩ dX7_sealOf_10 (fun x676 H locs h675 HX677 => ?_)
  have h_in_10 := h675
  refine lv_if_eq (tgt := 21) hx hb dX7_sealOf_13 (by decide) (fun c_13 => ?_) (fun c_13 => ?_)
  · refine lv_iconst (v := (-1 : Int32)) hx hb dX7_sealOf_21 (by decide) ?_
    exact RET _ _ _ _ _ _ _ HX677 dX7_sealOf_22 (⟨rfl, rfl⟩)
  · refine lv_iload_n hx hb dX7_sealOf_16 rfl (lv_at hl 0 rfl) ?_
    refine lv_iconst (v := (-1 : Int32)) hx hb dX7_sealOf_17 (by decide) ?_
    have kx_18 : x673 = (-1 : Int32) := h672
    refine lv_icmp_ne (tgt := 23) hx hb dX7_sealOf_18 (by decide) (fun c_18 => ?_) (fun c_18 => ?_)
    · exact absurd (by rw [kx_18]; try decide) c_18
    · refine lv_iconst (v := (-1 : Int32)) hx hb dX7_sealOf_21 (by decide) ?_
      exact RET _ _ _ _ _ _ _ HX677 dX7_sealOf_22 (⟨rfl, rfl⟩)
set_option maxHeartbeats 4000000 in
set_option maxRecDepth 100000 in
theorem p1n_trace (l : Launch) (G : fa_G) (n : Nat) (hn : 406 ≤ n) (v : fa_V) (r : fa_R) (hM : fa_RM r) (hF : fa_FM v) (a1 : Int32) (a2 : Int32) : fa_MI l G n yX7_trace cX7_trace 3 (some .int) 2 [.ref (fa_B G + (397)), .int (a1), .int (a2)] v r (fun x w => w = (v, r) ∧ (x = if a1 < 0 ∨ a2 < 0 ∨ ¬ a2 < nI 5 then (-2 : Int32) else (-6 : Int32))) := by
  refine fa_startI (by decide +kernel) (Nat.le_of_ble_eq_true rfl) (fun p e s m args below meth c ls Q CX hl HX RET => ?_)
  have hl : lv_has ls 3 [(0, .ref (fa_B G + (397))), (1, .int (a1)), (2, .int (a2))] := hl
  have hx := CX.1.1
  have hb := CX.1.2.1
  refine lv_iload_n hx hb dX7_trace_0 rfl (lv_at hl 1 rfl) ?_
  refine lv_if_lt (tgt := 13) hx hb dX7_trace_1 (by decide) (fun c_1 => ?_) (fun c_1 => ?_)
  · refine lv_bipush (v := (-2 : Int32)) hx hb dX7_trace_13 (by decide) ?_
    exact RET _ _ _ _ _ _ _ HX dX7_trace_15 (⟨rfl, (by simp [c_1])⟩)
  · refine lv_iload_n hx hb dX7_trace_4 rfl (lv_at hl 2 rfl) ?_
    refine lv_iconst (v := nI (0)) hx hb dX7_trace_5 (by decide) ?_
    refine lv_iconst (v := nI (4)) hx hb dX7_trace_6 (by decide) ?_
    refine fa_callSip (As := [.int (a2), .int (nI (0)), .int (nI (4))]) (rest := []) CX HX (c_X7_in l G n v r (a2) (nI (0)) (nI (4))) ln_X7_86 rfl rfl (Nat.le_of_ble_eq_true rfl) hl.1 ⟨Nat.le_of_ble_eq_true rfl, Nat.le_of_ble_eq_true rfl⟩ ⟨Nat.le_refl _, Nat.le_refl _⟩ dX7_trace_7 (fun x679 H locs h678 HX680 => ?_)
    have h_in_7 := h678
    refine lv_if_ne (tgt := 16) hx hb dX7_trace_10 (by decide) (fun c_10 => ?_) (fun c_10 => ?_)
    · refine lv_iload_n hx hb dX7_trace_16 rfl (lv_at hl 1 rfl) ?_
      refine lv_aload_n hx hb dX7_trace_17 rfl (lv_at hl 0 rfl) ?_
      refine fa_getr (k := 397) (j := 398) CX HX680 fl_X7_7 (by omega) rfl rfl hM.1 dX7_trace_18 ?_
      refine lv_bipush (v := nI (16)) hx hb dX7_trace_21 (by decide) ?_
      refine fa_iald (k := 398) (j := 16) CX HX680 (by omega) rfl (by omega) (by first | decide | assumption) dX7_trace_23 ?_
      refine lv_icmp_ge (tgt := 54) hx hb dX7_trace_24 (by decide) (fun c_24 => ?_) (fun c_24 => ?_)
      · refine lv_bipush (v := (-6 : Int32)) hx hb dX7_trace_54 (by decide) ?_
        exact RET _ _ _ _ _ _ _ HX680 dX7_trace_56 (⟨rfl, (by rw [if_neg (fun y => y.elim c_1 (fun y => fa_in1 h_in_7 c_10 (y.elim Or.inl (fun y => Or.inr ((fa_ltS (by decide)).mpr y)))))])⟩)
      · exact absurd (by rw [(hF.1 16 (by decide) (by decide))]; exact Int32.not_lt.mp c_1) c_24
    · refine lv_bipush (v := (-2 : Int32)) hx hb dX7_trace_13 (by decide) ?_
      exact RET _ _ _ _ _ _ _ HX680 dX7_trace_15 (⟨rfl, (by have z := fa_in0 h_in_7 c_10; rw [if_pos (by rcases z with z | z; exact Or.inr (Or.inl z); exact Or.inr (Or.inr ((fa_ltS (by decide)).mp z)))])⟩)
set_option maxHeartbeats 4000000 in
set_option maxRecDepth 100000 in
theorem p1n_reservation (l : Launch) (G : fa_G) (n : Nat) (hn : 406 ≤ n) (v : fa_V) (r : fa_R) (hM : fa_RM r) (hF : fa_FM v) (a1 : Int32) (a2 : Int32) : fa_MI l G n yX7_reservation cX7_reservation 5 (some .int) 3 [.ref (fa_B G + (397)), .int (a1), .int (a2)] v r (fun x w => w = (v, r) ∧ (x = if a1 < 0 ∨ a2 < 0 ∨ ¬ a2 ≤ nI 1 then (-2 : Int32) else (-6 : Int32))) := by
  refine fa_startI (by decide +kernel) (Nat.le_of_ble_eq_true rfl) (fun p e s m args below meth c ls Q CX hl HX RET => ?_)
  have hl : lv_has ls 5 [(0, .ref (fa_B G + (397))), (1, .int (a1)), (2, .int (a2))] := hl
  have hx := CX.1.1
  have hb := CX.1.2.1
  refine lv_iload_n hx hb dX7_reservation_0 rfl (lv_at hl 1 rfl) ?_
  refine lv_if_lt (tgt := 13) hx hb dX7_reservation_1 (by decide) (fun c_1 => ?_) (fun c_1 => ?_)
  · refine lv_bipush (v := (-2 : Int32)) hx hb dX7_reservation_13 (by decide) ?_
    exact RET _ _ _ _ _ _ _ HX dX7_reservation_15 (⟨rfl, (by simp [c_1])⟩)
  · refine lv_iload_n hx hb dX7_reservation_4 rfl (lv_at hl 2 rfl) ?_
    refine lv_iconst (v := nI (0)) hx hb dX7_reservation_5 (by decide) ?_
    refine lv_iconst (v := nI (1)) hx hb dX7_reservation_6 (by decide) ?_
    refine fa_callSip (As := [.int (a2), .int (nI (0)), .int (nI (1))]) (rest := []) CX HX (c_X7_in l G n v r (a2) (nI (0)) (nI (1))) ln_X7_86 rfl rfl (Nat.le_of_ble_eq_true rfl) hl.1 ⟨Nat.le_of_ble_eq_true rfl, Nat.le_of_ble_eq_true rfl⟩ ⟨Nat.le_refl _, Nat.le_refl _⟩ dX7_reservation_7 (fun x682 H locs h681 HX683 => ?_)
    have h_in_7 := h681
    refine lv_if_ne (tgt := 16) hx hb dX7_reservation_10 (by decide) (fun c_10 => ?_) (fun c_10 => ?_)
    · refine lv_bipush (v := (-6 : Int32)) hx hb dX7_reservation_16 (by decide) ?_
      refine lv_istore_n (lv' := [(3, .int ((-6 : Int32))), (0, .ref (fa_B G + (397))), (1, .int (a1)), (2, .int (a2))]) hx hb dX7_reservation_18 rfl hl (by decide) rfl (fun ls hl => ?_)
      refine lv_iconst (v := nI (0)) hx hb dX7_reservation_19 (by decide) ?_
      refine lv_istore (lv' := [(4, .int (nI (0))), (3, .int ((-6 : Int32))), (0, .ref (fa_B G + (397))), (1, .int (a1)), (2, .int (a2))]) hx hb dX7_reservation_20 hl (by decide) rfl (fun ls hl => ?_)
      refine lv_iload hx hb dX7_reservation_22 (lv_at hl 0 rfl) ?_
      refine lv_aload_n hx hb dX7_reservation_24 rfl (lv_at hl 2 rfl) ?_
      refine fa_getr (k := 397) (j := 398) CX HX683 fl_X7_7 (by omega) rfl rfl hM.1 dX7_reservation_25 ?_
      refine lv_bipush (v := nI (15)) hx hb dX7_reservation_28 (by decide) ?_
      refine fa_iald (k := 398) (j := 15) CX HX683 (by omega) rfl (by omega) (by first | decide | assumption) dX7_reservation_30 ?_
      have ky_31 : v 398 15 = (0 : Int32) := (hF.1 15 (by decide) (by decide))
      refine lv_icmp_ge (tgt := 70) hx hb dX7_reservation_31 (by decide) (fun c_31 => ?_) (fun c_31 => ?_)
      · refine lv_iload_n hx hb dX7_reservation_70 rfl (lv_at hl 1 rfl) ?_
        exact RET _ _ _ _ _ _ _ HX683 dX7_reservation_71 (⟨rfl, (by rw [if_neg (fun y => y.elim c_1 (fun y => fa_in1 h_in_7 c_10 (y.elim Or.inl (fun y => Or.inr (Int32.not_le.mp y)))))])⟩)
      · exact absurd (by rw [ky_31]; try decide) c_31
    · refine lv_bipush (v := (-2 : Int32)) hx hb dX7_reservation_13 (by decide) ?_
      exact RET _ _ _ _ _ _ _ HX683 dX7_reservation_15 (⟨rfl, (by have z := fa_in0 h_in_7 c_10; rw [if_pos (by rcases z with z | z; exact Or.inr (Or.inl z); exact Or.inr (Or.inr (Int32.not_le.mpr z)))])⟩)
set_option maxHeartbeats 4000000 in
set_option maxRecDepth 100000 in
theorem p1n_setting (l : Launch) (G : fa_G) (n : Nat) (hn : 406 ≤ n) (v : fa_V) (r : fa_R) (hM : fa_RM r) (hF : fa_FM v) (a1 : Int32) : fa_MI l G n yX7_setting cX7_setting 2 (some .int) 2 [.ref (fa_B G + (397)), .int (a1)] v r (fun x w => w = (v, r) ∧ (x = if a1 < 0 ∨ ¬ a1 < nI 7 then (-1 : Int32) else fa_stV 0 a1.toNatClampNeg)) := by
  refine fa_startI (by decide +kernel) (Nat.le_of_ble_eq_true rfl) (fun p e s m args below meth c ls Q CX hl HX RET => ?_)
  have hl : lv_has ls 2 [(0, .ref (fa_B G + (397))), (1, .int (a1))] := hl
  have hx := CX.1.1
  have hb := CX.1.2.1
  refine lv_iload_n hx hb dX7_setting_0 rfl (lv_at hl 1 rfl) ?_
  refine lv_iconst (v := nI (0)) hx hb dX7_setting_1 (by decide) ?_
  refine lv_bipush (v := nI (6)) hx hb dX7_setting_2 (by decide) ?_
  refine fa_callSip (As := [.int (a1), .int (nI (0)), .int (nI (6))]) (rest := []) CX HX (c_X7_in l G n v r (a1) (nI (0)) (nI (6))) ln_X7_86 rfl rfl (Nat.le_of_ble_eq_true rfl) hl.1 ⟨Nat.le_of_ble_eq_true rfl, Nat.le_of_ble_eq_true rfl⟩ ⟨Nat.le_refl _, Nat.le_refl _⟩ dX7_setting_4 (fun x685 H locs h684 HX686 => ?_)
  have h_in_4 := h684
  refine lv_if_eq (tgt := 19) hx hb dX7_setting_7 (by decide) (fun c_7 => ?_) (fun c_7 => ?_)
  · refine lv_iconst (v := (-1 : Int32)) hx hb dX7_setting_19 (by decide) ?_
    exact RET _ _ _ _ _ _ _ HX686 dX7_setting_20 (⟨rfl, (by rw [if_pos (fa_set6n (fa_in0 h_in_4 c_7))])⟩)
  · obtain ⟨j, hj7, ej⟩ := fa_ix7 (by decide) (fa_set6 (fa_in1 h_in_4 c_7))
    have hjc : a1.toNatClampNeg = j := by rw [ej]; exact nI_clamp (by omega)
    refine lv_aload_n hx hb dX7_setting_10 rfl (lv_at hl 0 rfl) ?_
    refine fa_getr (k := 397) (j := 398) CX HX686 fl_X7_7 (by omega) rfl rfl hM.1 dX7_setting_11 ?_
    refine lv_iload_n hx hb dX7_setting_14 rfl (lv_at hl 1 rfl) ?_
    rw [show a1 = nI (j) from ej]
    refine fa_iald (k := 398) (j := j) CX HX686 (by omega) rfl (by omega) (by first | decide | assumption) dX7_setting_15 ?_
    refine lv_goto (tgt := 20) hx hb dX7_setting_16 (by decide) ?_
    exact RET _ _ _ _ _ _ _ HX686 dX7_setting_20 (⟨rfl, (by rw [if_neg (fa_set6 (fa_in1 h_in_4 c_7)), hjc]; exact hF.2.1 j hj7)⟩)
set_option maxHeartbeats 4000000 in
set_option maxRecDepth 100000 in
theorem p1n_meanAge (l : Launch) (G : fa_G) (n : Nat) (hn : 406 ≤ n) (v : fa_V) (r : fa_R) (hM : fa_RM r) (hF : fa_FM v) : fa_MF l G n yX7_meanAge cX7_meanAge 3 3 [.ref (fa_B G + (397))] v r (fun x w => w = (v, r) ∧ (x = FP.fconst0)) := by
  refine fa_startF (by decide +kernel) (Nat.le_of_ble_eq_true rfl) (fun p e s m args below meth c ls Q CX hl HX RET => ?_)
  have hl : lv_has ls 3 [(0, .ref (fa_B G + (397)))] := hl
  have hx := CX.1.1
  have hb := CX.1.2.1
  refine lv_iconst (v := nI (0)) hx hb dX7_meanAge_0 (by decide) ?_
  refine lv_istore_n (lv' := [(1, .int (nI (0))), (0, .ref (fa_B G + (397)))]) hx hb dX7_meanAge_1 rfl hl (by decide) rfl (fun ls hl => ?_)
  refine lv_iconst (v := nI (0)) hx hb dX7_meanAge_2 (by decide) ?_
  refine lv_istore_n (lv' := [(2, .int (nI (0))), (1, .int (nI (0))), (0, .ref (fa_B G + (397)))]) hx hb dX7_meanAge_3 rfl hl (by decide) rfl (fun ls hl => ?_)
  refine lv_iload_n hx hb dX7_meanAge_4 rfl (lv_at hl 0 rfl) ?_
  refine lv_aload_n hx hb dX7_meanAge_5 rfl (lv_at hl 2 rfl) ?_
  refine fa_getr (k := 397) (j := 398) CX HX fl_X7_7 (by omega) rfl rfl hM.1 dX7_meanAge_6 ?_
  refine lv_bipush (v := nI (14)) hx hb dX7_meanAge_9 (by decide) ?_
  refine fa_iald (k := 398) (j := 14) CX HX (by omega) rfl (by omega) (by first | decide | assumption) dX7_meanAge_11 ?_
  have ky_12 : v 398 14 = (0 : Int32) := (hF.1 14 (by decide) (by decide))
  refine lv_icmp_ge (tgt := 43) hx hb dX7_meanAge_12 (by decide) (fun c_12 => ?_) (fun c_12 => ?_)
  · refine lv_aload_n hx hb dX7_meanAge_43 rfl (lv_at hl 2 rfl) ?_
    refine fa_getr (k := 397) (j := 398) CX HX fl_X7_7 (by omega) rfl rfl hM.1 dX7_meanAge_44 ?_
    refine lv_bipush (v := nI (14)) hx hb dX7_meanAge_47 (by decide) ?_
    refine fa_iald (k := 398) (j := 14) CX HX (by omega) rfl (by omega) (by first | decide | assumption) dX7_meanAge_49 ?_
    have kx_50 : v 398 14 = (0 : Int32) := (hF.1 14 (by decide) (by decide))
    refine lv_if_ne (tgt := 57) hx hb dX7_meanAge_50 (by decide) (fun c_50 => ?_) (fun c_50 => ?_)
    · exact absurd (by rw [kx_50]; try decide) c_50
    · refine lv_fconst0 hx hb dX7_meanAge_53 ?_
      refine lv_goto (tgt := 68) hx hb dX7_meanAge_54 (by decide) ?_
      exact RET _ _ _ _ _ _ _ HX dX7_meanAge_68 (⟨rfl, rfl⟩)
  · exact absurd (by rw [ky_12]; try decide) c_12
set_option maxHeartbeats 4000000 in
set_option maxRecDepth 100000 in
theorem p1n_stays (l : Launch) (G : fa_G) (n : Nat) (hn : 406 ≤ n) (v : fa_V) (r : fa_R) (hM : fa_RM r) (hF : fa_FM v) (a1 : Int32) : fa_MI l G n yX7_stays cX7_stays 4 (some .int) 4 [.ref (fa_B G + (397)), .int (a1)] v r (fun x w => w = (v, r) ∧ (x = (-1 : Int32))) := by
  refine fa_startI (by decide +kernel) (Nat.le_of_ble_eq_true rfl) (fun p e s m args below meth c ls Q CX hl HX RET => ?_)
  have hl : lv_has ls 4 [(0, .ref (fa_B G + (397))), (1, .int (a1))] := hl
  have hx := CX.1.1
  have hb := CX.1.2.1
  refine lv_aload_n hx hb dX7_stays_0 rfl (lv_at hl 0 rfl) ?_
  refine lv_iload_n hx hb dX7_stays_1 rfl (lv_at hl 1 rfl) ?_
  refine fa_callVip (As := [.int (a1)]) (rest := []) CX HX (p1m_placeOf l G n hn v r hM (a1) (hF.1 14 (by decide) (by decide))) ln_X7_60 (by omega) rfl rfl rfl rfl (Nat.le_of_ble_eq_true rfl) hl.1 ⟨Nat.le_of_ble_eq_true rfl, Nat.le_of_ble_eq_true rfl⟩ ⟨Nat.le_refl _, Nat.le_refl _⟩ dX7_stays_2 (fun x688 H locs h687 HX689 => ?_)
  have hv_placeOf := h687
  refine lv_istore_n (lv' := [(2, .int (x688)), (0, .ref (fa_B G + (397))), (1, .int (a1))]) hx hb dX7_stays_5 rfl hl (by decide) rfl (fun ls hl => ?_)
  refine lv_iload_n hx hb dX7_stays_6 rfl (lv_at hl 0 rfl) ?_
  refine lv_iconst (v := (-1 : Int32)) hx hb dX7_stays_7 (by decide) ?_
  have kx_8 : x688 = (-1 : Int32) := h687
  refine lv_icmp_ne (tgt := 13) hx hb dX7_stays_8 (by decide) (fun c_8 => ?_) (fun c_8 => ?_)
  · exact absurd (by rw [kx_8]; try decide) c_8
  · refine lv_iconst (v := (-1 : Int32)) hx hb dX7_stays_11 (by decide) ?_
    exact RET _ _ _ _ _ _ _ HX689 dX7_stays_12 (⟨rfl, rfl⟩)
set_option maxHeartbeats 4000000 in
set_option maxRecDepth 100000 in
theorem p1n_keeper (l : Launch) (G : fa_G) (n : Nat) (hn : 406 ≤ n) (v : fa_V) (r : fa_R) (hM : fa_RM r) (hF : fa_FM v) (a1 : Int32) : fa_MI l G n yX7_keeper cX7_keeper 5 (some .int) 5 [.ref (fa_B G + (397)), .int (a1)] v r (fun x w => w = (v, r) ∧ (x = (-1 : Int32))) := by
  refine fa_startI (by decide +kernel) (Nat.le_of_ble_eq_true rfl) (fun p e s m args below meth c ls Q CX hl HX RET => ?_)
  have hl : lv_has ls 5 [(0, .ref (fa_B G + (397))), (1, .int (a1))] := hl
  have hx := CX.1.1
  have hb := CX.1.2.1
  refine lv_aload_n hx hb dX7_keeper_0 rfl (lv_at hl 0 rfl) ?_
  refine lv_iload_n hx hb dX7_keeper_1 rfl (lv_at hl 1 rfl) ?_
  refine fa_callVip (As := [.int (a1)]) (rest := []) CX HX (p1n_stays l G n hn v r hM hF (a1)) ln_X7_168 (by omega) rfl rfl rfl rfl (Nat.le_of_ble_eq_true rfl) hl.1 ⟨Nat.le_of_ble_eq_true rfl, Nat.le_of_ble_eq_true rfl⟩ ⟨Nat.le_refl _, Nat.le_refl _⟩ dX7_keeper_2 (fun x691 H locs h690 HX692 => ?_)
  have hv_stays := h690
  refine lv_istore_n (lv' := [(2, .int (x691)), (0, .ref (fa_B G + (397))), (1, .int (a1))]) hx hb dX7_keeper_5 rfl hl (by decide) rfl (fun ls hl => ?_)
  refine lv_iload_n hx hb dX7_keeper_6 rfl (lv_at hl 0 rfl) ?_
  refine lv_iconst (v := nI (4)) hx hb dX7_keeper_7 (by decide) ?_
  have kx_8 : x691 = (-1 : Int32) := h690
  refine lv_icmp_eq (tgt := 23) hx hb dX7_keeper_8 (by decide) (fun c_8 => ?_) (fun c_8 => ?_)
  · exact absurd c_8 (by rw [kx_8]; try decide)
  · refine lv_iload_n hx hb dX7_keeper_11 rfl (lv_at hl 0 rfl) ?_
    refine lv_iconst (v := (-1 : Int32)) hx hb dX7_keeper_12 (by decide) ?_
    have kx_13 : x691 = (-1 : Int32) := h690
    refine lv_icmp_ne (tgt := 20) hx hb dX7_keeper_13 (by decide) (fun c_13 => ?_) (fun c_13 => ?_)
    · exact absurd (by rw [kx_13]; try decide) c_13
    · refine lv_iconst (v := (-1 : Int32)) hx hb dX7_keeper_16 (by decide) ?_
      refine lv_goto (tgt := 22) hx hb dX7_keeper_17 (by decide) ?_
      exact RET _ _ _ _ _ _ _ HX692 dX7_keeper_22 (⟨rfl, rfl⟩)
set_option maxHeartbeats 4000000 in
set_option maxRecDepth 100000 in
theorem p1n_burntIn (l : Launch) (G : fa_G) (n : Nat) (hn : 406 ≤ n) (v : fa_V) (r : fa_R) (hM : fa_RM r) (hF : fa_FM v) (a1 : Int32) : fa_MI l G n yX7_burntIn cX7_burntIn 4 (some .int) 5 [.ref (fa_B G + (397)), .int (a1)] v r (fun x w => w = (v, r) ∧ (x = (-1 : Int32))) := by
  refine fa_startI (by decide +kernel) (Nat.le_of_ble_eq_true rfl) (fun p e s m args below meth c ls Q CX hl HX RET => ?_)
  have hl : lv_has ls 4 [(0, .ref (fa_B G + (397))), (1, .int (a1))] := hl
  have hx := CX.1.1
  have hb := CX.1.2.1
  refine lv_aload_n hx hb dX7_burntIn_0 rfl (lv_at hl 0 rfl) ?_
  refine lv_iload_n hx hb dX7_burntIn_1 rfl (lv_at hl 1 rfl) ?_
  refine fa_callVip (As := [.int (a1)]) (rest := []) CX HX (p1m_placeOf l G n hn v r hM (a1) (hF.1 14 (by decide) (by decide))) ln_X7_60 (by omega) rfl rfl rfl rfl (Nat.le_of_ble_eq_true rfl) hl.1 ⟨Nat.le_of_ble_eq_true rfl, Nat.le_of_ble_eq_true rfl⟩ ⟨Nat.le_refl _, Nat.le_refl _⟩ dX7_burntIn_2 (fun x694 H locs h693 HX695 => ?_)
  have hv_placeOf := h693
  refine lv_iconst (v := (-1 : Int32)) hx hb dX7_burntIn_5 (by decide) ?_
  have kx_6 : x694 = (-1 : Int32) := h693
  refine lv_icmp_ne (tgt := 11) hx hb dX7_burntIn_6 (by decide) (fun c_6 => ?_) (fun c_6 => ?_)
  · exact absurd (by rw [kx_6]; try decide) c_6
  · refine lv_iconst (v := (-1 : Int32)) hx hb dX7_burntIn_9 (by decide) ?_
    exact RET _ _ _ _ _ _ _ HX695 dX7_burntIn_10 (⟨rfl, rfl⟩)
set_option maxHeartbeats 4000000 in
set_option maxRecDepth 100000 in
theorem p1n_ifPassed (l : Launch) (G : fa_G) (n : Nat) (hn : 406 ≤ n) (v : fa_V) (r : fa_R) (hM : fa_RM r) (hF : fa_FM v) (a1 : Int32) (a2 : Int32) : fa_MI l G n yX7_ifPassed cX7_ifPassed 5 (some .int) 5 [.ref (fa_B G + (397)), .int (a1), .int (a2)] v r (fa_voi r (fun x v1 => (x = if a1 < nI 1 ∨ nI 400 < a1 ∨ a2 < 0 ∨ ¬ a2 ≤ nI 2 then (-2 : Int32) else 0) ∧ (fa_fr (397) (406) v v1))) := by
  refine fa_startI (by decide +kernel) (Nat.le_of_ble_eq_true rfl) (fun p e s m args below meth c ls Q CX hl HX RET => ?_)
  have hl : lv_has ls 5 [(0, .ref (fa_B G + (397))), (1, .int (a1)), (2, .int (a2))] := hl
  have hx := CX.1.1
  have hb := CX.1.2.1
  refine lv_iload_n hx hb dX7_ifPassed_0 rfl (lv_at hl 1 rfl) ?_
  refine lv_iconst (v := nI (1)) hx hb dX7_ifPassed_1 (by decide) ?_
  refine lv_sipush (v := nI (400)) hx hb dX7_ifPassed_2 (by decide) ?_
  refine fa_callSip (As := [.int (a1), .int (nI (1)), .int (nI (400))]) (rest := []) CX HX (c_X7_in l G n v r (a1) (nI (1)) (nI (400))) ln_X7_86 rfl rfl (Nat.le_of_ble_eq_true rfl) hl.1 ⟨Nat.le_of_ble_eq_true rfl, Nat.le_of_ble_eq_true rfl⟩ ⟨Nat.le_refl _, Nat.le_refl _⟩ dX7_ifPassed_5 (fun x697 H locs h696 HX698 => ?_)
  have h_in_5 := h696
  refine lv_if_eq (tgt := 20) hx hb dX7_ifPassed_8 (by decide) (fun c_8 => ?_) (fun c_8 => ?_)
  · refine lv_bipush (v := (-2 : Int32)) hx hb dX7_ifPassed_20 (by decide) ?_
    exact RET _ _ _ _ _ _ _ HX698 dX7_ifPassed_22 (⟨rfl, ⟨(by have z := fa_in0 h_in_5 c_8; rw [if_pos (by rcases z with z | z; exact Or.inl z; exact Or.inr (Or.inl z))]), fa_fr.rf⟩⟩)
  · refine lv_iload_n hx hb dX7_ifPassed_11 rfl (lv_at hl 2 rfl) ?_
    refine lv_iconst (v := nI (0)) hx hb dX7_ifPassed_12 (by decide) ?_
    refine lv_iconst (v := nI (2)) hx hb dX7_ifPassed_13 (by decide) ?_
    refine fa_callSip (As := [.int (a2), .int (nI (0)), .int (nI (2))]) (rest := []) CX HX698 (c_X7_in l G n v r (a2) (nI (0)) (nI (2))) ln_X7_86 rfl rfl (Nat.le_of_ble_eq_true rfl) hl.1 ⟨Nat.le_of_ble_eq_true rfl, Nat.le_of_ble_eq_true rfl⟩ ⟨Nat.le_refl _, Nat.le_refl _⟩ dX7_ifPassed_14 (fun x700 H locs h699 HX701 => ?_)
    have h_in_14 := h699
    refine lv_if_ne (tgt := 23) hx hb dX7_ifPassed_17 (by decide) (fun c_17 => ?_) (fun c_17 => ?_)
    · have hin1 := fa_in1 h_in_5 c_8
      obtain ⟨ka, hka1, hka, eka⟩ := fa_natIn (by decide) (fun z => hin1 (Or.inl z)) (Int32.not_lt.mp (fun z => hin1 (Or.inr z)))
      refine lv_aload_n hx hb dX7_ifPassed_23 rfl (lv_at hl 0 rfl) ?_
      refine fa_callVvu (As := []) (rest := []) CX HX701 (p1m_keepTrial l G n hn v r hM  ) ln_X7_171 (by omega) rfl rfl rfl rfl (Nat.le_of_ble_eq_true rfl) hl.1 ⟨Nat.le_of_ble_eq_true rfl, Nat.le_of_ble_eq_true rfl⟩ ⟨Nat.le_refl _, Nat.le_refl _⟩ dX7_ifPassed_24 (fun v703 H locs h702 HX704 => ?_)
      have h_keepTrial := h702.1
      refine lv_iconst (v := nI (0)) hx hb dX7_ifPassed_27 (by decide) ?_
      refine lv_istore_n (lv' := [(3, .int (nI (0))), (0, .ref (fa_B G + (397))), (1, .int (a1)), (2, .int (a2))]) hx hb dX7_ifPassed_28 rfl hl (by decide) rfl (fun ls hl => ?_)
      have LOOP_29 : ∀ (fu : Nat) (j : Nat) (v705 : fa_V) (H : Heap) (locs : List Loc) (ls : Array Slot), ka - j < fu → (j ≤ ka ∧ (v705 398 14 = 0 ∧ v705 398 15 = 0 ∧ (∀ i, 7 < i → i < 17 → ¬ i = 13 → v705 398 i = 0) ∧ fa_fr 398 399 v703 v705)) → lv_has ls 5 [(0, .ref (fa_B G + (397))), (1, .int (a1)), (2, .int (a2)), (3, .int (nI (j)))] → fa_HX G (n) v705 r s H locs → W p l e (fa_rm 5) s m args below meth c H locs (0) (0) Q (F0 m 29 ls []) := by
        intro fu
        induction fu with
        | zero => intro j v705 H locs ls hk; exact absurd hk (Nat.not_lt_zero _)
        | succ fu ih_29 =>
          intro j v705 H locs ls hk_29 hi_29 hl HX706
          have hq := hi_29.2
          refine lv_iload_n hx hb dX7_ifPassed_29 rfl (lv_at hl 3 rfl) ?_
          refine lv_iload_n hx hb dX7_ifPassed_30 rfl (lv_at hl 1 rfl) ?_
          refine lv_icmp_ge (tgt := 46) hx hb dX7_ifPassed_31 (by decide) (fun c_31 => ?_) (fun c_31 => ?_)
          · refine lv_iload_n hx hb dX7_ifPassed_46 rfl (lv_at hl 2 rfl) ?_
            refine lv_if_ne (tgt := 68) hx hb dX7_ifPassed_47 (by decide) (fun c_47 => ?_) (fun c_47 => ?_)
            · refine lv_iload_n hx hb dX7_ifPassed_68 rfl (lv_at hl 2 rfl) ?_
              refine lv_iconst (v := nI (1)) hx hb dX7_ifPassed_69 (by decide) ?_
              refine lv_icmp_ne (tgt := 91) hx hb dX7_ifPassed_70 (by decide) (fun c_70 => ?_) (fun c_70 => ?_)
              · refine lv_aload_n hx hb dX7_ifPassed_91 rfl (lv_at hl 0 rfl) ?_
                refine fa_getr (k := 397) (j := 398) CX HX706 fl_X7_7 (by omega) rfl rfl hM.1 dX7_ifPassed_92 ?_
                refine lv_bipush (v := nI (11)) hx hb dX7_ifPassed_95 (by decide) ?_
                refine fa_iald (k := 398) (j := 11) CX HX706 (by omega) rfl (by omega) (by first | decide | assumption) dX7_ifPassed_97 ?_
                refine lv_aload_n hx hb dX7_ifPassed_98 rfl (lv_at hl 0 rfl) ?_
                refine fa_getr (k := 397) (j := 400) CX HX706 fl_X7_16 (by omega) rfl rfl hM.2.2.1 dX7_ifPassed_99 ?_
                refine lv_bipush (v := nI (11)) hx hb dX7_ifPassed_102 (by decide) ?_
                refine fa_iald (k := 400) (j := 11) CX HX706 (by omega) rfl (by omega) (by first | decide | assumption) dX7_ifPassed_104 ?_
                refine lv_isub hx hb dX7_ifPassed_105 ?_
                refine lv_istore_n (lv' := [(3, .int ((v705 398 11) - (v705 400 11))), (0, .ref (fa_B G + (397))), (1, .int (a1)), (2, .int (a2))]) hx hb dX7_ifPassed_106 rfl hl (by decide) rfl (fun ls hl => ?_)
                refine lv_aload_n hx hb dX7_ifPassed_107 rfl (lv_at hl 1 rfl) ?_
                refine fa_callVvu (As := []) (rest := []) CX HX706 (p1m_putBack l G n hn v705 r hM  ) ln_X7_174 (by omega) rfl rfl rfl rfl (Nat.le_of_ble_eq_true rfl) hl.1 ⟨Nat.le_of_ble_eq_true rfl, Nat.le_of_ble_eq_true rfl⟩ ⟨Nat.le_refl _, Nat.le_refl _⟩ dX7_ifPassed_108 (fun v708 H locs h707 HX709 => ?_)
                have h_putBack := h707.1
                refine lv_iload_n hx hb dX7_ifPassed_111 rfl (lv_at hl 0 rfl) ?_
                exact RET _ _ _ _ _ _ _ HX709 dX7_ifPassed_112 (⟨rfl, ⟨(by rw [if_neg (fa_ip (fa_in1 h_in_5 c_8) (fa_in1 h_in_14 c_17)), hq.2.2.1 11 (by decide) (by decide) (by decide), hq.2.2.2 400 (by omega), h_keepTrial 11 (by decide), (hF.1 11 (by decide) (by decide))]; rfl), (fa_fr.tr (fa_fr.tr (fa_fr.tr fa_fr.rf (fa_fr.wide h702.2 (by omega) (by omega))) (fa_fr.wide hi_29.2.2.2.2 (by omega) (by omega))) (fa_fr.wide h707.2 (by omega) (by omega)))⟩⟩)
              · refine lv_aload_n hx hb dX7_ifPassed_73 rfl (lv_at hl 0 rfl) ?_
                refine fa_getr (k := 397) (j := 398) CX HX706 fl_X7_7 (by omega) rfl rfl hM.1 dX7_ifPassed_74 ?_
                refine lv_bipush (v := nI (10)) hx hb dX7_ifPassed_77 (by decide) ?_
                refine fa_iald (k := 398) (j := 10) CX HX706 (by omega) rfl (by omega) (by first | decide | assumption) dX7_ifPassed_79 ?_
                refine lv_aload_n hx hb dX7_ifPassed_80 rfl (lv_at hl 0 rfl) ?_
                refine fa_getr (k := 397) (j := 400) CX HX706 fl_X7_16 (by omega) rfl rfl hM.2.2.1 dX7_ifPassed_81 ?_
                refine lv_bipush (v := nI (10)) hx hb dX7_ifPassed_84 (by decide) ?_
                refine fa_iald (k := 400) (j := 10) CX HX706 (by omega) rfl (by omega) (by first | decide | assumption) dX7_ifPassed_86 ?_
                refine lv_isub hx hb dX7_ifPassed_87 ?_
                refine lv_goto (tgt := 106) hx hb dX7_ifPassed_88 (by decide) ?_
                refine lv_istore_n (lv' := [(3, .int ((v705 398 10) - (v705 400 10))), (0, .ref (fa_B G + (397))), (1, .int (a1)), (2, .int (a2))]) hx hb dX7_ifPassed_106 rfl hl (by decide) rfl (fun ls hl => ?_)
                refine lv_aload_n hx hb dX7_ifPassed_107 rfl (lv_at hl 1 rfl) ?_
                refine fa_callVvu (As := []) (rest := []) CX HX706 (p1m_putBack l G n hn v705 r hM  ) ln_X7_174 (by omega) rfl rfl rfl rfl (Nat.le_of_ble_eq_true rfl) hl.1 ⟨Nat.le_of_ble_eq_true rfl, Nat.le_of_ble_eq_true rfl⟩ ⟨Nat.le_refl _, Nat.le_refl _⟩ dX7_ifPassed_108 (fun v711 H locs h710 HX712 => ?_)
                have h_putBack := h710.1
                refine lv_iload_n hx hb dX7_ifPassed_111 rfl (lv_at hl 0 rfl) ?_
                exact RET _ _ _ _ _ _ _ HX712 dX7_ifPassed_112 (⟨rfl, ⟨(by rw [if_neg (fa_ip (fa_in1 h_in_5 c_8) (fa_in1 h_in_14 c_17)), hq.2.2.1 10 (by decide) (by decide) (by decide), hq.2.2.2 400 (by omega), h_keepTrial 10 (by decide), (hF.1 10 (by decide) (by decide))]; rfl), (fa_fr.tr (fa_fr.tr (fa_fr.tr fa_fr.rf (fa_fr.wide h702.2 (by omega) (by omega))) (fa_fr.wide hi_29.2.2.2.2 (by omega) (by omega))) (fa_fr.wide h710.2 (by omega) (by omega)))⟩⟩)
            · refine lv_aload_n hx hb dX7_ifPassed_50 rfl (lv_at hl 0 rfl) ?_
              refine fa_getr (k := 397) (j := 398) CX HX706 fl_X7_7 (by omega) rfl rfl hM.1 dX7_ifPassed_51 ?_
              refine lv_bipush (v := nI (9)) hx hb dX7_ifPassed_54 (by decide) ?_
              refine fa_iald (k := 398) (j := 9) CX HX706 (by omega) rfl (by omega) (by first | decide | assumption) dX7_ifPassed_56 ?_
              refine lv_aload_n hx hb dX7_ifPassed_57 rfl (lv_at hl 0 rfl) ?_
              refine fa_getr (k := 397) (j := 400) CX HX706 fl_X7_16 (by omega) rfl rfl hM.2.2.1 dX7_ifPassed_58 ?_
              refine lv_bipush (v := nI (9)) hx hb dX7_ifPassed_61 (by decide) ?_
              refine fa_iald (k := 400) (j := 9) CX HX706 (by omega) rfl (by omega) (by first | decide | assumption) dX7_ifPassed_63 ?_
              refine lv_isub hx hb dX7_ifPassed_64 ?_
              refine lv_goto (tgt := 106) hx hb dX7_ifPassed_65 (by decide) ?_
              refine lv_istore_n (lv' := [(3, .int ((v705 398 9) - (v705 400 9))), (0, .ref (fa_B G + (397))), (1, .int (a1)), (2, .int (a2))]) hx hb dX7_ifPassed_106 rfl hl (by decide) rfl (fun ls hl => ?_)
              refine lv_aload_n hx hb dX7_ifPassed_107 rfl (lv_at hl 1 rfl) ?_
              refine fa_callVvu (As := []) (rest := []) CX HX706 (p1m_putBack l G n hn v705 r hM  ) ln_X7_174 (by omega) rfl rfl rfl rfl (Nat.le_of_ble_eq_true rfl) hl.1 ⟨Nat.le_of_ble_eq_true rfl, Nat.le_of_ble_eq_true rfl⟩ ⟨Nat.le_refl _, Nat.le_refl _⟩ dX7_ifPassed_108 (fun v714 H locs h713 HX715 => ?_)
              have h_putBack := h713.1
              refine lv_iload_n hx hb dX7_ifPassed_111 rfl (lv_at hl 0 rfl) ?_
              exact RET _ _ _ _ _ _ _ HX715 dX7_ifPassed_112 (⟨rfl, ⟨(by rw [if_neg (fa_ip (fa_in1 h_in_5 c_8) (fa_in1 h_in_14 c_17)), hq.2.2.1 9 (by decide) (by decide) (by decide), hq.2.2.2 400 (by omega), h_keepTrial 9 (by decide), (hF.1 9 (by decide) (by decide))]; rfl), (fa_fr.tr (fa_fr.tr (fa_fr.tr fa_fr.rf (fa_fr.wide h702.2 (by omega) (by omega))) (fa_fr.wide hi_29.2.2.2.2 (by omega) (by omega))) (fa_fr.wide h713.2 (by omega) (by omega)))⟩⟩)
          · have hjk : j < ka := by
              rw [eka] at c_31
              exact fa_ltN (by omega) (by omega) c_31
            refine lv_aload_n hx hb dX7_ifPassed_34 rfl (lv_at hl 0 rfl) ?_
            refine fa_callViu (As := []) (rest := []) CX HX706 (p1m_day l G n hn v705 r hM (hq.1) (hq.2.1)) ln_X7_99 (by omega) rfl rfl rfl rfl (Nat.le_of_ble_eq_true rfl) hl.1 ⟨Nat.le_of_ble_eq_true rfl, Nat.le_of_ble_eq_true rfl⟩ ⟨Nat.le_refl _, Nat.le_refl _⟩ dX7_ifPassed_35 (fun x717 v718 H locs h716 HX719 => ?_)
            have hv_day := h716.1
            have h_day := h716.2.1
            refine lv_istore (lv' := [(4, .int (x717)), (0, .ref (fa_B G + (397))), (1, .int (a1)), (2, .int (a2)), (3, .int (nI (j)))]) hx hb dX7_ifPassed_38 hl (by decide) rfl (fun ls hl => ?_)
            refine lv_iinc (v := nI (j + 1)) (lv' := [(3, .int (nI (j + 1))), (4, .int (x717)), (0, .ref (fa_B G + (397))), (1, .int (a1)), (2, .int (a2))]) hx hb dX7_ifPassed_40 hl (k := 4) rfl (nI_add (j) 1) (by decide) rfl (fun ls hl => ?_)
            refine lv_goto (tgt := 29) hx hb dX7_ifPassed_43 (by decide) ?_
            exact ih_29 (j + 1) v718 _ _ _ (by omega) (⟨by omega, (by rw [h_day 14 (by decide) (by decide)]; exact hq.1), (by rw [h_day 15 (by decide) (by decide)]; exact hq.2.1), (fun i h1 h2 h3 => by rw [h_day i (by omega) h3]; exact hq.2.2.1 i h1 h2 h3), (fa_fr.tr (fa_fr.tr fa_fr.rf (fa_fr.wide hi_29.2.2.2.2 (by omega) (by omega))) (fa_fr.wide h716.2.2 (by omega) (by omega)))⟩) (lv_sub hl [2, 3, 4, 0] rfl) HX719
      exact LOOP_29 (ka - 0 + 1) (0) v703 _ _ _ (Nat.lt_succ_self _) (⟨Nat.zero_le _, (by simp [(hF.1 14 (by decide) (by decide)), h702.2 398 (by omega)] <;> rfl), (by simp [(hF.1 15 (by decide) (by decide)), h702.2 398 (by omega)] <;> rfl), (fun i h1 h2 _ => by rw [h702.2 398 (by decide)]; exact hF.1 i (by omega) h2), fa_fr.rf⟩) (lv_sub hl [1, 2, 3, 0] rfl) HX704
    · refine lv_bipush (v := (-2 : Int32)) hx hb dX7_ifPassed_20 (by decide) ?_
      exact RET _ _ _ _ _ _ _ HX701 dX7_ifPassed_22 (⟨rfl, ⟨(by have z := fa_in0 h_in_14 c_17; rw [if_pos (by rcases z with z | z; exact Or.inr (Or.inr (Or.inl z)); exact Or.inr (Or.inr (Or.inr (Int32.not_le.mpr z))))]), fa_fr.rf⟩⟩)
