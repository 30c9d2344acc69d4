set_option maxHeartbeats 4000000 in
set_option maxRecDepth 100000 in
theorem k_X0_init (l : Launch) (G : fa_G) (v : fa_V) (r : fa_R) (hz : fa_Z0 114 v r) : fa_MN l G (114) yX0_init cX0_init 2 3 281 2665 [.ref (fa_B G + (113))] v r (fun w => (∀ k, ¬ (115 ≤ k ∧ k < 395) → w.1 k = v k) ∧ (∀ k, ¬ (113 ≤ k ∧ k < 395) → w.2 k = r k) ∧ w.2 113 1 = some 114 ∧ (∀ i, i < 5 → w.2 114 i = some (115 + 56 * i)) ∧ (∀ i, i < 5 → fb_RS1 w.2 (115 + 56 * i)) ∧ ∀ q, (∀ p, p < 5 → ¬ q = 115 + 56 * p + 7) → w.1 q = v q) := by
  refine fa_startN (by decide +kernel) (Nat.le_of_ble_eq_true rfl) (by decide +kernel) (fun p e s m args below meth c ls Q CX hl HX hsz hmn RET => ?_)
  have hl : lv_has ls 2 [(0, .ref (fa_B G + (113)))] := hl
  have hx := CX.1.1
  have hb := CX.1.2.1
  refine lv_aload_n hx hb dX0_init_0 rfl (lv_at hl 0 rfl) ?_
  refine fa_objInit CX oi_X0_3 hl.1 dX0_init_1 (Nat.le_of_ble_eq_true rfl) (Nat.le_of_ble_eq_true rfl) ?_
  refine lv_aload_n hx hb dX0_init_4 rfl (lv_at hl 0 rfl) ?_
  refine lv_iconst (v := nI (5)) hx hb dX0_init_5 (by decide) ?_
  refine fa_newq (len := 5) (t := 4) CX HX cl_X0_9 CX.2.2.2.2.2.1 rfl (by decide) (by omega) rfl (fun i => by (exact (hz (114) (by omega)).2 i)) (by decide) (by show 0 + 1 ≤ 281; first | decide | omega) (by show 0 + 5 ≤ 2665; first | decide | omega) dX0_init_6 (fun H HX355 => ?_)
  have HX355 : fa_HX G (115) v r s _ _ := HX355
  refine W.widen (k := 1) (n := 5) (by first | exact Nat.le_refl _ | omega) (by first | exact Nat.le_refl _ | omega) ?_
  refine fa_putr (k := 113) (q := 114) CX HX355 fl_X0_11 own_0 hmn (by omega) rfl rfl rfl rfl dX0_init_9 (fun H locs r356 er357 HX358 => ?_)
  refine lv_iconst (v := nI (0)) hx hb dX0_init_12 (by decide) ?_
  refine lv_istore_n (lv' := [(1, .int (nI (0))), (0, .ref (fa_B G + (113)))]) hx hb dX0_init_13 rfl hl (by decide) rfl (fun ls hl => ?_)
  have LOOP_14 : ∀ (fu : Nat) (j : Nat) (v359 : fa_V) (r360 : fa_R) (H : Heap) (locs : List Loc) (ls : Array Slot), 5 - j < fu → (j ≤ 5 ∧ r360 113 1 = some 114 ∧ (∀ p, p < j → r360 114 p = some (115 + 56 * p)) ∧ (∀ p, p < j → fb_RS1 r360 (115 + 56 * p)) ∧ (∀ q, ¬ (113 ≤ q ∧ q < 115 + 56 * j) → r360 q = r q) ∧ (∀ q, ¬ (115 ≤ q ∧ q < 115 + 56 * j) → v359 q = v q) ∧ ∀ q, (∀ p, p < j → ¬ q = 115 + 56 * p + 7) → v359 q = v q) → lv_has ls 2 [(0, .ref (fa_B G + (113))), (1, .int (nI (j)))] → fa_HX G (115 + 56 * j) v359 r360 s H locs → W p l e ({ frames := 3, cells := 281, slots := 2665, locals := 34 * 3 }) s m args below meth c H locs (1 + 56 * j) (5 + 532 * j) Q (F0 m 14 ls []) := by
    intro fu
    induction fu with
    | zero => intro j v359 r360 H locs ls hk; exact absurd hk (Nat.not_lt_zero _)
    | succ fu ih_14 =>
      intro j v359 r360 H locs ls hk_14 hi_14 hl HX361
      refine lv_iload_n hx hb dX0_init_14 rfl (lv_at hl 1 rfl) ?_
      refine lv_iconst (v := nI (4)) hx hb dX0_init_15 (by decide) ?_
      refine lv_icmp_gt (tgt := 38) hx hb dX0_init_16 (by decide) (fun c_16 => ?_) (fun c_16 => ?_)
      · have hj5 : j = 5 := by
          have := (nI_ltI (by omega) (by omega)).mp c_16
          omega
        subst hj5
        exact RET _ _ _ _ _ _ HX361 dX0_init_38 (⟨(fun k hk => hi_14.2.2.2.2.2.1 k (by omega)), (fun k hk => hi_14.2.2.2.2.1 k (by omega)), hi_14.2.1, hi_14.2.2.1, hi_14.2.2.2.1, hi_14.2.2.2.2.2.2⟩)
      · have hj5 : j < 5 := Nat.lt_succ_of_le (fa_nltN (by omega) (by omega) c_16)
        refine lv_aload_n hx hb dX0_init_19 rfl (lv_at hl 0 rfl) ?_
        refine fa_getr (k := 113) (j := 114) CX HX361 fl_X0_11 (by omega) rfl rfl hi_14.2.1 dX0_init_20 ?_
        refine lv_iload_n hx hb dX0_init_23 rfl (lv_at hl 1 rfl) ?_
        refine fa_new (N := 12) CX HX361 mk_X0_9 (by omega) (fa_s0 (fa_bsH j hj5)) (fun i => by (rw [hi_14.2.2.2.2.2.1 (115 + 56 * j) (by omega)]; exact (hz (115 + 56 * j) (by omega)).1 i)) (fun i => by (rw [hi_14.2.2.2.2.1 (115 + 56 * j) (by omega)]; exact (hz (115 + 56 * j) (by omega)).2 i)) (by show 1 + 56 * j + 1 ≤ 281; first | decide | omega) (by show 5 + 532 * j + 12 ≤ 2665; first | decide | omega) dX0_init_24 (fun H HX362 => ?_)
        have HX362 : fa_HX G (115 + 56 * j + 1) v359 r360 s _ _ := HX362
        refine W.widen (k := 1 + 56 * j + 1) (n := 5 + 532 * j + 12) (by first | exact Nat.le_refl _ | omega) (by first | exact Nat.le_refl _ | omega) ?_
        refine lv_dup hx hb dX0_init_27 rfl ?_
        refine fa_ctorI (rest := [.ref (fa_B G + (115 + 56 * j)), .int (nI (j)), .ref (fa_B G + (114))]) CX HX362 (k_X3_init l G (115 + 56 * j) (fa_bsH j hj5) v359 r360 (fun q hq => ⟨fun i => by (rw [hi_14.2.2.2.2.2.1 q (by omega)]; exact (hz q (by omega)).1 i), fun i => by (rw [hi_14.2.2.2.2.1 q (by omega)]; exact (hz q (by omega)).2 i)⟩)) ln_X0_17 ⟨by decide +kernel, by decide +kernel, by decide +kernel, by decide +kernel⟩ (by omega) (Nat.le_of_ble_eq_true rfl) hl.1 ⟨Nat.le_of_ble_eq_true rfl, Nat.le_of_ble_eq_true rfl⟩ ⟨by show 1 + 56 * j + 1 + 55 ≤ 281; first | decide | omega, by show 5 + 532 * j + 12 + 520 ≤ 2665; first | decide | omega⟩ dX0_init_28 (fun v363 r364 H locs h365 HX366 => ?_)
        dsimp only at h365
        have hs_r364 := h365
        have HX366 : fa_HX G (115 + 56 * j + 56) v363 r364 s _ _ := HX366
        refine W.widen (k := 1 + 56 * j + 56) (n := 5 + 532 * j + 532) (by first | exact Nat.le_refl _ | omega) (by first | exact Nat.le_refl _ | omega) ?_
        refine fa_aast (k := 114) (j := j) (q := 115 + 56 * j) CX HX366 (by omega) rfl rfl (by decide) (by omega) (by first | decide | assumption) (by omega) (fa_s0 (fa_bsH j hj5)) rfl dX0_init_31 (fun H locs r367 e368 HX369 => ?_)
        refine lv_iinc (v := nI (j + 1)) (lv' := [(1, .int (nI (j + 1))), (0, .ref (fa_B G + (113)))]) hx hb dX0_init_32 hl (k := 1) rfl (nI_add (j) 1) (by decide) rfl (fun ls hl => ?_)
        refine lv_goto (tgt := 14) hx hb dX0_init_35 (by decide) ?_
        refine W.widen (k := 1 + 56 * (j + 1)) (n := 5 + 532 * (j + 1)) (by omega) (by omega) ?_
        exact ih_14 (j + 1) v363 r367 _ _ _ (by omega) (⟨by omega, (by rw [e368, fa_u_n _ _ (by omega), hs_r364.2.2.2 113 (by omega)]; exact hi_14.2.1), (fun p hp => by (by_cases z : p = j; (rw [z, e368, fa_u_s]); rw [e368, fa_u_n _ _ (by omega), hs_r364.2.2.2 114 (by omega)]; exact hi_14.2.2.1 p (by omega))), (fun p hp => by (by_cases z : p = j; (rw [z]; exact fb_RS1_cong (fun q h1 h2 => by rw [e368, fa_u_k _ _ (by omega)]) hs_r364.2.2.1); exact fb_RS1_cong (fun q h1 h2 => by rw [e368, fa_u_k _ _ (by omega), hs_r364.2.2.2 q (by omega)]) (hi_14.2.2.2.1 p (by omega)))), (fun q hq => by (rw [e368, fa_u_k _ _ (by omega), hs_r364.2.2.2 q (by omega)]; exact hi_14.2.2.2.2.1 q (by omega))), (fun q hq => by (rw [hs_r364.1 q (by omega)]; exact hi_14.2.2.2.2.2.1 q (by omega))), (fun q hq => by (rw [hs_r364.1 q (by have := hq j (by omega); omega)]; exact hi_14.2.2.2.2.2.2 q (fun p hp => hq p (by omega))))⟩) (lv_sub hl [1, 0] rfl) HX369
  refine W.widen (k := 1 + 56 * 0) (n := 5 + 532 * 0) (by omega) (by omega) ?_
  exact LOOP_14 (5 - 0 + 1) (0) v r356 _ _ _ (Nat.lt_succ_self _) (⟨Nat.zero_le _, (by rw [er357, fa_u_s]), (fun p hp => absurd hp (Nat.not_lt_zero _)), (fun p hp => absurd hp (Nat.not_lt_zero _)), (fun q hq => by (rw [er357, fa_u_k _ _ (by omega)])), (fun q _ => rfl), fun q _ => rfl⟩) (lv_sub hl [1, 0] rfl) HX358
set_option maxHeartbeats 4000000 in
set_option maxRecDepth 100000 in
theorem k_X6_init (l : Launch) (G : fa_G) (v : fa_V) (r : fa_R) (hz : fa_Z0 1 v r) (h00 : ∀ i, v 0 i = 0) : fa_MN l G (1) yX6_init cX6_init 1 4 396 3797 [.ref (fa_B G + (0))] v r (fun w => fa_RA w.2 ∧ (∀ i, i < 5 → w.2 114 i = some (115 + 56 * i)) ∧ fb_RS1 w.2 1 ∧ fb_RS1 w.2 57 ∧ (∀ i, i < 5 → fb_RS1 w.2 (115 + 56 * i)) ∧ fa_FV w.1 ∧ fa_Z0 397 w.1 w.2 ∧ ∀ k, 1 ≤ k → k < 397 → ¬ k = 8 → ¬ k = 64 → (∀ p, p < 5 → ¬ k = 115 + 56 * p + 7) → ∀ i, w.1 k i = 0) := by
  refine fa_startN (by decide +kernel) (Nat.le_of_ble_eq_true rfl) (by decide +kernel) (fun p e s m args below meth c ls Q CX hl HX hsz hmn RET => ?_)
  have hl : lv_has ls 1 [(0, .ref (fa_B G + (0)))] := hl
  have hx := CX.1.1
  have hb := CX.1.2.1
  refine lv_aload_n hx hb dX6_init_0 rfl (lv_at hl 0 rfl) ?_
  refine fa_objInit CX oi_X6_1 hl.1 dX6_init_1 (Nat.le_of_ble_eq_true rfl) (Nat.le_of_ble_eq_true rfl) ?_
  refine lv_aload_n hx hb dX6_init_4 rfl (lv_at hl 0 rfl) ?_
  refine fa_new (N := 12) CX HX mk_X6_7 (by omega) (fa_s0 (by decide)) (fun i => by (exact (hz (1) (by omega)).1 i)) (fun i => by (exact (hz (1) (by omega)).2 i)) (by show 0 + 1 ≤ 396; first | decide | omega) (by show 0 + 12 ≤ 3797; first | decide | omega) dX6_init_5 (fun H HX370 => ?_)
  have HX370 : fa_HX G (2) v r s _ _ := HX370
  refine W.widen (k := 1) (n := 12) (by first | exact Nat.le_refl _ | omega) (by first | exact Nat.le_refl _ | omega) ?_
  refine lv_dup hx hb dX6_init_8 rfl ?_
  refine fa_ctorI (rest := [.ref (fa_B G + (1)), .ref (fa_B G + (0))]) CX HX370 (k_X3_init l G 1 (by decide) v r (fun q hq => ⟨fun i => by (exact (hz q (by omega)).1 i), fun i => by (exact (hz q (by omega)).2 i)⟩)) ln_X6_9 ⟨by decide +kernel, by decide +kernel, by decide +kernel, by decide +kernel⟩ (by omega) (Nat.le_of_ble_eq_true rfl) hl.1 ⟨Nat.le_of_ble_eq_true rfl, Nat.le_of_ble_eq_true rfl⟩ ⟨by show 1 + 55 ≤ 396; first | decide | omega, by show 12 + 520 ≤ 3797; first | decide | omega⟩ dX6_init_9 (fun v371 r372 H locs h373 HX374 => ?_)
  dsimp only at h373
  have hs_r372 := h373
  have HX374 : fa_HX G (57) v371 r372 s _ _ := HX374
  refine W.widen (k := 56) (n := 532) (by first | exact Nat.le_refl _ | omega) (by first | exact Nat.le_refl _ | omega) ?_
  refine fa_putr (k := 0) (q := 1) CX HX374 fl_X6_10 own_6 hmn (by omega) rfl rfl rfl rfl dX6_init_12 (fun H locs r375 er376 HX377 => ?_)
  refine lv_aload_n hx hb dX6_init_15 rfl (lv_at hl 0 rfl) ?_
  refine fa_new (N := 12) CX HX377 mk_X6_7 (by omega) (fa_s0 (by decide)) (fun i => by (rw [h373.1 (57) (by omega)]; exact (hz (57) (by omega)).1 i)) (fun i => by (rw [er376, fa_u_n _ _ (by omega)]; rw [h373.2.2.2 (57) (by omega)]; exact (hz (57) (by omega)).2 i)) (by show 56 + 1 ≤ 396; first | decide | omega) (by show 532 + 12 ≤ 3797; first | decide | omega) dX6_init_16 (fun H HX378 => ?_)
  have HX378 : fa_HX G (58) v371 r375 s _ _ := HX378
  refine W.widen (k := 57) (n := 544) (by first | exact Nat.le_refl _ | omega) (by first | exact Nat.le_refl _ | omega) ?_
  refine lv_dup hx hb dX6_init_19 rfl ?_
  refine fa_ctorI (rest := [.ref (fa_B G + (57)), .ref (fa_B G + (0))]) CX HX378 (k_X3_init l G 57 (by decide) v371 r375 (fun q hq => ⟨fun i => by (rw [h373.1 q (by omega)]; exact (hz q (by omega)).1 i), fun i => by (rw [er376, fa_u_k _ _ (by omega)]; rw [h373.2.2.2 q (by omega)]; exact (hz q (by omega)).2 i)⟩)) ln_X6_9 ⟨by decide +kernel, by decide +kernel, by decide +kernel, by decide +kernel⟩ (by omega) (Nat.le_of_ble_eq_true rfl) hl.1 ⟨Nat.le_of_ble_eq_true rfl, Nat.le_of_ble_eq_true rfl⟩ ⟨by show 57 + 55 ≤ 396; first | decide | omega, by show 544 + 520 ≤ 3797; first | decide | omega⟩ dX6_init_20 (fun v379 r380 H locs h381 HX382 => ?_)
  dsimp only at h381
  have hs_r380 := h381
  have HX382 : fa_HX G (113) v379 r380 s _ _ := HX382
  refine W.widen (k := 112) (n := 1064) (by first | exact Nat.le_refl _ | omega) (by first | exact Nat.le_refl _ | omega) ?_
  refine fa_putr (k := 0) (q := 57) CX HX382 fl_X6_16 own_6 hmn (by omega) rfl rfl rfl rfl dX6_init_23 (fun H locs r383 er384 HX385 => ?_)
  refine lv_aload_n hx hb dX6_init_26 rfl (lv_at hl 0 rfl) ?_
  refine fa_new (N := 2) CX HX385 mk_X6_19 (by omega) rfl (fun i => by (rw [h381.1 (113) (by omega)]; rw [h373.1 (113) (by omega)]; exact (hz (113) (by omega)).1 i)) (fun i => by (rw [er384, fa_u_n _ _ (by omega)]; rw [h381.2.2.2 (113) (by omega)]; rw [er376, fa_u_n _ _ (by omega)]; rw [h373.2.2.2 (113) (by omega)]; exact (hz (113) (by omega)).2 i)) (by show 112 + 1 ≤ 396; first | decide | omega) (by show 1064 + 2 ≤ 3797; first | decide | omega) dX6_init_27 (fun H HX386 => ?_)
  have HX386 : fa_HX G (114) v379 r383 s _ _ := HX386
  refine W.widen (k := 113) (n := 1066) (by first | exact Nat.le_refl _ | omega) (by first | exact Nat.le_refl _ | omega) ?_
  refine lv_dup hx hb dX6_init_30 rfl ?_
  refine fa_ctorI (rest := [.ref (fa_B G + (113)), .ref (fa_B G + (0))]) CX HX386 (k_X0_init l G v379 r383 (fun q hq => ⟨fun i => by (rw [h381.1 q (by omega)]; rw [h373.1 q (by omega)]; exact (hz q (by omega)).1 i), fun i => by (rw [er384, fa_u_k _ _ (by omega)]; rw [h381.2.2.2 q (by omega)]; rw [er376, fa_u_k _ _ (by omega)]; rw [h373.2.2.2 q (by omega)]; exact (hz q (by omega)).2 i)⟩)) ln_X6_21 ⟨by decide +kernel, by decide +kernel, by decide +kernel, by decide +kernel⟩ (by omega) (Nat.le_of_ble_eq_true rfl) hl.1 ⟨Nat.le_of_ble_eq_true rfl, Nat.le_of_ble_eq_true rfl⟩ ⟨by show 113 + 281 ≤ 396; first | decide | omega, by show 1066 + 2665 ≤ 3797; first | decide | omega⟩ dX6_init_31 (fun v387 r388 H locs h389 HX390 => ?_)
  dsimp only at h389
  have hh_r388 := h389
  have HX390 : fa_HX G (395) v387 r388 s _ _ := HX390
  refine W.widen (k := 394) (n := 3731) (by first | exact Nat.le_refl _ | omega) (by first | exact Nat.le_refl _ | omega) ?_
  refine fa_putr (k := 0) (q := 113) CX HX390 fl_X6_22 own_6 hmn (by omega) rfl rfl rfl rfl dX6_init_34 (fun H locs r391 er392 HX393 => ?_)
  refine lv_aload_n hx hb dX6_init_37 rfl (lv_at hl 0 rfl) ?_
  refine fa_new (N := 6) CX HX393 mk_X6_26 (by omega) rfl (fun i => by (rw [h389.1 (395) (by omega)]; rw [h381.1 (395) (by omega)]; rw [h373.1 (395) (by omega)]; exact (hz (395) (by omega)).1 i)) (fun i => by (rw [er392, fa_u_n _ _ (by omega)]; rw [h389.2.1 (395) (by omega)]; rw [er384, fa_u_n _ _ (by omega)]; rw [h381.2.2.2 (395) (by omega)]; rw [er376, fa_u_n _ _ (by omega)]; rw [h373.2.2.2 (395) (by omega)]; exact (hz (395) (by omega)).2 i)) (by show 394 + 1 ≤ 396; first | decide | omega) (by show 3731 + 6 ≤ 3797; first | decide | omega) dX6_init_38 (fun H HX394 => ?_)
  have HX394 : fa_HX G (396) v387 r391 s _ _ := HX394
  refine W.widen (k := 395) (n := 3737) (by first | exact Nat.le_refl _ | omega) (by first | exact Nat.le_refl _ | omega) ?_
  refine lv_dup hx hb dX6_init_41 rfl ?_
  refine fa_ctorN (rest := [.ref (fa_B G + (395)), .ref (fa_B G + (0))]) CX HX394 (k_X1_init l G (395) v387 r391 (fun q hq => ⟨fun i => by (rw [h389.1 q (by omega)]; rw [h381.1 q (by omega)]; rw [h373.1 q (by omega)]; exact (hz q (by omega)).1 i), fun i => by (rw [er392, fa_u_k _ _ (by omega)]; rw [h389.2.1 q (by omega)]; rw [er384, fa_u_k _ _ (by omega)]; rw [h381.2.2.2 q (by omega)]; rw [er376, fa_u_k _ _ (by omega)]; rw [h373.2.2.2 q (by omega)]; exact (hz q (by omega)).2 i)⟩) rfl rfl) (by decide +kernel) ln_X6_28 ⟨by decide +kernel, by decide +kernel, by decide +kernel, by decide +kernel⟩ (by omega) (Nat.le_of_ble_eq_true rfl) hl.1 ⟨Nat.le_of_ble_eq_true rfl, Nat.le_of_ble_eq_true rfl⟩ ⟨by show 395 + 1 ≤ 396; first | decide | omega, by show 3737 + 60 ≤ 3797; first | decide | omega⟩ dX6_init_42 (fun v395 r396 H locs h397 HX398 => ?_)
  obtain ⟨ev_r396, er_r396⟩ := Prod.mk.inj h397
  rw [ev_r396] at HX398
  have HX398 : fa_HX G (397) v387 r396 s _ _ := HX398
  refine W.widen (k := 396) (n := 3797) (by first | exact Nat.le_refl _ | omega) (by first | exact Nat.le_refl _ | omega) ?_
  refine fa_putr (k := 0) (q := 395) CX HX398 fl_X6_29 own_6 hmn (by omega) rfl rfl rfl rfl dX6_init_45 (fun H locs r399 er400 HX401 => ?_)
  exact RET _ _ _ _ _ _ HX401 dX6_init_48 (⟨⟨(by (show r399 0 0 = _; try (first | rw [er400, fa_u_n _ _ (by omega)] | rw [er400, fa_u_s]); try (first | rw [er_r396, fa_u_n _ _ (by omega)] | rw [er_r396, fa_u_s]); try (first | rw [er392, fa_u_n _ _ (by omega)] | rw [er392, fa_u_s]); try rw [h389.2.1 0 (by omega)]; try (first | rw [er384, fa_u_n _ _ (by omega)] | rw [er384, fa_u_s]); try rw [h381.2.2.2 0 (by omega)]; try (first | rw [er376, fa_u_n _ _ (by omega)] | rw [er376, fa_u_s]); try rw [h373.2.2.2 0 (by omega)])), (by (show r399 0 1 = _; try (first | rw [er400, fa_u_n _ _ (by omega)] | rw [er400, fa_u_s]); try (first | rw [er_r396, fa_u_n _ _ (by omega)] | rw [er_r396, fa_u_s]); try (first | rw [er392, fa_u_n _ _ (by omega)] | rw [er392, fa_u_s]); try rw [h389.2.1 0 (by omega)]; try (first | rw [er384, fa_u_n _ _ (by omega)] | rw [er384, fa_u_s]); try rw [h381.2.2.2 0 (by omega)]; try (first | rw [er376, fa_u_n _ _ (by omega)] | rw [er376, fa_u_s]); try rw [h373.2.2.2 0 (by omega)])), (by (show r399 0 2 = _; try (first | rw [er400, fa_u_n _ _ (by omega)] | rw [er400, fa_u_s]); try (first | rw [er_r396, fa_u_n _ _ (by omega)] | rw [er_r396, fa_u_s]); try (first | rw [er392, fa_u_n _ _ (by omega)] | rw [er392, fa_u_s]); try rw [h389.2.1 0 (by omega)]; try (first | rw [er384, fa_u_n _ _ (by omega)] | rw [er384, fa_u_s]); try rw [h381.2.2.2 0 (by omega)]; try (first | rw [er376, fa_u_n _ _ (by omega)] | rw [er376, fa_u_s]); try rw [h373.2.2.2 0 (by omega)])), (by (show r399 0 3 = _; try (first | rw [er400, fa_u_n _ _ (by omega)] | rw [er400, fa_u_s]); try (first | rw [er_r396, fa_u_n _ _ (by omega)] | rw [er_r396, fa_u_s]); try (first | rw [er392, fa_u_n _ _ (by omega)] | rw [er392, fa_u_s]); try rw [h389.2.1 0 (by omega)]; try (first | rw [er384, fa_u_n _ _ (by omega)] | rw [er384, fa_u_s]); try rw [h381.2.2.2 0 (by omega)]; try (first | rw [er376, fa_u_n _ _ (by omega)] | rw [er376, fa_u_s]); try rw [h373.2.2.2 0 (by omega)])), (by (show r399 113 1 = _; try (first | rw [er400, fa_u_n _ _ (by omega)] | rw [er400, fa_u_s]); try (first | rw [er_r396, fa_u_n _ _ (by omega)] | rw [er_r396, fa_u_s]); try (first | rw [er392, fa_u_n _ _ (by omega)] | rw [er392, fa_u_s]); exact hh_r388.2.2.1)), (by (show r399 395 0 = _; try (first | rw [er400, fa_u_n _ _ (by omega)] | rw [er400, fa_u_s]); try (first | rw [er_r396, fa_u_n _ _ (by omega)] | rw [er_r396, fa_u_s]); try (first | rw [er392, fa_u_n _ _ (by omega)] | rw [er392, fa_u_s]); try rw [h389.2.1 395 (by omega)]; try (first | rw [er384, fa_u_n _ _ (by omega)] | rw [er384, fa_u_s]); try rw [h381.2.2.2 395 (by omega)]; try (first | rw [er376, fa_u_n _ _ (by omega)] | rw [er376, fa_u_s]); try rw [h373.2.2.2 395 (by omega)]))⟩, (fun i hi => by (show r399 114 i = _; try (first | rw [er400, fa_u_n _ _ (by omega)] | rw [er400, fa_u_s]); try (first | rw [er_r396, fa_u_n _ _ (by omega)] | rw [er_r396, fa_u_s]); try (first | rw [er392, fa_u_n _ _ (by omega)] | rw [er392, fa_u_s]); exact hh_r388.2.2.2.1 i hi)), (fb_RS1_cong (fun q h1 h2 => by (show r399 q = r372 q; rw [er400, fa_u_k _ _ (by omega)]; rw [er_r396, fa_u_k _ _ (by omega)]; rw [er392, fa_u_k _ _ (by omega)]; rw [h389.2.1 q (by omega)]; rw [er384, fa_u_k _ _ (by omega)]; rw [h381.2.2.2 q (by omega)]; rw [er376, fa_u_k _ _ (by omega)])) hs_r372.2.2.1), (fb_RS1_cong (fun q h1 h2 => by (show r399 q = r380 q; rw [er400, fa_u_k _ _ (by omega)]; rw [er_r396, fa_u_k _ _ (by omega)]; rw [er392, fa_u_k _ _ (by omega)]; rw [h389.2.1 q (by omega)]; rw [er384, fa_u_k _ _ (by omega)])) hs_r380.2.2.1), (fun i hi => fb_RS1_cong (fun q h1 h2 => by (show r399 q = r388 q; rw [er400, fa_u_k _ _ (by omega)]; rw [er_r396, fa_u_k _ _ (by omega)]; rw [er392, fa_u_k _ _ (by omega)])) (hh_r388.2.2.2.2.1 i hi)), ⟨(by (show v387 113 _ = 0; rw [h389.1 113 (by omega)]; rw [h381.1 113 (by omega)]; rw [h373.1 113 (by omega)]; exact (hz _ (by omega)).1 _)), (fun i _ => (by (show v387 1 _ = 0; rw [h389.1 1 (by omega)]; rw [h381.1 1 (by omega)]; rw [h373.1 1 (by omega)]; exact (hz _ (by omega)).1 _))), (by (show v387 (1 + 2) _ = 0; rw [h389.1 (1 + 2) (by omega)]; rw [h381.1 (1 + 2) (by omega)]; rw [h373.1 (1 + 2) (by omega)]; exact (hz _ (by omega)).1 _)), (by (show v387 (1 + 5) _ = 0; rw [h389.1 (1 + 5) (by omega)]; rw [h381.1 (1 + 5) (by omega)]; rw [h373.1 (1 + 5) (by omega)]; exact (hz _ (by omega)).1 _)), (fun i hi => by (show v387 (1 + 7) i = _; rw [h389.1 (1 + 7) (by omega)]; rw [h381.1 (1 + 7) (by omega)]; exact hs_r372.2.1 i hi)), (by (show v387 395 _ = 0; rw [h389.1 395 (by omega)]; rw [h381.1 395 (by omega)]; rw [h373.1 395 (by omega)]; exact (hz _ (by omega)).1 _)), (by (show v387 0 6 = 0; rw [h389.1 0 (by omega)]; rw [h381.1 0 (by omega)]; rw [h373.1 0 (by omega)]; exact h00 6))⟩, (fun q hq => ⟨fun i => by (show v387 q i = 0; rw [h389.1 q (by omega)]; rw [h381.1 q (by omega)]; rw [h373.1 q (by omega)]; exact (hz q (by omega)).1 i), fun i => by (show r399 q i = none; rw [er400, fa_u_k _ _ (by omega)]; rw [er_r396, fa_u_k _ _ (by omega)]; rw [er392, fa_u_k _ _ (by omega)]; rw [h389.2.1 q (by omega)]; rw [er384, fa_u_k _ _ (by omega)]; rw [h381.2.2.2 q (by omega)]; rw [er376, fa_u_k _ _ (by omega)]; rw [h373.2.2.2 q (by omega)]; exact (hz q (by omega)).2 i)⟩), (fun k h0 h397 h8 h64 hp i => by (show v387 k i = 0; rw [hh_r388.2.2.2.2.2 k hp]; rw [h381.1 k (by omega)]; rw [h373.1 k (by omega)]; exact (hz k (by omega)).1 i))⟩)
