set_option maxHeartbeats 4000000 in
set_option maxRecDepth 100000 in
theorem r_in (l : Launch) (G : fa_G) (n : Nat) (v : fa_V) (r : fa_R) (a1 a2 a3 : Int32) : fa_MI l G n yX7_in cX7_in 3 (some .boolean) 1 [.int (a1), .int (a2), .int (a3)] v r (fun x w => w = (v, r) ∧ (x = if a1 < a2 ∨ a3 < a1 then nI 0 else nI 1)) := by
  refine fa_startZ (by decide +kernel) (Nat.le_of_ble_eq_true rfl) (fun p e s m args below meth c ls Q CX hl HX RET => ?_)
  have hl : lv_has ls 3 [(0, .int (a1)), (1, .int (a2)), (2, .int (a3))] := hl
  have hx := CX.1.1
  have hb := CX.1.2.1
  refine lv_iload_n hx hb dX7_in_0 rfl (lv_at hl 0 rfl) ?_
  refine lv_iload_n hx hb dX7_in_1 rfl (lv_at hl 1 rfl) ?_
  refine lv_icmp_lt (tgt := 14) hx hb dX7_in_2 (by decide) (fun c_2 => ?_) (fun c_2 => ?_)
  · refine lv_iconst (v := nI (0)) hx hb dX7_in_14 (by decide) ?_
    exact RET _ _ _ _ _ _ _ HX dX7_in_15 (by decide) (⟨rfl, (by simp [c_2])⟩)
  · refine lv_iload_n hx hb dX7_in_5 rfl (lv_at hl 0 rfl) ?_
    refine lv_iload_n hx hb dX7_in_6 rfl (lv_at hl 2 rfl) ?_
    refine lv_icmp_gt (tgt := 14) hx hb dX7_in_7 (by decide) (fun c_7 => ?_) (fun c_7 => ?_)
    · refine lv_iconst (v := nI (0)) hx hb dX7_in_14 (by decide) ?_
      exact RET _ _ _ _ _ _ _ HX dX7_in_15 (by decide) (⟨rfl, (by simp [c_2, c_7])⟩)
    · refine lv_iconst (v := nI (1)) hx hb dX7_in_10 (by decide) ?_
      refine lv_goto (tgt := 15) hx hb dX7_in_11 (by decide) ?_
      exact RET _ _ _ _ _ _ _ HX dX7_in_15 (by decide) (⟨rfl, (by simp [c_2, c_7])⟩)
set_option maxHeartbeats 4000000 in
set_option maxRecDepth 100000 in
theorem r_f (l : Launch) (G : fa_G) (n : Nat) (v : fa_V) (r : fa_R) (j : Nat) : fa_MI l G n yX7_f cX7_f 1 (some .int) 1 [.int (nI (j))] v r (fun x w => w = (v, r) ∧ (x = nI (17 + 15 * j))) := by
  refine fa_startI (by decide +kernel) (Nat.le_of_ble_eq_true rfl) (fun p e s m args below meth c ls Q CX hl HX RET => ?_)
  have hl : lv_has ls 1 [(0, .int (nI (j)))] := hl
  have hx := CX.1.1
  have hb := CX.1.2.1
  refine lv_bipush (v := nI (17)) hx hb dX7_f_0 (by decide) ?_
  refine lv_bipush (v := nI (15)) hx hb dX7_f_2 (by decide) ?_
  refine lv_iload_n hx hb dX7_f_4 rfl (lv_at hl 0 rfl) ?_
  refine fa_imulN hx hb dX7_f_5 ?_
  refine fa_iaddN hx hb dX7_f_6 ?_
  exact RET _ _ _ _ _ _ _ HX dX7_f_7 (⟨rfl, rfl⟩)
set_option maxHeartbeats 4000000 in
set_option maxRecDepth 100000 in
theorem r_fneg (l : Launch) (G : fa_G) (n : Nat) (v : fa_V) (r : fa_R) : fa_MI l G n yX7_f cX7_f 1 (some .int) 1 [.int ((-1 : Int32))] v r (fun x w => w = (v, r) ∧ (x = nI 2)) := by
  refine fa_startI (by decide +kernel) (Nat.le_of_ble_eq_true rfl) (fun p e s m args below meth c ls Q CX hl HX RET => ?_)
  have hl : lv_has ls 1 [(0, .int ((-1 : Int32)))] := hl
  have hx := CX.1.1
  have hb := CX.1.2.1
  refine lv_bipush (v := nI (17)) hx hb dX7_f_0 (by decide) ?_
  refine lv_bipush (v := nI (15)) hx hb dX7_f_2 (by decide) ?_
  refine lv_iload_n hx hb dX7_f_4 rfl (lv_at hl 0 rfl) ?_
  refine lv_imul hx hb dX7_f_5 ?_
  refine lv_iadd hx hb dX7_f_6 ?_
  exact RET _ _ _ _ _ _ _ HX dX7_f_7 (⟨rfl, rfl⟩)
set_option maxHeartbeats 4000000 in
set_option maxRecDepth 100000 in
theorem r_hold (l : Launch) (G : fa_G) (n : Nat) (hn : 406 ≤ n) (v : fa_V) (r : fa_R) (hM : fa_RM r) : fa_MV l G n yX7_hold cX7_hold 2 1 [.ref (fa_B G + (397))] v r (fa_vo r (fun v1 => (∀ i, i < 453 → v1 399 i = v 398 i) ∧ (fa_fr (399) (400) v v1))) := by
  refine fa_startV (by decide +kernel) (Nat.le_of_ble_eq_true rfl) (fun p e s m args below meth c ls Q CX hl HX RET => ?_)
  have hl : lv_has ls 2 [(0, .ref (fa_B G + (397)))] := hl
  have hx := CX.1.1
  have hb := CX.1.2.1
  refine lv_iconst (v := nI (0)) hx hb dX7_hold_0 (by decide) ?_
  refine lv_istore_n (lv' := [(1, .int (nI (0))), (0, .ref (fa_B G + (397)))]) hx hb dX7_hold_1 rfl hl (by decide) rfl (fun ls hl => ?_)
  have LOOP_2 : ∀ (fu : Nat) (k : Nat) (v1698 : fa_V) (H : Heap) (locs : List Loc) (ls : Array Slot), 453 - k < fu → (k ≤ 453 ∧ (∀ i, i < k → v1698 399 i = v 398 i) ∧ fa_fr 399 (399 + 1) v v1698) → lv_has ls 2 [(0, .ref (fa_B G + (397))), (1, .int (nI (k)))] → fa_HX G (n) v1698 r s H locs → W p l e (fa_rm 1) s m args below meth c H locs (0) (0) Q (F0 m 2 ls []) := by
    intro fu
    induction fu with
    | zero => intro k v1698 H locs ls hk; exact absurd hk (Nat.not_lt_zero _)
    | succ fu ih_2 =>
      intro k v1698 H locs ls hk_2 hi_2 hl HX1699
      refine lv_iload_n hx hb dX7_hold_2 rfl (lv_at hl 1 rfl) ?_
      refine lv_sipush (v := nI (453)) hx hb dX7_hold_3 (by decide) ?_
      refine lv_icmp_ge (tgt := 27) hx hb dX7_hold_6 (by decide) (fun c_6 => ?_) (fun c_6 => ?_)
      · have hk : k = 453 := by
          have := (nI_leI (by omega) (by omega)).mp c_6
          omega
        rw [hk] at hi_2
        exact RET _ _ _ _ _ _ HX1699 dX7_hold_27 (⟨rfl, ⟨hi_2.2.1, (fa_fr.tr fa_fr.rf (fa_fr.wide hi_2.2.2 (by omega) (by omega)))⟩⟩)
      · have hk := fa_ltN (by omega) (by omega) c_6
        refine lv_aload_n hx hb dX7_hold_9 rfl (lv_at hl 0 rfl) ?_
        refine fa_getr (k := 397) (j := 399) CX HX1699 fl_X7_13 (by omega) rfl rfl hM.2.1 dX7_hold_10 ?_
        refine lv_iload_n hx hb dX7_hold_13 rfl (lv_at hl 1 rfl) ?_
        refine lv_aload_n hx hb dX7_hold_14 rfl (lv_at hl 0 rfl) ?_
        refine fa_getr (k := 397) (j := 398) CX HX1699 fl_X7_7 (by omega) rfl rfl hM.1 dX7_hold_15 ?_
        refine lv_iload_n hx hb dX7_hold_18 rfl (lv_at hl 1 rfl) ?_
        refine fa_iald (k := 398) (j := k) CX HX1699 (by omega) rfl (by omega) (by first | decide | assumption) dX7_hold_19 ?_
        refine fa_iast (k := 399) (j := k) CX HX1699 (by omega) rfl (by omega) (by first | decide | assumption) dX7_hold_20 (fun H locs v1700 e1701 HX1702 => ?_)
        refine lv_iinc (v := nI (k + 1)) (lv' := [(1, .int (nI (k + 1))), (0, .ref (fa_B G + (397)))]) hx hb dX7_hold_21 hl (k := 1) rfl (nI_add (k) 1) (by decide) rfl (fun ls hl => ?_)
        refine lv_goto (tgt := 2) hx hb dX7_hold_24 (by decide) ?_
        exact ih_2 (k + 1) v1700 _ _ _ (by omega) (⟨by omega, fa_cpy1 hi_2.2.1 (by decide) hi_2.2.2 e1701, (by rw [e1701]; exact fa_fr.u (fa_fr.tr fa_fr.rf (fa_fr.wide hi_2.2.2 (by omega) (by omega))) (by omega))⟩) (lv_sub hl [1, 0] rfl) HX1702
  exact LOOP_2 (453 - 0 + 1) (0) v _ _ _ (Nat.lt_succ_self _) (⟨Nat.zero_le _, fun j hj => absurd hj (Nat.not_lt_zero _), fa_fr.rf⟩) (lv_sub hl [1, 0] rfl) HX
set_option maxHeartbeats 4000000 in
set_option maxRecDepth 100000 in
theorem r_keepTrial (l : Launch) (G : fa_G) (n : Nat) (hn : 406 ≤ n) (v : fa_V) (r : fa_R) (hM : fa_RM r) : fa_MV l G n yX7_keepTrial cX7_keepTrial 2 1 [.ref (fa_B G + (397))] v r (fa_vo r (fun v1 => (∀ i, i < 453 → v1 400 i = v 398 i) ∧ (fa_fr (400) (401) v v1))) := by
  refine fa_startV (by decide +kernel) (Nat.le_of_ble_eq_true rfl) (fun p e s m args below meth c ls Q CX hl HX RET => ?_)
  have hl : lv_has ls 2 [(0, .ref (fa_B G + (397)))] := hl
  have hx := CX.1.1
  have hb := CX.1.2.1
  refine lv_iconst (v := nI (0)) hx hb dX7_keepTrial_0 (by decide) ?_
  refine lv_istore_n (lv' := [(1, .int (nI (0))), (0, .ref (fa_B G + (397)))]) hx hb dX7_keepTrial_1 rfl hl (by decide) rfl (fun ls hl => ?_)
  have LOOP_2 : ∀ (fu : Nat) (k : Nat) (v1703 : fa_V) (H : Heap) (locs : List Loc) (ls : Array Slot), 453 - k < fu → (k ≤ 453 ∧ (∀ i, i < k → v1703 400 i = v 398 i) ∧ fa_fr 400 (400 + 1) v v1703) → lv_has ls 2 [(0, .ref (fa_B G + (397))), (1, .int (nI (k)))] → fa_HX G (n) v1703 r s H locs → W p l e (fa_rm 1) s m args below meth c H locs (0) (0) Q (F0 m 2 ls []) := by
    intro fu
    induction fu with
    | zero => intro k v1703 H locs ls hk; exact absurd hk (Nat.not_lt_zero _)
    | succ fu ih_2 =>
      intro k v1703 H locs ls hk_2 hi_2 hl HX1704
      refine lv_iload_n hx hb dX7_keepTrial_2 rfl (lv_at hl 1 rfl) ?_
      refine lv_sipush (v := nI (453)) hx hb dX7_keepTrial_3 (by decide) ?_
      refine lv_icmp_ge (tgt := 27) hx hb dX7_keepTrial_6 (by decide) (fun c_6 => ?_) (fun c_6 => ?_)
      · have hk : k = 453 := by
          have := (nI_leI (by omega) (by omega)).mp c_6
          omega
        rw [hk] at hi_2
        exact RET _ _ _ _ _ _ HX1704 dX7_keepTrial_27 (⟨rfl, ⟨hi_2.2.1, (fa_fr.tr fa_fr.rf (fa_fr.wide hi_2.2.2 (by omega) (by omega)))⟩⟩)
      · have hk := fa_ltN (by omega) (by omega) c_6
        refine lv_aload_n hx hb dX7_keepTrial_9 rfl (lv_at hl 0 rfl) ?_
        refine fa_getr (k := 397) (j := 400) CX HX1704 fl_X7_16 (by omega) rfl rfl hM.2.2.1 dX7_keepTrial_10 ?_
        refine lv_iload_n hx hb dX7_keepTrial_13 rfl (lv_at hl 1 rfl) ?_
        refine lv_aload_n hx hb dX7_keepTrial_14 rfl (lv_at hl 0 rfl) ?_
        refine fa_getr (k := 397) (j := 398) CX HX1704 fl_X7_7 (by omega) rfl rfl hM.1 dX7_keepTrial_15 ?_
        refine lv_iload_n hx hb dX7_keepTrial_18 rfl (lv_at hl 1 rfl) ?_
        refine fa_iald (k := 398) (j := k) CX HX1704 (by omega) rfl (by omega) (by first | decide | assumption) dX7_keepTrial_19 ?_
        refine fa_iast (k := 400) (j := k) CX HX1704 (by omega) rfl (by omega) (by first | decide | assumption) dX7_keepTrial_20 (fun H locs v1705 e1706 HX1707 => ?_)
        refine lv_iinc (v := nI (k + 1)) (lv' := [(1, .int (nI (k + 1))), (0, .ref (fa_B G + (397)))]) hx hb dX7_keepTrial_21 hl (k := 1) rfl (nI_add (k) 1) (by decide) rfl (fun ls hl => ?_)
        refine lv_goto (tgt := 2) hx hb dX7_keepTrial_24 (by decide) ?_
        exact ih_2 (k + 1) v1705 _ _ _ (by omega) (⟨by omega, fa_cpy1 hi_2.2.1 (by decide) hi_2.2.2 e1706, (by rw [e1706]; exact fa_fr.u (fa_fr.tr fa_fr.rf (fa_fr.wide hi_2.2.2 (by omega) (by omega))) (by omega))⟩) (lv_sub hl [1, 0] rfl) HX1707
  exact LOOP_2 (453 - 0 + 1) (0) v _ _ _ (Nat.lt_succ_self _) (⟨Nat.zero_le _, fun j hj => absurd hj (Nat.not_lt_zero _), fa_fr.rf⟩) (lv_sub hl [1, 0] rfl) HX
set_option maxHeartbeats 4000000 in
set_option maxRecDepth 100000 in
theorem r_putBack (l : Launch) (G : fa_G) (n : Nat) (hn : 406 ≤ n) (v : fa_V) (r : fa_R) (hM : fa_RM r) : fa_MV l G n yX7_putBack cX7_putBack 2 1 [.ref (fa_B G + (397))] v r (fa_vo r (fun v1 => (∀ i, i < 453 → v1 398 i = v 400 i) ∧ (fa_fr (398) (399) v v1))) := by
  refine fa_startV (by decide +kernel) (Nat.le_of_ble_eq_true rfl) (fun p e s m args below meth c ls Q CX hl HX RET => ?_)
  have hl : lv_has ls 2 [(0, .ref (fa_B G + (397)))] := hl
  have hx := CX.1.1
  have hb := CX.1.2.1
  refine lv_iconst (v := nI (0)) hx hb dX7_putBack_0 (by decide) ?_
  refine lv_istore_n (lv' := [(1, .int (nI (0))), (0, .ref (fa_B G + (397)))]) hx hb dX7_putBack_1 rfl hl (by decide) rfl (fun ls hl => ?_)
  have LOOP_2 : ∀ (fu : Nat) (k : Nat) (v1708 : fa_V) (H : Heap) (locs : List Loc) (ls : Array Slot), 453 - k < fu → (k ≤ 453 ∧ (∀ i, i < k → v1708 398 i = v 400 i) ∧ fa_fr 398 (398 + 1) v v1708) → lv_has ls 2 [(0, .ref (fa_B G + (397))), (1, .int (nI (k)))] → fa_HX G (n) v1708 r s H locs → W p l e (fa_rm 1) s m args below meth c H locs (0) (0) Q (F0 m 2 ls []) := by
    intro fu
    induction fu with
    | zero => intro k v1708 H locs ls hk; exact absurd hk (Nat.not_lt_zero _)
    | succ fu ih_2 =>
      intro k v1708 H locs ls hk_2 hi_2 hl HX1709
      refine lv_iload_n hx hb dX7_putBack_2 rfl (lv_at hl 1 rfl) ?_
      refine lv_sipush (v := nI (453)) hx hb dX7_putBack_3 (by decide) ?_
      refine lv_icmp_ge (tgt := 27) hx hb dX7_putBack_6 (by decide) (fun c_6 => ?_) (fun c_6 => ?_)
      · have hk : k = 453 := by
          have := (nI_leI (by omega) (by omega)).mp c_6
          omega
        rw [hk] at hi_2
        exact RET _ _ _ _ _ _ HX1709 dX7_putBack_27 (⟨rfl, ⟨hi_2.2.1, (fa_fr.tr fa_fr.rf (fa_fr.wide hi_2.2.2 (by omega) (by omega)))⟩⟩)
      · have hk := fa_ltN (by omega) (by omega) c_6
        refine lv_aload_n hx hb dX7_putBack_9 rfl (lv_at hl 0 rfl) ?_
        refine fa_getr (k := 397) (j := 398) CX HX1709 fl_X7_7 (by omega) rfl rfl hM.1 dX7_putBack_10 ?_
        refine lv_iload_n hx hb dX7_putBack_13 rfl (lv_at hl 1 rfl) ?_
        refine lv_aload_n hx hb dX7_putBack_14 rfl (lv_at hl 0 rfl) ?_
        refine fa_getr (k := 397) (j := 400) CX HX1709 fl_X7_16 (by omega) rfl rfl hM.2.2.1 dX7_putBack_15 ?_
        refine lv_iload_n hx hb dX7_putBack_18 rfl (lv_at hl 1 rfl) ?_
        refine fa_iald (k := 400) (j := k) CX HX1709 (by omega) rfl (by omega) (by first | decide | assumption) dX7_putBack_19 ?_
        refine fa_iast (k := 398) (j := k) CX HX1709 (by omega) rfl (by omega) (by first | decide | assumption) dX7_putBack_20 (fun H locs v1710 e1711 HX1712 => ?_)
        refine lv_iinc (v := nI (k + 1)) (lv' := [(1, .int (nI (k + 1))), (0, .ref (fa_B G + (397)))]) hx hb dX7_putBack_21 hl (k := 1) rfl (nI_add (k) 1) (by decide) rfl (fun ls hl => ?_)
        refine lv_goto (tgt := 2) hx hb dX7_putBack_24 (by decide) ?_
        exact ih_2 (k + 1) v1710 _ _ _ (by omega) (⟨by omega, fa_cpy1 hi_2.2.1 (by decide) hi_2.2.2 e1711, (by rw [e1711]; exact fa_fr.u (fa_fr.tr fa_fr.rf (fa_fr.wide hi_2.2.2 (by omega) (by omega))) (by omega))⟩) (lv_sub hl [1, 0] rfl) HX1712
  exact LOOP_2 (453 - 0 + 1) (0) v _ _ _ (Nat.lt_succ_self _) (⟨Nat.zero_le _, fun j hj => absurd hj (Nat.not_lt_zero _), fa_fr.rf⟩) (lv_sub hl [1, 0] rfl) HX
set_option maxHeartbeats 4000000 in
set_option maxRecDepth 100000 in
theorem r_placeOf (l : Launch) (G : fa_G) (n : Nat) (hn : 406 ≤ n) (v : fa_V) (r : fa_R) (hM : fa_RM r) (hS : fa_MS (v 398)) (a1 : Int32) : fa_MI l G n yX7_placeOf cX7_placeOf 4 (some .int) 2 [.ref (fa_B G + (397)), .int (a1)] v r (fun x w => w = (v, r) ∧ ((fa_pl 24 x) ∧ x = fb_plm (v 398) a1)) := by
  refine fa_startI (by decide +kernel) (Nat.le_of_ble_eq_true rfl) (fun p e s m args below meth c ls Q CX hl HX RET => ?_)
  have hl : lv_has ls 4 [(0, .ref (fa_B G + (397))), (1, .int (a1))] := hl
  have hx := CX.1.1
  have hb := CX.1.2.1
  obtain ⟨n4, en4⟩ : ∃ m, m = fa_N (v 398 14) := ⟨_, rfl⟩
  obtain ⟨hn4, g4⟩ := hS.n4 en4
  obtain ⟨n5, en5⟩ : ∃ m, m = fa_N (v 398 15) := ⟨_, rfl⟩
  obtain ⟨hn5, g5⟩ := hS.n5 en5
  obtain ⟨n6, en6⟩ : ∃ m, m = fa_N (v 398 16) := ⟨_, rfl⟩
  obtain ⟨hn6, g6⟩ := hS.n6 en6
  refine lv_iconst (v := (-1 : Int32)) hx hb dX7_placeOf_0 (by decide) ?_
  refine lv_istore_n (lv' := [(2, .int ((-1 : Int32))), (0, .ref (fa_B G + (397))), (1, .int (a1))]) hx hb dX7_placeOf_1 rfl hl (by decide) rfl (fun ls hl => ?_)
  refine lv_iconst (v := nI (0)) hx hb dX7_placeOf_2 (by decide) ?_
  refine lv_istore_n (lv' := [(3, .int (nI (0))), (2, .int ((-1 : Int32))), (0, .ref (fa_B G + (397))), (1, .int (a1))]) hx hb dX7_placeOf_3 rfl hl (by decide) rfl (fun ls hl => ?_)
  have LOOP_4 : ∀ (fu : Nat) (j : Nat) (fo : Int32) (H : Heap) (locs : List Loc) (ls : Array Slot), n4 - j < fu → (j ≤ n4 ∧ fa_pl 24 fo ∧ fo = fb_las (fun p => v 398 (17 + 15 * p)) a1 j) → lv_has ls 4 [(0, .ref (fa_B G + (397))), (1, .int (a1)), (2, .int (fo)), (3, .int (nI (j)))] → fa_HX G (n) v r s H locs → W p l e (fa_rm 2) s m args below meth c H locs (0) (0) Q (F0 m 4 ls []) := by
    intro fu
    induction fu with
    | zero => intro j fo H locs ls hk; exact absurd hk (Nat.not_lt_zero _)
    | succ fu ih_4 =>
      intro j fo H locs ls hk_4 hi_4 hl HX1713
      refine lv_iload_n hx hb dX7_placeOf_4 rfl (lv_at hl 3 rfl) ?_
      refine lv_aload_n hx hb dX7_placeOf_5 rfl (lv_at hl 0 rfl) ?_
      refine fa_getr (k := 397) (j := 398) CX HX1713 fl_X7_7 (by omega) rfl rfl hM.1 dX7_placeOf_6 ?_
      refine lv_bipush (v := nI (14)) hx hb dX7_placeOf_9 (by decide) ?_
      refine fa_iald (k := 398) (j := 14) CX HX1713 (by omega) rfl (by omega) (by first | decide | assumption) dX7_placeOf_11 ?_
      rw [show v 398 14 = nI (n4) from g4]
      refine lv_icmp_ge (tgt := 40) hx hb dX7_placeOf_12 (by decide) (fun c_12 => ?_) (fun c_12 => ?_)
      · have hjn : j = n4 := by
          have := fa_leN (by omega) (by omega) c_12
          omega
        refine lv_iload_n hx hb dX7_placeOf_40 rfl (lv_at hl 1 rfl) ?_
        refine lv_if_ge (tgt := 48) hx hb dX7_placeOf_41 (by decide) (fun c_41 => ?_) (fun c_41 => ?_)
        · refine lv_iload_n hx hb dX7_placeOf_48 rfl (lv_at hl 2 rfl) ?_
          exact RET _ _ _ _ _ _ _ HX1713 dX7_placeOf_49 (⟨rfl, ⟨hi_4.2.1, (by unfold fb_plm; rw [if_neg (by first | exact Int32.not_lt.mpr c_41 | exact c_41), ← en4, ← hjn]; exact hi_4.2.2)⟩⟩)
        · refine lv_iconst (v := (-1 : Int32)) hx hb dX7_placeOf_44 (by decide) ?_
          refine lv_goto (tgt := 49) hx hb dX7_placeOf_45 (by decide) ?_
          exact RET _ _ _ _ _ _ _ HX1713 dX7_placeOf_49 (⟨rfl, ⟨(Or.inl rfl), (by unfold fb_plm; rw [if_pos (Int32.not_le.mp (by first | exact c_41 | exact Int32.not_le.mpr c_41))])⟩⟩)
      · have hj := fa_ltN (by omega) (by omega) c_12
        refine lv_aload_n hx hb dX7_placeOf_15 rfl (lv_at hl 0 rfl) ?_
        refine fa_getr (k := 397) (j := 398) CX HX1713 fl_X7_7 (by omega) rfl rfl hM.1 dX7_placeOf_16 ?_
        refine lv_iload_n hx hb dX7_placeOf_19 rfl (lv_at hl 3 rfl) ?_
        refine fa_callSip (As := [.int (nI (j))]) (rest := [.ref (fa_B G + (398))]) CX HX1713 (r_f l G n v r (j)) ln_X7_36 rfl rfl (Nat.le_of_ble_eq_true rfl) hl.1 ⟨Nat.le_of_ble_eq_true rfl, Nat.le_of_ble_eq_true rfl⟩ ⟨Nat.le_refl _, Nat.le_refl _⟩ dX7_placeOf_20 (fun x1715 H locs h1714 HX1716 => ?_)
        subst h1714
        refine fa_iald (k := 398) (j := 17 + 15 * j) CX HX1716 (by omega) rfl (by omega) (by first | decide | assumption) dX7_placeOf_23 ?_
        refine lv_iload_n hx hb dX7_placeOf_24 rfl (lv_at hl 1 rfl) ?_
        refine lv_icmp_ne (tgt := 32) hx hb dX7_placeOf_25 (by decide) (fun c_25 => ?_) (fun c_25 => ?_)
        · refine lv_iload_n hx hb dX7_placeOf_32 rfl (lv_at hl 2 rfl) ?_
          refine lv_istore_n (lv' := [(2, .int (fo)), (0, .ref (fa_B G + (397))), (1, .int (a1)), (3, .int (nI (j)))]) hx hb dX7_placeOf_33 rfl hl (by decide) rfl (fun ls hl => ?_)
          refine lv_iinc (v := nI (j + 1)) (lv' := [(3, .int (nI (j + 1))), (2, .int (fo)), (0, .ref (fa_B G + (397))), (1, .int (a1))]) hx hb dX7_placeOf_34 hl (k := 3) rfl (nI_add (j) 1) (by decide) rfl (fun ls hl => ?_)
          refine lv_goto (tgt := 4) hx hb dX7_placeOf_37 (by decide) ?_
          exact ih_4 (j + 1) (fo)  _ _ _ (by omega) (⟨by omega, hi_4.2.1, hi_4.2.2.trans (fb_las_f (f := (fun p => v 398 (17 + 15 * p))) c_25)⟩) (lv_sub hl [2, 3, 1, 0] rfl) HX1716
        · refine lv_iload_n hx hb dX7_placeOf_28 rfl (lv_at hl 3 rfl) ?_
          refine lv_goto (tgt := 33) hx hb dX7_placeOf_29 (by decide) ?_
          refine lv_istore_n (lv' := [(2, .int (nI (j))), (0, .ref (fa_B G + (397))), (1, .int (a1)), (3, .int (nI (j)))]) hx hb dX7_placeOf_33 rfl hl (by decide) rfl (fun ls hl => ?_)
          refine lv_iinc (v := nI (j + 1)) (lv' := [(3, .int (nI (j + 1))), (2, .int (nI (j))), (0, .ref (fa_B G + (397))), (1, .int (a1))]) hx hb dX7_placeOf_34 hl (k := 3) rfl (nI_add (j) 1) (by decide) rfl (fun ls hl => ?_)
          refine lv_goto (tgt := 4) hx hb dX7_placeOf_37 (by decide) ?_
          exact ih_4 (j + 1) (nI (j))  _ _ _ (by omega) (⟨by omega, Or.inr ⟨j, by omega, rfl⟩, fb_las_t (f := (fun p => v 398 (17 + 15 * p))) (by first | exact c_25 | exact Decidable.not_not.mp c_25)⟩) (lv_sub hl [2, 3, 1, 0] rfl) HX1716
  exact LOOP_4 (n4 - 0 + 1) (0) ((-1 : Int32))  _ _ _ (Nat.lt_succ_self _) (⟨Nat.zero_le _, Or.inl rfl, rfl⟩) (lv_sub hl [2, 3, 1, 0] rfl) HX
set_option maxHeartbeats 4000000 in
set_option maxRecDepth 100000 in
theorem r_pages (l : Launch) (G : fa_G) (n : Nat) (hn : 406 ≤ n) (v : fa_V) (r : fa_R) (hM : fa_RM r) (hS : fa_MS (v 398)) : fa_MI l G n yX7_pages cX7_pages 3 (some .int) 2 [.ref (fa_B G + (397))] v r (fun x w => w = (v, r) ∧ (x = fb_pgm (v 398))) := by
  refine fa_startI (by decide +kernel) (Nat.le_of_ble_eq_true rfl) (fun p e s m args below meth c ls Q CX hl HX RET => ?_)
  have hl : lv_has ls 3 [(0, .ref (fa_B G + (397)))] := hl
  have hx := CX.1.1
  have hb := CX.1.2.1
  obtain ⟨n4, en4⟩ : ∃ m, m = fa_N (v 398 14) := ⟨_, rfl⟩
  obtain ⟨hn4, g4⟩ := hS.n4 en4
  obtain ⟨n5, en5⟩ : ∃ m, m = fa_N (v 398 15) := ⟨_, rfl⟩
  obtain ⟨hn5, g5⟩ := hS.n5 en5
  obtain ⟨n6, en6⟩ : ∃ m, m = fa_N (v 398 16) := ⟨_, rfl⟩
  obtain ⟨hn6, g6⟩ := hS.n6 en6
  refine lv_iconst (v := nI (0)) hx hb dX7_pages_0 (by decide) ?_
  refine lv_istore_n (lv' := [(1, .int (nI (0))), (0, .ref (fa_B G + (397)))]) hx hb dX7_pages_1 rfl hl (by decide) rfl (fun ls hl => ?_)
  refine lv_iconst (v := nI (0)) hx hb dX7_pages_2 (by decide) ?_
  refine lv_istore_n (lv' := [(2, .int (nI (0))), (1, .int (nI (0))), (0, .ref (fa_B G + (397)))]) hx hb dX7_pages_3 rfl hl (by decide) rfl (fun ls hl => ?_)
  have LOOP_4 : ∀ (fu : Nat) (j : Nat) (ac : Int32) (H : Heap) (locs : List Loc) (ls : Array Slot), n4 - j < fu → (j ≤ n4 ∧ ac = fa_sum (fun p => v 398 (17 + 15 * p + 2)) j) → lv_has ls 3 [(0, .ref (fa_B G + (397))), (1, .int (ac)), (2, .int (nI (j)))] → fa_HX G (n) v r s H locs → W p l e (fa_rm 2) s m args below meth c H locs (0) (0) Q (F0 m 4 ls []) := by
    intro fu
    induction fu with
    | zero => intro j ac H locs ls hk; exact absurd hk (Nat.not_lt_zero _)
    | succ fu ih_4 =>
      intro j ac H locs ls hk_4 hi_4 hl HX1717
      refine lv_iload_n hx hb dX7_pages_4 rfl (lv_at hl 2 rfl) ?_
      refine lv_aload_n hx hb dX7_pages_5 rfl (lv_at hl 0 rfl) ?_
      refine fa_getr (k := 397) (j := 398) CX HX1717 fl_X7_7 (by omega) rfl rfl hM.1 dX7_pages_6 ?_
      refine lv_bipush (v := nI (14)) hx hb dX7_pages_9 (by decide) ?_
      refine fa_iald (k := 398) (j := 14) CX HX1717 (by omega) rfl (by omega) (by first | decide | assumption) dX7_pages_11 ?_
      rw [show v 398 14 = nI (n4) from g4]
      refine lv_icmp_ge (tgt := 35) hx hb dX7_pages_12 (by decide) (fun c_12 => ?_) (fun c_12 => ?_)
      · have hjn : j = n4 := by
          have := fa_leN (by omega) (by omega) c_12
          omega
        refine lv_iload_n hx hb dX7_pages_35 rfl (lv_at hl 1 rfl) ?_
        exact RET _ _ _ _ _ _ _ HX1717 dX7_pages_36 (⟨rfl, (by unfold fb_pgm; rw [← en4, ← hjn]; exact hi_4.2)⟩)
      · have hj := fa_ltN (by omega) (by omega) c_12
        refine lv_iload_n hx hb dX7_pages_15 rfl (lv_at hl 1 rfl) ?_
        refine lv_aload_n hx hb dX7_pages_16 rfl (lv_at hl 0 rfl) ?_
        refine fa_getr (k := 397) (j := 398) CX HX1717 fl_X7_7 (by omega) rfl rfl hM.1 dX7_pages_17 ?_
        refine lv_iload_n hx hb dX7_pages_20 rfl (lv_at hl 2 rfl) ?_
        refine fa_callSip (As := [.int (nI (j))]) (rest := [.ref (fa_B G + (398)), .int (ac)]) CX HX1717 (r_f l G n v r (j)) ln_X7_36 rfl rfl (Nat.le_of_ble_eq_true rfl) hl.1 ⟨Nat.le_of_ble_eq_true rfl, Nat.le_of_ble_eq_true rfl⟩ ⟨Nat.le_refl _, Nat.le_refl _⟩ dX7_pages_21 (fun x1719 H locs h1718 HX1720 => ?_)
        subst h1718
        refine lv_iconst (v := nI (2)) hx hb dX7_pages_24 (by decide) ?_
        refine fa_iaddN hx hb dX7_pages_25 ?_
        refine fa_iald (k := 398) (j := 17 + 15 * j + 2) CX HX1720 (by omega) rfl (by omega) (by first | decide | assumption) dX7_pages_26 ?_
        refine lv_iadd hx hb dX7_pages_27 ?_
        refine lv_istore_n (lv' := [(1, .int ((ac) + (v 398 (17 + 15 * j + 2)))), (0, .ref (fa_B G + (397))), (2, .int (nI (j)))]) hx hb dX7_pages_28 rfl hl (by decide) rfl (fun ls hl => ?_)
        refine lv_iinc (v := nI (j + 1)) (lv' := [(2, .int (nI (j + 1))), (1, .int ((ac) + (v 398 (17 + 15 * j + 2)))), (0, .ref (fa_B G + (397)))]) hx hb dX7_pages_29 hl (k := 2) rfl (nI_add (j) 1) (by decide) rfl (fun ls hl => ?_)
        refine lv_goto (tgt := 4) hx hb dX7_pages_32 (by decide) ?_
        exact ih_4 (j + 1) ((ac) + (v 398 (17 + 15 * j + 2)))  _ _ _ (by omega) (⟨by omega, by rw [hi_4.2]; rfl⟩) (lv_sub hl [2, 1, 0] rfl) HX1720
  exact LOOP_4 (n4 - 0 + 1) (0) (nI (0))  _ _ _ (Nat.lt_succ_self _) (⟨Nat.zero_le _, rfl⟩) (lv_sub hl [2, 1, 0] rfl) HX
set_option maxHeartbeats 4000000 in
set_option maxRecDepth 100000 in
theorem r_due (l : Launch) (G : fa_G) (n : Nat) (hn : 406 ≤ n) (v : fa_V) (r : fa_R) (hM : fa_RM r) (hS : fa_MS (v 398)) (u : Nat) (hu : u < 24) : fa_MI l G n yX7_due cX7_due 4 (some .int) 2 [.ref (fa_B G + (397)), .int (nI (u))] v r (fun x w => w = (v, r) ∧ (x = fb_dum (v 398) u)) := by
  refine fa_startI (by decide +kernel) (Nat.le_of_ble_eq_true rfl) (fun p e s m args below meth c ls Q CX hl HX RET => ?_)
  have hl : lv_has ls 4 [(0, .ref (fa_B G + (397))), (1, .int (nI (u)))] := hl
  have hx := CX.1.1
  have hb := CX.1.2.1
  obtain ⟨n4, en4⟩ : ∃ m, m = fa_N (v 398 14) := ⟨_, rfl⟩
  obtain ⟨hn4, g4⟩ := hS.n4 en4
  obtain ⟨n5, en5⟩ : ∃ m, m = fa_N (v 398 15) := ⟨_, rfl⟩
  obtain ⟨hn5, g5⟩ := hS.n5 en5
  obtain ⟨n6, en6⟩ : ∃ m, m = fa_N (v 398 16) := ⟨_, rfl⟩
  obtain ⟨hn6, g6⟩ := hS.n6 en6
  obtain ⟨kd, hkd, ekd⟩ := hS.kd hu
  refine lv_iload_n hx hb dX7_due_0 rfl (lv_at hl 1 rfl) ?_
  refine fa_callSip (As := [.int (nI (u))]) (rest := []) CX HX (r_f l G n v r (u)) ln_X7_36 rfl rfl (Nat.le_of_ble_eq_true rfl) hl.1 ⟨Nat.le_of_ble_eq_true rfl, Nat.le_of_ble_eq_true rfl⟩ ⟨Nat.le_refl _, Nat.le_refl _⟩ dX7_due_1 (fun x1722 H locs h1721 HX1723 => ?_)
  subst h1721
  refine lv_istore_n (lv' := [(2, .int (nI (17 + 15 * u))), (0, .ref (fa_B G + (397))), (1, .int (nI (u)))]) hx hb dX7_due_4 rfl hl (by decide) rfl (fun ls hl => ?_)
  refine lv_aload_n hx hb dX7_due_5 rfl (lv_at hl 1 rfl) ?_
  refine fa_getr (k := 397) (j := 398) CX HX1723 fl_X7_7 (by omega) rfl rfl hM.1 dX7_due_6 ?_
  refine lv_aload_n hx hb dX7_due_9 rfl (lv_at hl 1 rfl) ?_
  refine fa_getr (k := 397) (j := 398) CX HX1723 fl_X7_7 (by omega) rfl rfl hM.1 dX7_due_10 ?_
  refine lv_iload_n hx hb dX7_due_13 rfl (lv_at hl 0 rfl) ?_
  refine lv_iconst (v := nI (1)) hx hb dX7_due_14 (by decide) ?_
  refine fa_iaddN hx hb dX7_due_15 ?_
  refine fa_iald (k := 398) (j := 17 + 15 * u + 1) CX HX1723 (by omega) rfl (by omega) (by first | decide | assumption) dX7_due_16 ?_
  rw [show v 398 (17 + 15 * u + 1) = nI (kd) from ekd]
  refine fa_iald (k := 398) (j := kd) CX HX1723 (by omega) rfl (by omega) (by first | decide | assumption) dX7_due_17 ?_
  refine lv_aload_n hx hb dX7_due_18 rfl (lv_at hl 1 rfl) ?_
  refine fa_getr (k := 397) (j := 398) CX HX1723 fl_X7_7 (by omega) rfl rfl hM.1 dX7_due_19 ?_
  refine lv_iload_n hx hb dX7_due_22 rfl (lv_at hl 0 rfl) ?_
  refine lv_iconst (v := nI (5)) hx hb dX7_due_23 (by decide) ?_
  refine fa_iaddN hx hb dX7_due_24 ?_
  refine fa_iald (k := 398) (j := 17 + 15 * u + 5) CX HX1723 (by omega) rfl (by omega) (by first | decide | assumption) dX7_due_25 ?_
  refine lv_aload_n hx hb dX7_due_26 rfl (lv_at hl 1 rfl) ?_
  refine fa_getr (k := 397) (j := 398) CX HX1723 fl_X7_7 (by omega) rfl rfl hM.1 dX7_due_27 ?_
  refine lv_iconst (v := nI (5)) hx hb dX7_due_30 (by decide) ?_
  refine fa_iald (k := 398) (j := 5) CX HX1723 (by omega) rfl (by omega) (by first | decide | assumption) dX7_due_31 ?_
  refine lv_icmp_lt (tgt := 39) hx hb dX7_due_32 (by decide) (fun c_32 => ?_) (fun c_32 => ?_)
  · refine lv_iconst (v := nI (1)) hx hb dX7_due_39 (by decide) ?_
    refine lv_imul hx hb dX7_due_40 ?_
    refine lv_istore_n (lv' := [(3, .int ((v 398 kd) * (nI (1)))), (2, .int (nI (17 + 15 * u))), (0, .ref (fa_B G + (397))), (1, .int (nI (u)))]) hx hb dX7_due_41 rfl hl (by decide) rfl (fun ls hl => ?_)
    refine lv_iload_n hx hb dX7_due_42 rfl (lv_at hl 0 rfl) ?_
    refine lv_aload_n hx hb dX7_due_43 rfl (lv_at hl 2 rfl) ?_
    refine fa_getr (k := 397) (j := 398) CX HX1723 fl_X7_7 (by omega) rfl rfl hM.1 dX7_due_44 ?_
    refine lv_iload_n hx hb dX7_due_47 rfl (lv_at hl 1 rfl) ?_
    refine lv_iconst (v := nI (4)) hx hb dX7_due_48 (by decide) ?_
    refine fa_iaddN hx hb dX7_due_49 ?_
    refine fa_iald (k := 398) (j := 17 + 15 * u + 4) CX HX1723 (by omega) rfl (by omega) (by first | decide | assumption) dX7_due_50 ?_
    refine lv_if_ge (tgt := 65) hx hb dX7_due_51 (by decide) (fun c_51 => ?_) (fun c_51 => ?_)
    · refine lv_aload_n hx hb dX7_due_65 rfl (lv_at hl 2 rfl) ?_
      refine fa_getr (k := 397) (j := 398) CX HX1723 fl_X7_7 (by omega) rfl rfl hM.1 dX7_due_66 ?_
      refine lv_iload_n hx hb dX7_due_69 rfl (lv_at hl 1 rfl) ?_
      refine lv_iconst (v := nI (4)) hx hb dX7_due_70 (by decide) ?_
      refine fa_iaddN hx hb dX7_due_71 ?_
      refine fa_iald (k := 398) (j := 17 + 15 * u + 4) CX HX1723 (by omega) rfl (by omega) (by first | decide | assumption) dX7_due_72 ?_
      refine lv_iadd hx hb dX7_due_73 ?_
      exact RET _ _ _ _ _ _ _ HX1723 dX7_due_74 (⟨rfl, (by unfold fb_dum; rw [ekd, fa_N_nI (by omega), if_pos c_32, if_neg (Int32.not_lt.mpr c_51)])⟩)
    · refine lv_aload_n hx hb dX7_due_54 rfl (lv_at hl 2 rfl) ?_
      refine fa_getr (k := 397) (j := 398) CX HX1723 fl_X7_7 (by omega) rfl rfl hM.1 dX7_due_55 ?_
      refine lv_iload_n hx hb dX7_due_58 rfl (lv_at hl 1 rfl) ?_
      refine lv_iconst (v := nI (3)) hx hb dX7_due_59 (by decide) ?_
      refine fa_iaddN hx hb dX7_due_60 ?_
      refine fa_iald (k := 398) (j := 17 + 15 * u + 3) CX HX1723 (by omega) rfl (by omega) (by first | decide | assumption) dX7_due_61 ?_
      refine lv_goto (tgt := 73) hx hb dX7_due_62 (by decide) ?_
      refine lv_iadd hx hb dX7_due_73 ?_
      exact RET _ _ _ _ _ _ _ HX1723 dX7_due_74 (⟨rfl, (by unfold fb_dum; rw [ekd, fa_N_nI (by omega), if_pos c_32, if_pos (Int32.not_le.mp c_51)])⟩)
  · refine lv_iconst (v := nI (2)) hx hb dX7_due_35 (by decide) ?_
    refine lv_goto (tgt := 40) hx hb dX7_due_36 (by decide) ?_
    refine lv_imul hx hb dX7_due_40 ?_
    refine lv_istore_n (lv' := [(3, .int ((v 398 kd) * (nI (2)))), (2, .int (nI (17 + 15 * u))), (0, .ref (fa_B G + (397))), (1, .int (nI (u)))]) hx hb dX7_due_41 rfl hl (by decide) rfl (fun ls hl => ?_)
    refine lv_iload_n hx hb dX7_due_42 rfl (lv_at hl 0 rfl) ?_
    refine lv_aload_n hx hb dX7_due_43 rfl (lv_at hl 2 rfl) ?_
    refine fa_getr (k := 397) (j := 398) CX HX1723 fl_X7_7 (by omega) rfl rfl hM.1 dX7_due_44 ?_
    refine lv_iload_n hx hb dX7_due_47 rfl (lv_at hl 1 rfl) ?_
    refine lv_iconst (v := nI (4)) hx hb dX7_due_48 (by decide) ?_
    refine fa_iaddN hx hb dX7_due_49 ?_
    refine fa_iald (k := 398) (j := 17 + 15 * u + 4) CX HX1723 (by omega) rfl (by omega) (by first | decide | assumption) dX7_due_50 ?_
    refine lv_if_ge (tgt := 65) hx hb dX7_due_51 (by decide) (fun c_51 => ?_) (fun c_51 => ?_)
    · refine lv_aload_n hx hb dX7_due_65 rfl (lv_at hl 2 rfl) ?_
      refine fa_getr (k := 397) (j := 398) CX HX1723 fl_X7_7 (by omega) rfl rfl hM.1 dX7_due_66 ?_
      refine lv_iload_n hx hb dX7_due_69 rfl (lv_at hl 1 rfl) ?_
      refine lv_iconst (v := nI (4)) hx hb dX7_due_70 (by decide) ?_
      refine fa_iaddN hx hb dX7_due_71 ?_
      refine fa_iald (k := 398) (j := 17 + 15 * u + 4) CX HX1723 (by omega) rfl (by omega) (by first | decide | assumption) dX7_due_72 ?_
      refine lv_iadd hx hb dX7_due_73 ?_
      exact RET _ _ _ _ _ _ _ HX1723 dX7_due_74 (⟨rfl, (by unfold fb_dum; rw [ekd, fa_N_nI (by omega), if_neg c_32, if_neg (Int32.not_lt.mpr c_51)])⟩)
    · refine lv_aload_n hx hb dX7_due_54 rfl (lv_at hl 2 rfl) ?_
      refine fa_getr (k := 397) (j := 398) CX HX1723 fl_X7_7 (by omega) rfl rfl hM.1 dX7_due_55 ?_
      refine lv_iload_n hx hb dX7_due_58 rfl (lv_at hl 1 rfl) ?_
      refine lv_iconst (v := nI (3)) hx hb dX7_due_59 (by decide) ?_
      refine fa_iaddN hx hb dX7_due_60 ?_
      refine fa_iald (k := 398) (j := 17 + 15 * u + 3) CX HX1723 (by omega) rfl (by omega) (by first | decide | assumption) dX7_due_61 ?_
      refine lv_goto (tgt := 73) hx hb dX7_due_62 (by decide) ?_
      refine lv_iadd hx hb dX7_due_73 ?_
      exact RET _ _ _ _ _ _ _ HX1723 dX7_due_74 (⟨rfl, (by unfold fb_dum; rw [ekd, fa_N_nI (by omega), if_neg c_32, if_pos (Int32.not_le.mp c_51)])⟩)
set_option maxHeartbeats 4000000 in
set_option maxRecDepth 100000 in
theorem r_holds (l : Launch) (G : fa_G) (n : Nat) (hn : 406 ≤ n) (v : fa_V) (r : fa_R) (hM : fa_RM r) (u hd : Nat) (hu : u < 24) (hhd : hd < 8) : fa_MI l G n yX7_holds cX7_holds 3 (some .boolean) 2 [.ref (fa_B G + (397)), .int (nI (u)), .int (nI (hd))] v r (fun x w => w = (v, r) ∧ (x = if v 398 7 < v 398 (17 + 15 * u + 7 + hd) then nI 1 else nI 0)) := by
  refine fa_startZ (by decide +kernel) (Nat.le_of_ble_eq_true rfl) (fun p e s m args below meth c ls Q CX hl HX RET => ?_)
  have hl : lv_has ls 3 [(0, .ref (fa_B G + (397))), (1, .int (nI (u))), (2, .int (nI (hd)))] := hl
  have hx := CX.1.1
  have hb := CX.1.2.1
  refine lv_aload_n hx hb dX7_holds_0 rfl (lv_at hl 0 rfl) ?_
  refine fa_getr (k := 397) (j := 398) CX HX fl_X7_7 (by omega) rfl rfl hM.1 dX7_holds_1 ?_
  refine lv_iload_n hx hb dX7_holds_4 rfl (lv_at hl 1 rfl) ?_
  refine fa_callSip (As := [.int (nI (u))]) (rest := [.ref (fa_B G + (398))]) CX HX (r_f l G n v r (u)) ln_X7_36 rfl rfl (Nat.le_of_ble_eq_true rfl) hl.1 ⟨Nat.le_of_ble_eq_true rfl, Nat.le_of_ble_eq_true rfl⟩ ⟨Nat.le_refl _, Nat.le_refl _⟩ dX7_holds_5 (fun x1725 H locs h1724 HX1726 => ?_)
  subst h1724
  refine lv_bipush (v := nI (7)) hx hb dX7_holds_8 (by decide) ?_
  refine fa_iaddN hx hb dX7_holds_10 ?_
  refine lv_iload_n hx hb dX7_holds_11 rfl (lv_at hl 2 rfl) ?_
  refine fa_iaddN hx hb dX7_holds_12 ?_
  refine fa_iald (k := 398) (j := 17 + 15 * u + 7 + hd) CX HX1726 (by omega) rfl (by omega) (by first | decide | assumption) dX7_holds_13 ?_
  refine lv_aload_n hx hb dX7_holds_14 rfl (lv_at hl 0 rfl) ?_
  refine fa_getr (k := 397) (j := 398) CX HX1726 fl_X7_7 (by omega) rfl rfl hM.1 dX7_holds_15 ?_
  refine lv_bipush (v := nI (7)) hx hb dX7_holds_18 (by decide) ?_
  refine fa_iald (k := 398) (j := 7) CX HX1726 (by omega) rfl (by omega) (by first | decide | assumption) dX7_holds_20 ?_
  refine lv_icmp_le (tgt := 28) hx hb dX7_holds_21 (by decide) (fun c_21 => ?_) (fun c_21 => ?_)
  · refine lv_iconst (v := nI (0)) hx hb dX7_holds_28 (by decide) ?_
    exact RET _ _ _ _ _ _ _ HX1726 dX7_holds_29 (by decide) (⟨rfl, (if_neg (Int32.not_lt.mpr c_21)).symm⟩)
  · refine lv_iconst (v := nI (1)) hx hb dX7_holds_24 (by decide) ?_
    refine lv_goto (tgt := 29) hx hb dX7_holds_25 (by decide) ?_
    exact RET _ _ _ _ _ _ _ HX1726 dX7_holds_29 (by decide) (⟨rfl, (if_pos (Int32.not_le.mp c_21)).symm⟩)
set_option maxHeartbeats 4000000 in
set_option maxRecDepth 100000 in
theorem r_sealing (l : Launch) (G : fa_G) (n : Nat) (hn : 406 ≤ n) (v : fa_V) (r : fa_R) (hM : fa_RM r) (hS : fa_MS (v 398)) (u : Nat) (hu : u < 24) : fa_MI l G n yX7_sealing cX7_sealing 4 (some .int) 3 [.ref (fa_B G + (397)), .int (nI (u))] v r (fun x w => w = (v, r) ∧ (x = fb_msm (v 398) u)) := by
  refine fa_startI (by decide +kernel) (Nat.le_of_ble_eq_true rfl) (fun p e s m args below meth c ls Q CX hl HX RET => ?_)
  have hl : lv_has ls 4 [(0, .ref (fa_B G + (397))), (1, .int (nI (u)))] := hl
  have hx := CX.1.1
  have hb := CX.1.2.1
  obtain ⟨n4, en4⟩ : ∃ m, m = fa_N (v 398 14) := ⟨_, rfl⟩
  obtain ⟨hn4, g4⟩ := hS.n4 en4
  obtain ⟨n5, en5⟩ : ∃ m, m = fa_N (v 398 15) := ⟨_, rfl⟩
  obtain ⟨hn5, g5⟩ := hS.n5 en5
  obtain ⟨n6, en6⟩ : ∃ m, m = fa_N (v 398 16) := ⟨_, rfl⟩
  obtain ⟨hn6, g6⟩ := hS.n6 en6
  refine lv_iconst (v := nI (0)) hx hb dX7_sealing_0 (by decide) ?_
  refine lv_istore_n (lv' := [(2, .int (nI (0))), (0, .ref (fa_B G + (397))), (1, .int (nI (u)))]) hx hb dX7_sealing_1 rfl hl (by decide) rfl (fun ls hl => ?_)
  refine lv_iconst (v := nI (0)) hx hb dX7_sealing_2 (by decide) ?_
  refine lv_istore_n (lv' := [(3, .int (nI (0))), (2, .int (nI (0))), (0, .ref (fa_B G + (397))), (1, .int (nI (u)))]) hx hb dX7_sealing_3 rfl hl (by decide) rfl (fun ls hl => ?_)
  have LOOP_4 : ∀ (fu : Nat) (j : Nat) (mk : Int32) (H : Heap) (locs : List Loc) (ls : Array Slot), 8 - j < fu → (j ≤ 8 ∧ mk = fa_mask (fun h => decide (v 398 7 < v 398 (17 + 15 * u + 7 + h))) j) → lv_has ls 4 [(0, .ref (fa_B G + (397))), (1, .int (nI (u))), (2, .int (mk)), (3, .int (nI (j)))] → fa_HX G (n) v r s H locs → W p l e (fa_rm 3) s m args below meth c H locs (0) (0) Q (F0 m 4 ls []) := by
    intro fu
    induction fu with
    | zero => intro j mk H locs ls hk; exact absurd hk (Nat.not_lt_zero _)
    | succ fu ih_4 =>
      intro j mk H locs ls hk_4 hi_4 hl HX1727
      refine lv_iload_n hx hb dX7_sealing_4 rfl (lv_at hl 3 rfl) ?_
      refine lv_bipush (v := nI (8)) hx hb dX7_sealing_5 (by decide) ?_
      refine lv_icmp_ge (tgt := 35) hx hb dX7_sealing_7 (by decide) (fun c_7 => ?_) (fun c_7 => ?_)
      · have hjn : j = 8 := by
          have := fa_leN (by omega) (by omega) c_7
          omega
        refine lv_iload_n hx hb dX7_sealing_35 rfl (lv_at hl 2 rfl) ?_
        exact RET _ _ _ _ _ _ _ HX1727 dX7_sealing_36 (⟨rfl, (by unfold fb_msm; rw [hi_4.2, hjn])⟩)
      · have hj := fa_ltN (by omega) (by omega) c_7
        refine lv_iload_n hx hb dX7_sealing_10 rfl (lv_at hl 2 rfl) ?_
        refine lv_aload_n hx hb dX7_sealing_11 rfl (lv_at hl 0 rfl) ?_
        refine lv_iload_n hx hb dX7_sealing_12 rfl (lv_at hl 1 rfl) ?_
        refine lv_iload_n hx hb dX7_sealing_13 rfl (lv_at hl 3 rfl) ?_
        refine fa_callVip (As := [.int (nI (u)), .int (nI (j))]) (rest := [.int (mk)]) CX HX1727 (r_holds l G n hn v r hM (u) (j) (by omega) (by omega)) ln_X7_44 (by omega) rfl rfl rfl rfl (Nat.le_of_ble_eq_true rfl) hl.1 ⟨Nat.le_of_ble_eq_true rfl, Nat.le_of_ble_eq_true rfl⟩ ⟨Nat.le_refl _, Nat.le_refl _⟩ dX7_sealing_14 (fun x1729 H locs h1728 HX1730 => ?_)
        have h_holds := h1728
        refine lv_if_eq (tgt := 26) hx hb dX7_sealing_17 (by decide) (fun c_17 => ?_) (fun c_17 => ?_)
        · refine lv_iconst (v := nI (0)) hx hb dX7_sealing_26 (by decide) ?_
          refine lv_ior hx hb dX7_sealing_27 ?_
          refine lv_istore_n (lv' := [(2, .int ((mk) ||| (nI (0)))), (0, .ref (fa_B G + (397))), (1, .int (nI (u))), (3, .int (nI (j)))]) hx hb dX7_sealing_28 rfl hl (by decide) rfl (fun ls hl => ?_)
          refine lv_iinc (v := nI (j + 1)) (lv' := [(3, .int (nI (j + 1))), (2, .int ((mk) ||| (nI (0)))), (0, .ref (fa_B G + (397))), (1, .int (nI (u)))]) hx hb dX7_sealing_29 hl (k := 3) rfl (nI_add (j) 1) (by decide) rfl (fun ls hl => ?_)
          refine lv_goto (tgt := 4) hx hb dX7_sealing_32 (by decide) ?_
          exact ih_4 (j + 1) ((mk) ||| (nI (0)))  _ _ _ (by omega) (⟨by omega, by rw [hi_4.2]; exact fb_mask_or0 (c := (fun h => decide (v 398 7 < v 398 (17 + 15 * u + 7 + h)))) (fun z => by rw [h_holds, if_pos (of_decide_eq_true z)] at c_17; exact absurd c_17 (by decide))⟩) (lv_sub hl [2, 3, 1, 0] rfl) HX1730
        · refine lv_iconst (v := nI (1)) hx hb dX7_sealing_20 (by decide) ?_
          refine lv_iload_n hx hb dX7_sealing_21 rfl (lv_at hl 3 rfl) ?_
          refine lv_ishl hx hb dX7_sealing_22 ?_
          refine lv_goto (tgt := 27) hx hb dX7_sealing_23 (by decide) ?_
          refine lv_ior hx hb dX7_sealing_27 ?_
          refine lv_istore_n (lv' := [(2, .int ((mk) ||| ((nI (1)) <<< ((nI (j)) &&& 31)))), (0, .ref (fa_B G + (397))), (1, .int (nI (u))), (3, .int (nI (j)))]) hx hb dX7_sealing_28 rfl hl (by decide) rfl (fun ls hl => ?_)
          refine lv_iinc (v := nI (j + 1)) (lv' := [(3, .int (nI (j + 1))), (2, .int ((mk) ||| ((nI (1)) <<< ((nI (j)) &&& 31)))), (0, .ref (fa_B G + (397))), (1, .int (nI (u)))]) hx hb dX7_sealing_29 hl (k := 3) rfl (nI_add (j) 1) (by decide) rfl (fun ls hl => ?_)
          refine lv_goto (tgt := 4) hx hb dX7_sealing_32 (by decide) ?_
          exact ih_4 (j + 1) ((mk) ||| ((nI (1)) <<< ((nI (j)) &&& 31)))  _ _ _ (by omega) (⟨by omega, by rw [hi_4.2]; exact fa_mask_t (c := (fun h => decide (v 398 7 < v 398 (17 + 15 * u + 7 + h)))) (decide_eq_true (Decidable.byContradiction (fun z => c_17 (by rw [h_holds, if_neg z]; rfl))))⟩) (lv_sub hl [2, 3, 1, 0] rfl) HX1730
  exact LOOP_4 (8 - 0 + 1) (0) (nI (0))  _ _ _ (Nat.lt_succ_self _) (⟨Nat.zero_le _, rfl⟩) (lv_sub hl [2, 3, 1, 0] rfl) HX
set_option maxHeartbeats 4000000 in
set_option maxRecDepth 100000 in
theorem r_bits (l : Launch) (G : fa_G) (n : Nat) (v : fa_V) (r : fa_R) (a1 : Int32) : fa_MI l G n yX7_bits cX7_bits 3 (some .int) 1 [.int (a1)] v r (fun x w => w = (v, r) ∧ (x = fb_bits a1)) := by
  refine fa_startI (by decide +kernel) (Nat.le_of_ble_eq_true rfl) (fun p e s m args below meth c ls Q CX hl HX RET => ?_)
  have hl : lv_has ls 3 [(0, .int (a1))] := hl
  have hx := CX.1.1
  have hb := CX.1.2.1
  refine lv_iconst (v := nI (0)) hx hb dX7_bits_0 (by decide) ?_
  refine lv_istore_n (lv' := [(1, .int (nI (0))), (0, .int (a1))]) hx hb dX7_bits_1 rfl hl (by decide) rfl (fun ls hl => ?_)
  refine lv_iconst (v := nI (0)) hx hb dX7_bits_2 (by decide) ?_
  refine lv_istore_n (lv' := [(2, .int (nI (0))), (1, .int (nI (0))), (0, .int (a1))]) hx hb dX7_bits_3 rfl hl (by decide) rfl (fun ls hl => ?_)
  have LOOP_4 : ∀ (fu : Nat) (j : Nat) (ac : Int32) (H : Heap) (locs : List Loc) (ls : Array Slot), 8 - j < fu → (j ≤ 8 ∧ ac = fa_sum (fun k => (a1 >>> (nI k &&& 31)) &&& nI 1) j) → lv_has ls 3 [(0, .int (a1)), (1, .int (ac)), (2, .int (nI (j)))] → fa_HX G (n) v r s H locs → W p l e (fa_rm 1) s m args below meth c H locs (0) (0) Q (F0 m 4 ls []) := by
    intro fu
    induction fu with
    | zero => intro j ac H locs ls hk; exact absurd hk (Nat.not_lt_zero _)
    | succ fu ih_4 =>
      intro j ac H locs ls hk_4 hi_4 hl HX1731
      refine lv_iload_n hx hb dX7_bits_4 rfl (lv_at hl 2 rfl) ?_
      refine lv_bipush (v := nI (8)) hx hb dX7_bits_5 (by decide) ?_
      refine lv_icmp_ge (tgt := 24) hx hb dX7_bits_7 (by decide) (fun c_7 => ?_) (fun c_7 => ?_)
      · have hjn : j = 8 := by
          have := fa_leN (by omega) (by omega) c_7
          omega
        refine lv_iload_n hx hb dX7_bits_24 rfl (lv_at hl 1 rfl) ?_
        exact RET _ _ _ _ _ _ _ HX1731 dX7_bits_25 (⟨rfl, (by unfold fb_bits; rw [hi_4.2, hjn])⟩)
      · have hj := fa_ltN (by omega) (by omega) c_7
        refine lv_iload_n hx hb dX7_bits_10 rfl (lv_at hl 1 rfl) ?_
        refine lv_iload_n hx hb dX7_bits_11 rfl (lv_at hl 0 rfl) ?_
        refine lv_iload_n hx hb dX7_bits_12 rfl (lv_at hl 2 rfl) ?_
        refine lv_ishr hx hb dX7_bits_13 ?_
        refine lv_iconst (v := nI (1)) hx hb dX7_bits_14 (by decide) ?_
        refine lv_iand hx hb dX7_bits_15 ?_
        refine lv_iadd hx hb dX7_bits_16 ?_
        refine lv_istore_n (lv' := [(1, .int ((ac) + (((a1) >>> ((nI (j)) &&& 31)) &&& (nI (1))))), (0, .int (a1)), (2, .int (nI (j)))]) hx hb dX7_bits_17 rfl hl (by decide) rfl (fun ls hl => ?_)
        refine lv_iinc (v := nI (j + 1)) (lv' := [(2, .int (nI (j + 1))), (1, .int ((ac) + (((a1) >>> ((nI (j)) &&& 31)) &&& (nI (1))))), (0, .int (a1))]) hx hb dX7_bits_18 hl (k := 2) rfl (nI_add (j) 1) (by decide) rfl (fun ls hl => ?_)
        refine lv_goto (tgt := 4) hx hb dX7_bits_21 (by decide) ?_
        exact ih_4 (j + 1) ((ac) + (((a1) >>> ((nI (j)) &&& 31)) &&& (nI (1))))  _ _ _ (by omega) (⟨by omega, by rw [hi_4.2]; rfl⟩) (lv_sub hl [2, 1, 0] rfl) HX1731
  exact LOOP_4 (8 - 0 + 1) (0) (nI (0))  _ _ _ (Nat.lt_succ_self _) (⟨Nat.zero_le _, rfl⟩) (lv_sub hl [2, 1, 0] rfl) HX
set_option maxHeartbeats 4000000 in
set_option maxRecDepth 100000 in
theorem r_reservations (l : Launch) (G : fa_G) (n : Nat) (hn : 406 ≤ n) (v : fa_V) (r : fa_R) (hM : fa_RM r) (hS : fa_MS (v 398)) (a1 : Int32) : fa_MI l G n yX7_reservations cX7_reservations 4 (some .int) 1 [.ref (fa_B G + (397)), .int (a1)] v r (fun x w => w = (v, r) ∧ (x = fb_rsm (v 398) a1)) := by
  refine fa_startI (by decide +kernel) (Nat.le_of_ble_eq_true rfl) (fun p e s m args below meth c ls Q CX hl HX RET => ?_)
  have hl : lv_has ls 4 [(0, .ref (fa_B G + (397))), (1, .int (a1))] := hl
  have hx := CX.1.1
  have hb := CX.1.2.1
  obtain ⟨n4, en4⟩ : ∃ m, m = fa_N (v 398 14) := ⟨_, rfl⟩
  obtain ⟨hn4, g4⟩ := hS.n4 en4
  obtain ⟨n5, en5⟩ : ∃ m, m = fa_N (v 398 15) := ⟨_, rfl⟩
  obtain ⟨hn5, g5⟩ := hS.n5 en5
  obtain ⟨n6, en6⟩ : ∃ m, m = fa_N (v 398 16) := ⟨_, rfl⟩
  obtain ⟨hn6, g6⟩ := hS.n6 en6
  refine lv_iconst (v := nI (0)) hx hb dX7_reservations_0 (by decide) ?_
  refine lv_istore_n (lv' := [(2, .int (nI (0))), (0, .ref (fa_B G + (397))), (1, .int (a1))]) hx hb dX7_reservations_1 rfl hl (by decide) rfl (fun ls hl => ?_)
  refine lv_iconst (v := nI (0)) hx hb dX7_reservations_2 (by decide) ?_
  refine lv_istore_n (lv' := [(3, .int (nI (0))), (2, .int (nI (0))), (0, .ref (fa_B G + (397))), (1, .int (a1))]) hx hb dX7_reservations_3 rfl hl (by decide) rfl (fun ls hl => ?_)
  have LOOP_4 : ∀ (fu : Nat) (j : Nat) (ac : Int32) (H : Heap) (locs : List Loc) (ls : Array Slot), n5 - j < fu → (j ≤ n5 ∧ ac = fa_sum (fun k => if v 398 (377 + 2 * k) = a1 then 1 else 0) j) → lv_has ls 4 [(0, .ref (fa_B G + (397))), (1, .int (a1)), (2, .int (ac)), (3, .int (nI (j)))] → fa_HX G (n) v r s H locs → W p l e (fa_rm 1) s m args below meth c H locs (0) (0) Q (F0 m 4 ls []) := by
    intro fu
    induction fu with
    | zero => intro j ac H locs ls hk; exact absurd hk (Nat.not_lt_zero _)
    | succ fu ih_4 =>
      intro j ac H locs ls hk_4 hi_4 hl HX1732
      refine lv_iload_n hx hb dX7_reservations_4 rfl (lv_at hl 3 rfl) ?_
      refine lv_aload_n hx hb dX7_reservations_5 rfl (lv_at hl 0 rfl) ?_
      refine fa_getr (k := 397) (j := 398) CX HX1732 fl_X7_7 (by omega) rfl rfl hM.1 dX7_reservations_6 ?_
      refine lv_bipush (v := nI (15)) hx hb dX7_reservations_9 (by decide) ?_
      refine fa_iald (k := 398) (j := 15) CX HX1732 (by omega) rfl (by omega) (by first | decide | assumption) dX7_reservations_11 ?_
      rw [show v 398 15 = nI (n5) from g5]
      refine lv_icmp_ge (tgt := 45) hx hb dX7_reservations_12 (by decide) (fun c_12 => ?_) (fun c_12 => ?_)
      · have hjn : j = n5 := by
          have := fa_leN (by omega) (by omega) c_12
          omega
        refine lv_iload_n hx hb dX7_reservations_45 rfl (lv_at hl 2 rfl) ?_
        exact RET _ _ _ _ _ _ _ HX1732 dX7_reservations_46 (⟨rfl, (by unfold fb_rsm; rw [← en5, ← hjn]; exact hi_4.2)⟩)
      · have hj := fa_ltN (by omega) (by omega) c_12
        refine lv_iload_n hx hb dX7_reservations_15 rfl (lv_at hl 2 rfl) ?_
        refine lv_aload_n hx hb dX7_reservations_16 rfl (lv_at hl 0 rfl) ?_
        refine fa_getr (k := 397) (j := 398) CX HX1732 fl_X7_7 (by omega) rfl rfl hM.1 dX7_reservations_17 ?_
        refine lv_sipush (v := nI (377)) hx hb dX7_reservations_20 (by decide) ?_
        refine lv_iconst (v := nI (2)) hx hb dX7_reservations_23 (by decide) ?_
        refine lv_iload_n hx hb dX7_reservations_24 rfl (lv_at hl 3 rfl) ?_
        refine fa_imulN hx hb dX7_reservations_25 ?_
        refine fa_iaddN hx hb dX7_reservations_26 ?_
        refine fa_iald (k := 398) (j := 377 + (2 * j)) CX HX1732 (by omega) rfl (by omega) (by first | decide | assumption) dX7_reservations_27 ?_
        refine lv_iload_n hx hb dX7_reservations_28 rfl (lv_at hl 1 rfl) ?_
        refine lv_icmp_ne (tgt := 36) hx hb dX7_reservations_29 (by decide) (fun c_29 => ?_) (fun c_29 => ?_)
        · refine lv_iconst (v := nI (0)) hx hb dX7_reservations_36 (by decide) ?_
          refine lv_iadd hx hb dX7_reservations_37 ?_
          refine lv_istore_n (lv' := [(2, .int ((ac) + (nI (0)))), (0, .ref (fa_B G + (397))), (1, .int (a1)), (3, .int (nI (j)))]) hx hb dX7_reservations_38 rfl hl (by decide) rfl (fun ls hl => ?_)
          refine lv_iinc (v := nI (j + 1)) (lv' := [(3, .int (nI (j + 1))), (2, .int ((ac) + (nI (0)))), (0, .ref (fa_B G + (397))), (1, .int (a1))]) hx hb dX7_reservations_39 hl (k := 3) rfl (nI_add (j) 1) (by decide) rfl (fun ls hl => ?_)
          refine lv_goto (tgt := 4) hx hb dX7_reservations_42 (by decide) ?_
          exact ih_4 (j + 1) ((ac) + (nI (0)))  _ _ _ (by omega) (⟨by omega, by rw [hi_4.2]; exact (Int32.add_zero _).trans (fa_sum_f c_29)⟩) (lv_sub hl [2, 3, 1, 0] rfl) HX1732
        · refine lv_iconst (v := nI (1)) hx hb dX7_reservations_32 (by decide) ?_
          refine lv_goto (tgt := 37) hx hb dX7_reservations_33 (by decide) ?_
          refine lv_iadd hx hb dX7_reservations_37 ?_
          refine lv_istore_n (lv' := [(2, .int ((ac) + (nI (1)))), (0, .ref (fa_B G + (397))), (1, .int (a1)), (3, .int (nI (j)))]) hx hb dX7_reservations_38 rfl hl (by decide) rfl (fun ls hl => ?_)
          refine lv_iinc (v := nI (j + 1)) (lv' := [(3, .int (nI (j + 1))), (2, .int ((ac) + (nI (1)))), (0, .ref (fa_B G + (397))), (1, .int (a1))]) hx hb dX7_reservations_39 hl (k := 3) rfl (nI_add (j) 1) (by decide) rfl (fun ls hl => ?_)
          refine lv_goto (tgt := 4) hx hb dX7_reservations_42 (by decide) ?_
          exact ih_4 (j + 1) ((ac) + (nI (1)))  _ _ _ (by omega) (⟨by omega, by rw [hi_4.2]; exact fa_sum_t (by first | exact c_29 | exact Decidable.not_not.mp c_29)⟩) (lv_sub hl [2, 3, 1, 0] rfl) HX1732
  exact LOOP_4 (n5 - 0 + 1) (0) (nI (0))  _ _ _ (Nat.lt_succ_self _) (⟨Nat.zero_le _, rfl⟩) (lv_sub hl [2, 3, 1, 0] rfl) HX
set_option maxHeartbeats 4000000 in
set_option maxRecDepth 100000 in
theorem r_referring (l : Launch) (G : fa_G) (n : Nat) (hn : 406 ≤ n) (v : fa_V) (r : fa_R) (hM : fa_RM r) (hS : fa_MS (v 398)) (a1 : Int32) : fa_MI l G n yX7_referring cX7_referring 4 (some .int) 2 [.ref (fa_B G + (397)), .int (a1)] v r (fun x w => w = (v, r) ∧ (x = fb_rfm (v 398) a1)) := by
  refine fa_startI (by decide +kernel) (Nat.le_of_ble_eq_true rfl) (fun p e s m args below meth c ls Q CX hl HX RET => ?_)
  have hl : lv_has ls 4 [(0, .ref (fa_B G + (397))), (1, .int (a1))] := hl
  have hx := CX.1.1
  have hb := CX.1.2.1
  obtain ⟨n4, en4⟩ : ∃ m, m = fa_N (v 398 14) := ⟨_, rfl⟩
  obtain ⟨hn4, g4⟩ := hS.n4 en4
  obtain ⟨n5, en5⟩ : ∃ m, m = fa_N (v 398 15) := ⟨_, rfl⟩
  obtain ⟨hn5, g5⟩ := hS.n5 en5
  obtain ⟨n6, en6⟩ : ∃ m, m = fa_N (v 398 16) := ⟨_, rfl⟩
  obtain ⟨hn6, g6⟩ := hS.n6 en6
  refine lv_iconst (v := nI (0)) hx hb dX7_referring_0 (by decide) ?_
  refine lv_istore_n (lv' := [(2, .int (nI (0))), (0, .ref (fa_B G + (397))), (1, .int (a1))]) hx hb dX7_referring_1 rfl hl (by decide) rfl (fun ls hl => ?_)
  refine lv_iconst (v := nI (0)) hx hb dX7_referring_2 (by decide) ?_
  refine lv_istore_n (lv' := [(3, .int (nI (0))), (2, .int (nI (0))), (0, .ref (fa_B G + (397))), (1, .int (a1))]) hx hb dX7_referring_3 rfl hl (by decide) rfl (fun ls hl => ?_)
  have LOOP_4 : ∀ (fu : Nat) (j : Nat) (ac : Int32) (H : Heap) (locs : List Loc) (ls : Array Slot), n4 - j < fu → (j ≤ n4 ∧ ac = fa_sum (fun p => if v 398 (17 + 15 * p + 6) = a1 then 1 else 0) j) → lv_has ls 4 [(0, .ref (fa_B G + (397))), (1, .int (a1)), (2, .int (ac)), (3, .int (nI (j)))] → fa_HX G (n) v r s H locs → W p l e (fa_rm 2) s m args below meth c H locs (0) (0) Q (F0 m 4 ls []) := by
    intro fu
    induction fu with
    | zero => intro j ac H locs ls hk; exact absurd hk (Nat.not_lt_zero _)
    | succ fu ih_4 =>
      intro j ac H locs ls hk_4 hi_4 hl HX1733
      refine lv_iload_n hx hb dX7_referring_4 rfl (lv_at hl 3 rfl) ?_
      refine lv_aload_n hx hb dX7_referring_5 rfl (lv_at hl 0 rfl) ?_
      refine fa_getr (k := 397) (j := 398) CX HX1733 fl_X7_7 (by omega) rfl rfl hM.1 dX7_referring_6 ?_
      refine lv_bipush (v := nI (14)) hx hb dX7_referring_9 (by decide) ?_
      refine fa_iald (k := 398) (j := 14) CX HX1733 (by omega) rfl (by omega) (by first | decide | assumption) dX7_referring_11 ?_
      rw [show v 398 14 = nI (n4) from g4]
      refine lv_icmp_ge (tgt := 45) hx hb dX7_referring_12 (by decide) (fun c_12 => ?_) (fun c_12 => ?_)
      · have hjn : j = n4 := by
          have := fa_leN (by omega) (by omega) c_12
          omega
        refine lv_iload_n hx hb dX7_referring_45 rfl (lv_at hl 2 rfl) ?_
        exact RET _ _ _ _ _ _ _ HX1733 dX7_referring_46 (⟨rfl, (by unfold fb_rfm; rw [← en4, ← hjn]; exact hi_4.2)⟩)
      · have hj := fa_ltN (by omega) (by omega) c_12
        refine lv_iload_n hx hb dX7_referring_15 rfl (lv_at hl 2 rfl) ?_
        refine lv_aload_n hx hb dX7_referring_16 rfl (lv_at hl 0 rfl) ?_
        refine fa_getr (k := 397) (j := 398) CX HX1733 fl_X7_7 (by omega) rfl rfl hM.1 dX7_referring_17 ?_
        refine lv_iload_n hx hb dX7_referring_20 rfl (lv_at hl 3 rfl) ?_
        refine fa_callSip (As := [.int (nI (j))]) (rest := [.ref (fa_B G + (398)), .int (ac)]) CX HX1733 (r_f l G n v r (j)) ln_X7_36 rfl rfl (Nat.le_of_ble_eq_true rfl) hl.1 ⟨Nat.le_of_ble_eq_true rfl, Nat.le_of_ble_eq_true rfl⟩ ⟨Nat.le_refl _, Nat.le_refl _⟩ dX7_referring_21 (fun x1735 H locs h1734 HX1736 => ?_)
        subst h1734
        refine lv_bipush (v := nI (6)) hx hb dX7_referring_24 (by decide) ?_
        refine fa_iaddN hx hb dX7_referring_26 ?_
        refine fa_iald (k := 398) (j := 17 + 15 * j + 6) CX HX1736 (by omega) rfl (by omega) (by first | decide | assumption) dX7_referring_27 ?_
        refine lv_iload_n hx hb dX7_referring_28 rfl (lv_at hl 1 rfl) ?_
        refine lv_icmp_ne (tgt := 36) hx hb dX7_referring_29 (by decide) (fun c_29 => ?_) (fun c_29 => ?_)
        · refine lv_iconst (v := nI (0)) hx hb dX7_referring_36 (by decide) ?_
          refine lv_iadd hx hb dX7_referring_37 ?_
          refine lv_istore_n (lv' := [(2, .int ((ac) + (nI (0)))), (0, .ref (fa_B G + (397))), (1, .int (a1)), (3, .int (nI (j)))]) hx hb dX7_referring_38 rfl hl (by decide) rfl (fun ls hl => ?_)
          refine lv_iinc (v := nI (j + 1)) (lv' := [(3, .int (nI (j + 1))), (2, .int ((ac) + (nI (0)))), (0, .ref (fa_B G + (397))), (1, .int (a1))]) hx hb dX7_referring_39 hl (k := 3) rfl (nI_add (j) 1) (by decide) rfl (fun ls hl => ?_)
          refine lv_goto (tgt := 4) hx hb dX7_referring_42 (by decide) ?_
          exact ih_4 (j + 1) ((ac) + (nI (0)))  _ _ _ (by omega) (⟨by omega, by rw [hi_4.2]; exact (Int32.add_zero _).trans (fa_sum_f c_29)⟩) (lv_sub hl [2, 3, 1, 0] rfl) HX1736
        · refine lv_iconst (v := nI (1)) hx hb dX7_referring_32 (by decide) ?_
          refine lv_goto (tgt := 37) hx hb dX7_referring_33 (by decide) ?_
          refine lv_iadd hx hb dX7_referring_37 ?_
          refine lv_istore_n (lv' := [(2, .int ((ac) + (nI (1)))), (0, .ref (fa_B G + (397))), (1, .int (a1)), (3, .int (nI (j)))]) hx hb dX7_referring_38 rfl hl (by decide) rfl (fun ls hl => ?_)
          refine lv_iinc (v := nI (j + 1)) (lv' := [(3, .int (nI (j + 1))), (2, .int ((ac) + (nI (1)))), (0, .ref (fa_B G + (397))), (1, .int (a1))]) hx hb dX7_referring_39 hl (k := 3) rfl (nI_add (j) 1) (by decide) rfl (fun ls hl => ?_)
          refine lv_goto (tgt := 4) hx hb dX7_referring_42 (by decide) ?_
          exact ih_4 (j + 1) ((ac) + (nI (1)))  _ _ _ (by omega) (⟨by omega, by rw [hi_4.2]; exact fa_sum_t (by first | exact c_29 | exact Decidable.not_not.mp c_29)⟩) (lv_sub hl [2, 3, 1, 0] rfl) HX1736
  exact LOOP_4 (n4 - 0 + 1) (0) (nI (0))  _ _ _ (Nat.lt_succ_self _) (⟨Nat.zero_le _, rfl⟩) (lv_sub hl [2, 3, 1, 0] rfl) HX
set_option maxHeartbeats 4000000 in
set_option maxRecDepth 100000 in
theorem r_ownReason (l : Launch) (G : fa_G) (n : Nat) (hn : 406 ≤ n) (v : fa_V) (r : fa_R) (hM : fa_RM r) (hS : fa_MS (v 398)) (u : Nat) (hu : u < 24) : fa_MI l G n yX7_ownReason cX7_ownReason 2 (some .int) 4 [.ref (fa_B G + (397)), .int (nI (u))] v r (fun x w => w = (v, r) ∧ (x = fb_owm (v 398) u)) := by
  refine fa_startI (by decide +kernel) (Nat.le_of_ble_eq_true rfl) (fun p e s m args below meth c ls Q CX hl HX RET => ?_)
  have hl : lv_has ls 2 [(0, .ref (fa_B G + (397))), (1, .int (nI (u)))] := hl
  have hx := CX.1.1
  have hb := CX.1.2.1
  obtain ⟨n4, en4⟩ : ∃ m, m = fa_N (v 398 14) := ⟨_, rfl⟩
  obtain ⟨hn4, g4⟩ := hS.n4 en4
  obtain ⟨n5, en5⟩ : ∃ m, m = fa_N (v 398 15) := ⟨_, rfl⟩
  obtain ⟨hn5, g5⟩ := hS.n5 en5
  obtain ⟨n6, en6⟩ : ∃ m, m = fa_N (v 398 16) := ⟨_, rfl⟩
  obtain ⟨hn6, g6⟩ := hS.n6 en6
  refine lv_aload_n hx hb dX7_ownReason_0 rfl (lv_at hl 0 rfl) ?_
  refine lv_iload_n hx hb dX7_ownReason_1 rfl (lv_at hl 1 rfl) ?_
  refine fa_callVip (As := [.int (nI (u))]) (rest := []) CX HX (r_due l G n hn v r hM hS (u) (by omega)) ln_X7_48 (by omega) rfl rfl rfl rfl (Nat.le_of_ble_eq_true rfl) hl.1 ⟨Nat.le_of_ble_eq_true rfl, Nat.le_of_ble_eq_true rfl⟩ ⟨Nat.le_refl _, Nat.le_refl _⟩ dX7_ownReason_2 (fun x1738 H locs h1737 HX1739 => ?_)
  have h_due := h1737
  refine lv_aload_n hx hb dX7_ownReason_5 rfl (lv_at hl 0 rfl) ?_
  refine fa_getr (k := 397) (j := 398) CX HX1739 fl_X7_7 (by omega) rfl rfl hM.1 dX7_ownReason_6 ?_
  refine lv_bipush (v := nI (7)) hx hb dX7_ownReason_9 (by decide) ?_
  refine fa_iald (k := 398) (j := 7) CX HX1739 (by omega) rfl (by omega) (by first | decide | assumption) dX7_ownReason_11 ?_
  refine lv_icmp_le (tgt := 19) hx hb dX7_ownReason_12 (by decide) (fun c_12 => ?_) (fun c_12 => ?_)
  · refine lv_aload_n hx hb dX7_ownReason_19 rfl (lv_at hl 0 rfl) ?_
    refine lv_iload_n hx hb dX7_ownReason_20 rfl (lv_at hl 1 rfl) ?_
    refine fa_callVip (As := [.int (nI (u))]) (rest := []) CX HX1739 (r_sealing l G n hn v r hM hS (u) (by omega)) ln_X7_51 (by omega) rfl rfl rfl rfl (Nat.le_of_ble_eq_true rfl) hl.1 ⟨Nat.le_of_ble_eq_true rfl, Nat.le_of_ble_eq_true rfl⟩ ⟨Nat.le_refl _, Nat.le_refl _⟩ dX7_ownReason_21 (fun x1741 H locs h1740 HX1742 => ?_)
    have h_sealing := h1740
    refine lv_if_le (tgt := 31) hx hb dX7_ownReason_24 (by decide) (fun c_24 => ?_) (fun c_24 => ?_)
    · refine lv_aload_n hx hb dX7_ownReason_31 rfl (lv_at hl 0 rfl) ?_
      refine lv_aload_n hx hb dX7_ownReason_32 rfl (lv_at hl 0 rfl) ?_
      refine fa_getr (k := 397) (j := 398) CX HX1742 fl_X7_7 (by omega) rfl rfl hM.1 dX7_ownReason_33 ?_
      refine lv_iload_n hx hb dX7_ownReason_36 rfl (lv_at hl 1 rfl) ?_
      refine fa_callSip (As := [.int (nI (u))]) (rest := [.ref (fa_B G + (398)), .ref (fa_B G + (397))]) CX HX1742 (r_f l G n v r (u)) ln_X7_36 rfl rfl (Nat.le_of_ble_eq_true rfl) hl.1 ⟨Nat.le_of_ble_eq_true rfl, Nat.le_of_ble_eq_true rfl⟩ ⟨Nat.le_refl _, Nat.le_refl _⟩ dX7_ownReason_37 (fun x1744 H locs h1743 HX1745 => ?_)
      subst h1743
      refine fa_iald (k := 398) (j := 17 + 15 * u) CX HX1745 (by omega) rfl (by omega) (by first | decide | assumption) dX7_ownReason_40 ?_
      refine fa_callVip (As := [.int (v 398 (17 + 15 * u))]) (rest := []) CX HX1745 (r_reservations l G n hn v r hM hS (v 398 (17 + 15 * u))) ln_X7_54 (by omega) rfl rfl rfl rfl (Nat.le_of_ble_eq_true rfl) hl.1 ⟨Nat.le_of_ble_eq_true rfl, Nat.le_of_ble_eq_true rfl⟩ ⟨Nat.le_refl _, Nat.le_refl _⟩ dX7_ownReason_41 (fun x1747 H locs h1746 HX1748 => ?_)
      have h_reservations := h1746
      refine lv_if_le (tgt := 51) hx hb dX7_ownReason_44 (by decide) (fun c_44 => ?_) (fun c_44 => ?_)
      · refine lv_iconst (v := nI (0)) hx hb dX7_ownReason_51 (by decide) ?_
        exact RET _ _ _ _ _ _ _ HX1748 dX7_ownReason_52 (⟨rfl, (by unfold fb_owm; rw [← h_due, if_pos c_12, ← h_sealing, if_pos c_24, ← h_reservations, if_pos c_44]; rfl)⟩)
      · refine lv_iconst (v := nI (3)) hx hb dX7_ownReason_47 (by decide) ?_
        refine lv_goto (tgt := 52) hx hb dX7_ownReason_48 (by decide) ?_
        exact RET _ _ _ _ _ _ _ HX1748 dX7_ownReason_52 (⟨rfl, (by unfold fb_owm; rw [← h_due, if_pos c_12, ← h_sealing, if_pos c_24, ← h_reservations, if_neg c_44])⟩)
    · refine lv_iconst (v := nI (2)) hx hb dX7_ownReason_27 (by decide) ?_
      refine lv_goto (tgt := 52) hx hb dX7_ownReason_28 (by decide) ?_
      exact RET _ _ _ _ _ _ _ HX1742 dX7_ownReason_52 (⟨rfl, (by unfold fb_owm; rw [← h_due, if_pos c_12, ← h_sealing, if_neg c_24])⟩)
  · refine lv_iconst (v := nI (1)) hx hb dX7_ownReason_15 (by decide) ?_
    refine lv_goto (tgt := 52) hx hb dX7_ownReason_16 (by decide) ?_
    exact RET _ _ _ _ _ _ _ HX1739 dX7_ownReason_52 (⟨rfl, (by unfold fb_owm; rw [← h_due, if_neg (Int32.not_le.mpr (Int32.not_le.mp c_12))])⟩)
