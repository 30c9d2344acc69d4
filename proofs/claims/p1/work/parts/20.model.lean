set_option maxHeartbeats 4000000 in
set_option maxRecDepth 100000 in
theorem c_X7_in (l : Launch) (G : fa_G) (n : Nat) (v : fa_V) (r : fa_R) (a1 a2 a3 : Int32) : fa_MI l G n yX7_in cX7_in 3 (some .boolean) 1 [.int (a1), .int (a2), .int (a3)] v r (fun x w => w = (v, r) ∧ (x = if a1 < a2 ∨ a3 < a1 then nI 0 else nI 1)) := by
  refine fa_startZ (by decide +kernel) (Nat.le_of_ble_eq_true rfl) (fun p e s m args below meth c ls Q CX hl HX RET => ?_)
  have hl : lv_has ls 3 [(0, .int (a1)), (1, .int (a2)), (2, .int (a3))] := hl
  have hx := CX.1.1
  have hb := CX.1.2.1
  refine lv_iload_n hx hb dX7_in_0 rfl (lv_at hl 0 rfl) ?_
  refine lv_iload_n hx hb dX7_in_1 rfl (lv_at hl 1 rfl) ?_
  refine lv_icmp_lt (tgt := 14) hx hb dX7_in_2 (by decide) (fun c_2 => ?_) (fun c_2 => ?_)
  · refine lv_iconst (v := nI (0)) hx hb dX7_in_14 (by decide) ?_
    exact RET _ _ _ _ _ _ _ HX dX7_in_15 (by decide) (⟨rfl, (by simp [c_2])⟩)
  · refine lv_iload_n hx hb dX7_in_5 rfl (lv_at hl 0 rfl) ?_
    refine lv_iload_n hx hb dX7_in_6 rfl (lv_at hl 2 rfl) ?_
    refine lv_icmp_gt (tgt := 14) hx hb dX7_in_7 (by decide) (fun c_7 => ?_) (fun c_7 => ?_)
    · refine lv_iconst (v := nI (0)) hx hb dX7_in_14 (by decide) ?_
      exact RET _ _ _ _ _ _ _ HX dX7_in_15 (by decide) (⟨rfl, (by simp [c_2, c_7])⟩)
    · refine lv_iconst (v := nI (1)) hx hb dX7_in_10 (by decide) ?_
      refine lv_goto (tgt := 15) hx hb dX7_in_11 (by decide) ?_
      exact RET _ _ _ _ _ _ _ HX dX7_in_15 (by decide) (⟨rfl, (by simp [c_2, c_7])⟩)
set_option maxHeartbeats 4000000 in
set_option maxRecDepth 100000 in
theorem c_X7_f (l : Launch) (G : fa_G) (n : Nat) (v : fa_V) (r : fa_R) (j : Nat) : fa_MI l G n yX7_f cX7_f 1 (some .int) 1 [.int (nI (j))] v r (fun x w => w = (v, r) ∧ (x = nI (17 + 15 * j))) := by
  refine fa_startI (by decide +kernel) (Nat.le_of_ble_eq_true rfl) (fun p e s m args below meth c ls Q CX hl HX RET => ?_)
  have hl : lv_has ls 1 [(0, .int (nI (j)))] := hl
  have hx := CX.1.1
  have hb := CX.1.2.1
  refine lv_bipush (v := nI (17)) hx hb dX7_f_0 (by decide) ?_
  refine lv_bipush (v := nI (15)) hx hb dX7_f_2 (by decide) ?_
  refine lv_iload_n hx hb dX7_f_4 rfl (lv_at hl 0 rfl) ?_
  refine fa_imulN hx hb dX7_f_5 ?_
  refine fa_iaddN hx hb dX7_f_6 ?_
  exact RET _ _ _ _ _ _ _ HX dX7_f_7 (⟨rfl, rfl⟩)
set_option maxHeartbeats 4000000 in
set_option maxRecDepth 100000 in
theorem p1m_placeOf (l : Launch) (G : fa_G) (n : Nat) (hn : 406 ≤ n) (v : fa_V) (r : fa_R) (hM : fa_RM r) (a1 : Int32) (f0 : v 398 14 = (0 : Int32)) : fa_MI l G n yX7_placeOf cX7_placeOf 4 (some .int) 2 [.ref (fa_B G + (397)), .int (a1)] v r (fun x w => w = (v, r) ∧ (x = (-1 : Int32))) := by
  refine fa_startI (by decide +kernel) (Nat.le_of_ble_eq_true rfl) (fun p e s m args below meth c ls Q CX hl HX RET => ?_)
  have hl : lv_has ls 4 [(0, .ref (fa_B G + (397))), (1, .int (a1))] := hl
  have hx := CX.1.1
  have hb := CX.1.2.1
  refine lv_iconst (v := (-1 : Int32)) hx hb dX7_placeOf_0 (by decide) ?_
  refine lv_istore_n (lv' := [(2, .int ((-1 : Int32))), (0, .ref (fa_B G + (397))), (1, .int (a1))]) hx hb dX7_placeOf_1 rfl hl (by decide) rfl (fun ls hl => ?_)
  refine lv_iconst (v := nI (0)) hx hb dX7_placeOf_2 (by decide) ?_
  refine lv_istore_n (lv' := [(3, .int (nI (0))), (2, .int ((-1 : Int32))), (0, .ref (fa_B G + (397))), (1, .int (a1))]) hx hb dX7_placeOf_3 rfl hl (by decide) rfl (fun ls hl => ?_)
  refine lv_iload_n hx hb dX7_placeOf_4 rfl (lv_at hl 0 rfl) ?_
  refine lv_aload_n hx hb dX7_placeOf_5 rfl (lv_at hl 2 rfl) ?_
  refine fa_getr (k := 397) (j := 398) CX HX fl_X7_7 (by omega) rfl rfl hM.1 dX7_placeOf_6 ?_
  refine lv_bipush (v := nI (14)) hx hb dX7_placeOf_9 (by decide) ?_
  refine fa_iald (k := 398) (j := 14) CX HX (by omega) rfl (by omega) (by first | decide | assumption) dX7_placeOf_11 ?_
  have ky_12 : v 398 14 = (0 : Int32) := f0
  refine lv_icmp_ge (tgt := 40) hx hb dX7_placeOf_12 (by decide) (fun c_12 => ?_) (fun c_12 => ?_)
  · refine lv_iload_n hx hb dX7_placeOf_40 rfl (lv_at hl 3 rfl) ?_
    refine lv_if_ge (tgt := 48) hx hb dX7_placeOf_41 (by decide) (fun c_41 => ?_) (fun c_41 => ?_)
    · refine lv_iload_n hx hb dX7_placeOf_48 rfl (lv_at hl 1 rfl) ?_
      exact RET _ _ _ _ _ _ _ HX dX7_placeOf_49 (⟨rfl, rfl⟩)
    · refine lv_iconst (v := (-1 : Int32)) hx hb dX7_placeOf_44 (by decide) ?_
      refine lv_goto (tgt := 49) hx hb dX7_placeOf_45 (by decide) ?_
      exact RET _ _ _ _ _ _ _ HX dX7_placeOf_49 (⟨rfl, rfl⟩)
  · exact absurd (by rw [ky_12]; try decide) c_12
set_option maxHeartbeats 4000000 in
set_option maxRecDepth 100000 in
theorem p1m_pages (l : Launch) (G : fa_G) (n : Nat) (hn : 406 ≤ n) (v : fa_V) (r : fa_R) (hM : fa_RM r) (f0 : v 398 14 = (0 : Int32)) : fa_MI l G n yX7_pages cX7_pages 3 (some .int) 2 [.ref (fa_B G + (397))] v r (fun x w => w = (v, r) ∧ (x = (0 : Int32))) := by
  refine fa_startI (by decide +kernel) (Nat.le_of_ble_eq_true rfl) (fun p e s m args below meth c ls Q CX hl HX RET => ?_)
  have hl : lv_has ls 3 [(0, .ref (fa_B G + (397)))] := hl
  have hx := CX.1.1
  have hb := CX.1.2.1
  refine lv_iconst (v := nI (0)) hx hb dX7_pages_0 (by decide) ?_
  refine lv_istore_n (lv' := [(1, .int (nI (0))), (0, .ref (fa_B G + (397)))]) hx hb dX7_pages_1 rfl hl (by decide) rfl (fun ls hl => ?_)
  refine lv_iconst (v := nI (0)) hx hb dX7_pages_2 (by decide) ?_
  refine lv_istore_n (lv' := [(2, .int (nI (0))), (1, .int (nI (0))), (0, .ref (fa_B G + (397)))]) hx hb dX7_pages_3 rfl hl (by decide) rfl (fun ls hl => ?_)
  refine lv_iload_n hx hb dX7_pages_4 rfl (lv_at hl 0 rfl) ?_
  refine lv_aload_n hx hb dX7_pages_5 rfl (lv_at hl 2 rfl) ?_
  refine fa_getr (k := 397) (j := 398) CX HX fl_X7_7 (by omega) rfl rfl hM.1 dX7_pages_6 ?_
  refine lv_bipush (v := nI (14)) hx hb dX7_pages_9 (by decide) ?_
  refine fa_iald (k := 398) (j := 14) CX HX (by omega) rfl (by omega) (by first | decide | assumption) dX7_pages_11 ?_
  have ky_12 : v 398 14 = (0 : Int32) := f0
  refine lv_icmp_ge (tgt := 35) hx hb dX7_pages_12 (by decide) (fun c_12 => ?_) (fun c_12 => ?_)
  · refine lv_iload_n hx hb dX7_pages_35 rfl (lv_at hl 1 rfl) ?_
    exact RET _ _ _ _ _ _ _ HX dX7_pages_36 (⟨rfl, rfl⟩)
  · exact absurd (by rw [ky_12]; try decide) c_12
set_option maxHeartbeats 4000000 in
set_option maxRecDepth 100000 in
theorem p1m_find (l : Launch) (G : fa_G) (n : Nat) (hn : 406 ≤ n) (v : fa_V) (r : fa_R) (hM : fa_RM r) (a1 : Int32) (a2 : Int32) (f0 : v 398 15 = (0 : Int32)) : fa_MI l G n yX7_find cX7_find 5 (some .int) 1 [.ref (fa_B G + (397)), .int (a1), .int (a2)] v r (fun x w => w = (v, r) ∧ (x = (-1 : Int32))) := by
  refine fa_startI (by decide +kernel) (Nat.le_of_ble_eq_true rfl) (fun p e s m args below meth c ls Q CX hl HX RET => ?_)
  have hl : lv_has ls 5 [(0, .ref (fa_B G + (397))), (1, .int (a1)), (2, .int (a2))] := hl
  have hx := CX.1.1
  have hb := CX.1.2.1
  refine lv_iconst (v := (-1 : Int32)) hx hb dX7_find_0 (by decide) ?_
  refine lv_istore_n (lv' := [(3, .int ((-1 : Int32))), (0, .ref (fa_B G + (397))), (1, .int (a1)), (2, .int (a2))]) hx hb dX7_find_1 rfl hl (by decide) rfl (fun ls hl => ?_)
  refine lv_iconst (v := nI (0)) hx hb dX7_find_2 (by decide) ?_
  refine lv_istore (lv' := [(4, .int (nI (0))), (3, .int ((-1 : Int32))), (0, .ref (fa_B G + (397))), (1, .int (a1)), (2, .int (a2))]) hx hb dX7_find_3 hl (by decide) rfl (fun ls hl => ?_)
  refine lv_iload hx hb dX7_find_5 (lv_at hl 0 rfl) ?_
  refine lv_aload_n hx hb dX7_find_7 rfl (lv_at hl 2 rfl) ?_
  refine fa_getr (k := 397) (j := 398) CX HX fl_X7_7 (by omega) rfl rfl hM.1 dX7_find_8 ?_
  refine lv_bipush (v := nI (15)) hx hb dX7_find_11 (by decide) ?_
  refine fa_iald (k := 398) (j := 15) CX HX (by omega) rfl (by omega) (by first | decide | assumption) dX7_find_13 ?_
  have ky_14 : v 398 15 = (0 : Int32) := f0
  refine lv_icmp_ge (tgt := 66) hx hb dX7_find_14 (by decide) (fun c_14 => ?_) (fun c_14 => ?_)
  · refine lv_iload_n hx hb dX7_find_66 rfl (lv_at hl 1 rfl) ?_
    exact RET _ _ _ _ _ _ _ HX dX7_find_67 (⟨rfl, rfl⟩)
  · exact absurd (by rw [ky_14]; try decide) c_14
set_option maxHeartbeats 4000000 in
set_option maxRecDepth 100000 in
theorem p1m_tellStaying (l : Launch) (G : fa_G) (n : Nat) (hn : 406 ≤ n) (v : fa_V) (r : fa_R) (hM : fa_RM r) (f0 : v 398 14 = (0 : Int32)) : fa_MV l G n yX7_tellStaying cX7_tellStaying 4 2 [.ref (fa_B G + (397))] v r (fun w => w = (v, r)) := by
  refine fa_startV (by decide +kernel) (Nat.le_of_ble_eq_true rfl) (fun p e s m args below meth c ls Q CX hl HX RET => ?_)
  have hl : lv_has ls 4 [(0, .ref (fa_B G + (397)))] := hl
  have hx := CX.1.1
  have hb := CX.1.2.1
  refine lv_iconst (v := nI (0)) hx hb dX7_tellStaying_0 (by decide) ?_
  refine lv_istore_n (lv' := [(1, .int (nI (0))), (0, .ref (fa_B G + (397)))]) hx hb dX7_tellStaying_1 rfl hl (by decide) rfl (fun ls hl => ?_)
  refine lv_iload_n hx hb dX7_tellStaying_2 rfl (lv_at hl 0 rfl) ?_
  refine lv_aload_n hx hb dX7_tellStaying_3 rfl (lv_at hl 1 rfl) ?_
  refine fa_getr (k := 397) (j := 398) CX HX fl_X7_7 (by omega) rfl rfl hM.1 dX7_tellStaying_4 ?_
  refine lv_bipush (v := nI (14)) hx hb dX7_tellStaying_7 (by decide) ?_
  refine fa_iald (k := 398) (j := 14) CX HX (by omega) rfl (by omega) (by first | decide | assumption) dX7_tellStaying_9 ?_
  have ky_10 : v 398 14 = (0 : Int32) := f0
  refine lv_icmp_ge (tgt := 38) hx hb dX7_tellStaying_10 (by decide) (fun c_10 => ?_) (fun c_10 => ?_)
  · refine lv_iconst (v := nI (1)) hx hb dX7_tellStaying_38 (by decide) ?_
    refine lv_istore_n (lv' := [(1, .int (nI (1))), (0, .ref (fa_B G + (397)))]) hx hb dX7_tellStaying_39 rfl hl (by decide) rfl (fun ls hl => ?_)
    refine lv_iload_n hx hb dX7_tellStaying_40 rfl (lv_at hl 0 rfl) ?_
    refine lv_if_eq (tgt := 117) hx hb dX7_tellStaying_41 (by decide) (fun c_41 => ?_) (fun c_41 => ?_)
    · exact absurd c_41 (by try decide)
    · refine lv_iconst (v := nI (0)) hx hb dX7_tellStaying_44 (by decide) ?_
      refine lv_istore_n (lv' := [(1, .int (nI (0))), (0, .ref (fa_B G + (397)))]) hx hb dX7_tellStaying_45 rfl hl (by decide) rfl (fun ls hl => ?_)
      refine lv_iconst (v := nI (0)) hx hb dX7_tellStaying_46 (by decide) ?_
      refine lv_istore_n (lv' := [(2, .int (nI (0))), (1, .int (nI (0))), (0, .ref (fa_B G + (397)))]) hx hb dX7_tellStaying_47 rfl hl (by decide) rfl (fun ls hl => ?_)
      refine lv_iload_n hx hb dX7_tellStaying_48 rfl (lv_at hl 0 rfl) ?_
      refine lv_aload_n hx hb dX7_tellStaying_49 rfl (lv_at hl 2 rfl) ?_
      refine fa_getr (k := 397) (j := 398) CX HX fl_X7_7 (by omega) rfl rfl hM.1 dX7_tellStaying_50 ?_
      refine lv_bipush (v := nI (14)) hx hb dX7_tellStaying_53 (by decide) ?_
      refine fa_iald (k := 398) (j := 14) CX HX (by omega) rfl (by omega) (by first | decide | assumption) dX7_tellStaying_55 ?_
      have ky_56 : v 398 14 = (0 : Int32) := f0
      refine lv_icmp_ge (tgt := 114) hx hb dX7_tellStaying_56 (by decide) (fun c_56 => ?_) (fun c_56 => ?_)
      · refine lv_goto (tgt := 40) hx hb dX7_tellStaying_114 (by decide) ?_
        refine lv_iload_n hx hb dX7_tellStaying_40 rfl (lv_at hl 1 rfl) ?_
        refine lv_if_eq (tgt := 117) hx hb dX7_tellStaying_41 (by decide) (fun c_41 => ?_) (fun c_41 => ?_)
        · exact RET _ _ _ _ _ _ HX dX7_tellStaying_117 (rfl)
        · exact absurd (by try decide) c_41
      · exact absurd (by rw [ky_56]; try decide) c_56
  · exact absurd (by rw [ky_10]; try decide) c_10
set_option maxHeartbeats 4000000 in
set_option maxRecDepth 100000 in
theorem p1m_hold (l : Launch) (G : fa_G) (n : Nat) (hn : 406 ≤ n) (v : fa_V) (r : fa_R) (hM : fa_RM r) : fa_MV l G n yX7_hold cX7_hold 2 1 [.ref (fa_B G + (397))] v r (fa_vo r (fun v1 => (∀ i, i < 453 → v1 399 i = v 398 i) ∧ (fa_fr (399) (400) v v1))) := by
  refine fa_startV (by decide +kernel) (Nat.le_of_ble_eq_true rfl) (fun p e s m args below meth c ls Q CX hl HX RET => ?_)
  have hl : lv_has ls 2 [(0, .ref (fa_B G + (397)))] := hl
  have hx := CX.1.1
  have hb := CX.1.2.1
  refine lv_iconst (v := nI (0)) hx hb dX7_hold_0 (by decide) ?_
  refine lv_istore_n (lv' := [(1, .int (nI (0))), (0, .ref (fa_B G + (397)))]) hx hb dX7_hold_1 rfl hl (by decide) rfl (fun ls hl => ?_)
  have LOOP_2 : ∀ (fu : Nat) (k : Nat) (v315 : fa_V) (H : Heap) (locs : List Loc) (ls : Array Slot), 453 - k < fu → (k ≤ 453 ∧ (∀ i, i < k → v315 399 i = v 398 i) ∧ fa_fr 399 (399 + 1) v v315) → lv_has ls 2 [(0, .ref (fa_B G + (397))), (1, .int (nI (k)))] → fa_HX G (n) v315 r s H locs → W p l e (fa_rm 1) s m args below meth c H locs (0) (0) Q (F0 m 2 ls []) := by
    intro fu
    induction fu with
    | zero => intro k v315 H locs ls hk; exact absurd hk (Nat.not_lt_zero _)
    | succ fu ih_2 =>
      intro k v315 H locs ls hk_2 hi_2 hl HX316
      refine lv_iload_n hx hb dX7_hold_2 rfl (lv_at hl 1 rfl) ?_
      refine lv_sipush (v := nI (453)) hx hb dX7_hold_3 (by decide) ?_
      refine lv_icmp_ge (tgt := 27) hx hb dX7_hold_6 (by decide) (fun c_6 => ?_) (fun c_6 => ?_)
      · have hk : k = 453 := by
          have := (nI_leI (by omega) (by omega)).mp c_6
          omega
        rw [hk] at hi_2
        exact RET _ _ _ _ _ _ HX316 dX7_hold_27 (⟨rfl, ⟨hi_2.2.1, (fa_fr.tr fa_fr.rf (fa_fr.wide hi_2.2.2 (by omega) (by omega)))⟩⟩)
      · have hk := fa_ltN (by omega) (by omega) c_6
        refine lv_aload_n hx hb dX7_hold_9 rfl (lv_at hl 0 rfl) ?_
        refine fa_getr (k := 397) (j := 399) CX HX316 fl_X7_13 (by omega) rfl rfl hM.2.1 dX7_hold_10 ?_
        refine lv_iload_n hx hb dX7_hold_13 rfl (lv_at hl 1 rfl) ?_
        refine lv_aload_n hx hb dX7_hold_14 rfl (lv_at hl 0 rfl) ?_
        refine fa_getr (k := 397) (j := 398) CX HX316 fl_X7_7 (by omega) rfl rfl hM.1 dX7_hold_15 ?_
        refine lv_iload_n hx hb dX7_hold_18 rfl (lv_at hl 1 rfl) ?_
        refine fa_iald (k := 398) (j := k) CX HX316 (by omega) rfl (by omega) (by first | decide | assumption) dX7_hold_19 ?_
        refine fa_iast (k := 399) (j := k) CX HX316 (by omega) rfl (by omega) (by first | decide | assumption) dX7_hold_20 (fun H locs v317 e318 HX319 => ?_)
        refine lv_iinc (v := nI (k + 1)) (lv' := [(1, .int (nI (k + 1))), (0, .ref (fa_B G + (397)))]) hx hb dX7_hold_21 hl (k := 1) rfl (nI_add (k) 1) (by decide) rfl (fun ls hl => ?_)
        refine lv_goto (tgt := 2) hx hb dX7_hold_24 (by decide) ?_
        exact ih_2 (k + 1) v317 _ _ _ (by omega) (⟨by omega, fa_cpy1 hi_2.2.1 (by decide) hi_2.2.2 e318, (by rw [e318]; exact fa_fr.u (fa_fr.tr fa_fr.rf (fa_fr.wide hi_2.2.2 (by omega) (by omega))) (by omega))⟩) (lv_sub hl [1, 0] rfl) HX319
  exact LOOP_2 (453 - 0 + 1) (0) v _ _ _ (Nat.lt_succ_self _) (⟨Nat.zero_le _, fun j hj => absurd hj (Nat.not_lt_zero _), fa_fr.rf⟩) (lv_sub hl [1, 0] rfl) HX
set_option maxHeartbeats 4000000 in
set_option maxRecDepth 100000 in
theorem p1m_keepTrial (l : Launch) (G : fa_G) (n : Nat) (hn : 406 ≤ n) (v : fa_V) (r : fa_R) (hM : fa_RM r) : fa_MV l G n yX7_keepTrial cX7_keepTrial 2 1 [.ref (fa_B G + (397))] v r (fa_vo r (fun v1 => (∀ i, i < 453 → v1 400 i = v 398 i) ∧ (fa_fr (400) (401) v v1))) := by
  refine fa_startV (by decide +kernel) (Nat.le_of_ble_eq_true rfl) (fun p e s m args below meth c ls Q CX hl HX RET => ?_)
  have hl : lv_has ls 2 [(0, .ref (fa_B G + (397)))] := hl
  have hx := CX.1.1
  have hb := CX.1.2.1
  refine lv_iconst (v := nI (0)) hx hb dX7_keepTrial_0 (by decide) ?_
  refine lv_istore_n (lv' := [(1, .int (nI (0))), (0, .ref (fa_B G + (397)))]) hx hb dX7_keepTrial_1 rfl hl (by decide) rfl (fun ls hl => ?_)
  have LOOP_2 : ∀ (fu : Nat) (k : Nat) (v320 : fa_V) (H : Heap) (locs : List Loc) (ls : Array Slot), 453 - k < fu → (k ≤ 453 ∧ (∀ i, i < k → v320 400 i = v 398 i) ∧ fa_fr 400 (400 + 1) v v320) → lv_has ls 2 [(0, .ref (fa_B G + (397))), (1, .int (nI (k)))] → fa_HX G (n) v320 r s H locs → W p l e (fa_rm 1) s m args below meth c H locs (0) (0) Q (F0 m 2 ls []) := by
    intro fu
    induction fu with
    | zero => intro k v320 H locs ls hk; exact absurd hk (Nat.not_lt_zero _)
    | succ fu ih_2 =>
      intro k v320 H locs ls hk_2 hi_2 hl HX321
      refine lv_iload_n hx hb dX7_keepTrial_2 rfl (lv_at hl 1 rfl) ?_
      refine lv_sipush (v := nI (453)) hx hb dX7_keepTrial_3 (by decide) ?_
      refine lv_icmp_ge (tgt := 27) hx hb dX7_keepTrial_6 (by decide) (fun c_6 => ?_) (fun c_6 => ?_)
      · have hk : k = 453 := by
          have := (nI_leI (by omega) (by omega)).mp c_6
          omega
        rw [hk] at hi_2
        exact RET _ _ _ _ _ _ HX321 dX7_keepTrial_27 (⟨rfl, ⟨hi_2.2.1, (fa_fr.tr fa_fr.rf (fa_fr.wide hi_2.2.2 (by omega) (by omega)))⟩⟩)
      · have hk := fa_ltN (by omega) (by omega) c_6
        refine lv_aload_n hx hb dX7_keepTrial_9 rfl (lv_at hl 0 rfl) ?_
        refine fa_getr (k := 397) (j := 400) CX HX321 fl_X7_16 (by omega) rfl rfl hM.2.2.1 dX7_keepTrial_10 ?_
        refine lv_iload_n hx hb dX7_keepTrial_13 rfl (lv_at hl 1 rfl) ?_
        refine lv_aload_n hx hb dX7_keepTrial_14 rfl (lv_at hl 0 rfl) ?_
        refine fa_getr (k := 397) (j := 398) CX HX321 fl_X7_7 (by omega) rfl rfl hM.1 dX7_keepTrial_15 ?_
        refine lv_iload_n hx hb dX7_keepTrial_18 rfl (lv_at hl 1 rfl) ?_
        refine fa_iald (k := 398) (j := k) CX HX321 (by omega) rfl (by omega) (by first | decide | assumption) dX7_keepTrial_19 ?_
        refine fa_iast (k := 400) (j := k) CX HX321 (by omega) rfl (by omega) (by first | decide | assumption) dX7_keepTrial_20 (fun H locs v322 e323 HX324 => ?_)
        refine lv_iinc (v := nI (k + 1)) (lv' := [(1, .int (nI (k + 1))), (0, .ref (fa_B G + (397)))]) hx hb dX7_keepTrial_21 hl (k := 1) rfl (nI_add (k) 1) (by decide) rfl (fun ls hl => ?_)
        refine lv_goto (tgt := 2) hx hb dX7_keepTrial_24 (by decide) ?_
        exact ih_2 (k + 1) v322 _ _ _ (by omega) (⟨by omega, fa_cpy1 hi_2.2.1 (by decide) hi_2.2.2 e323, (by rw [e323]; exact fa_fr.u (fa_fr.tr fa_fr.rf (fa_fr.wide hi_2.2.2 (by omega) (by omega))) (by omega))⟩) (lv_sub hl [1, 0] rfl) HX324
  exact LOOP_2 (453 - 0 + 1) (0) v _ _ _ (Nat.lt_succ_self _) (⟨Nat.zero_le _, fun j hj => absurd hj (Nat.not_lt_zero _), fa_fr.rf⟩) (lv_sub hl [1, 0] rfl) HX
set_option maxHeartbeats 4000000 in
set_option maxRecDepth 100000 in
theorem p1m_putBack (l : Launch) (G : fa_G) (n : Nat) (hn : 406 ≤ n) (v : fa_V) (r : fa_R) (hM : fa_RM r) : fa_MV l G n yX7_putBack cX7_putBack 2 1 [.ref (fa_B G + (397))] v r (fa_vo r (fun v1 => (∀ i, i < 453 → v1 398 i = v 400 i) ∧ (fa_fr (398) (399) v v1))) := by
  refine fa_startV (by decide +kernel) (Nat.le_of_ble_eq_true rfl) (fun p e s m args below meth c ls Q CX hl HX RET => ?_)
  have hl : lv_has ls 2 [(0, .ref (fa_B G + (397)))] := hl
  have hx := CX.1.1
  have hb := CX.1.2.1
  refine lv_iconst (v := nI (0)) hx hb dX7_putBack_0 (by decide) ?_
  refine lv_istore_n (lv' := [(1, .int (nI (0))), (0, .ref (fa_B G + (397)))]) hx hb dX7_putBack_1 rfl hl (by decide) rfl (fun ls hl => ?_)
  have LOOP_2 : ∀ (fu : Nat) (k : Nat) (v325 : fa_V) (H : Heap) (locs : List Loc) (ls : Array Slot), 453 - k < fu → (k ≤ 453 ∧ (∀ i, i < k → v325 398 i = v 400 i) ∧ fa_fr 398 (398 + 1) v v325) → lv_has ls 2 [(0, .ref (fa_B G + (397))), (1, .int (nI (k)))] → fa_HX G (n) v325 r s H locs → W p l e (fa_rm 1) s m args below meth c H locs (0) (0) Q (F0 m 2 ls []) := by
    intro fu
    induction fu with
    | zero => intro k v325 H locs ls hk; exact absurd hk (Nat.not_lt_zero _)
    | succ fu ih_2 =>
      intro k v325 H locs ls hk_2 hi_2 hl HX326
      refine lv_iload_n hx hb dX7_putBack_2 rfl (lv_at hl 1 rfl) ?_
      refine lv_sipush (v := nI (453)) hx hb dX7_putBack_3 (by decide) ?_
      refine lv_icmp_ge (tgt := 27) hx hb dX7_putBack_6 (by decide) (fun c_6 => ?_) (fun c_6 => ?_)
      · have hk : k = 453 := by
          have := (nI_leI (by omega) (by omega)).mp c_6
          omega
        rw [hk] at hi_2
        exact RET _ _ _ _ _ _ HX326 dX7_putBack_27 (⟨rfl, ⟨hi_2.2.1, (fa_fr.tr fa_fr.rf (fa_fr.wide hi_2.2.2 (by omega) (by omega)))⟩⟩)
      · have hk := fa_ltN (by omega) (by omega) c_6
        refine lv_aload_n hx hb dX7_putBack_9 rfl (lv_at hl 0 rfl) ?_
        refine fa_getr (k := 397) (j := 398) CX HX326 fl_X7_7 (by omega) rfl rfl hM.1 dX7_putBack_10 ?_
        refine lv_iload_n hx hb dX7_putBack_13 rfl (lv_at hl 1 rfl) ?_
        refine lv_aload_n hx hb dX7_putBack_14 rfl (lv_at hl 0 rfl) ?_
        refine fa_getr (k := 397) (j := 400) CX HX326 fl_X7_16 (by omega) rfl rfl hM.2.2.1 dX7_putBack_15 ?_
        refine lv_iload_n hx hb dX7_putBack_18 rfl (lv_at hl 1 rfl) ?_
        refine fa_iald (k := 400) (j := k) CX HX326 (by omega) rfl (by omega) (by first | decide | assumption) dX7_putBack_19 ?_
        refine fa_iast (k := 398) (j := k) CX HX326 (by omega) rfl (by omega) (by first | decide | assumption) dX7_putBack_20 (fun H locs v327 e328 HX329 => ?_)
        refine lv_iinc (v := nI (k + 1)) (lv' := [(1, .int (nI (k + 1))), (0, .ref (fa_B G + (397)))]) hx hb dX7_putBack_21 hl (k := 1) rfl (nI_add (k) 1) (by decide) rfl (fun ls hl => ?_)
        refine lv_goto (tgt := 2) hx hb dX7_putBack_24 (by decide) ?_
        exact ih_2 (k + 1) v327 _ _ _ (by omega) (⟨by omega, fa_cpy1 hi_2.2.1 (by decide) hi_2.2.2 e328, (by rw [e328]; exact fa_fr.u (fa_fr.tr fa_fr.rf (fa_fr.wide hi_2.2.2 (by omega) (by omega))) (by omega))⟩) (lv_sub hl [1, 0] rfl) HX329
  exact LOOP_2 (453 - 0 + 1) (0) v _ _ _ (Nat.lt_succ_self _) (⟨Nat.zero_le _, fun j hj => absurd hj (Nat.not_lt_zero _), fa_fr.rf⟩) (lv_sub hl [1, 0] rfl) HX
set_option maxHeartbeats 4000000 in
set_option maxRecDepth 100000 in
theorem p1m_recorded (l : Launch) (G : fa_G) (n : Nat) (hn : 406 ≤ n) (v : fa_V) (r : fa_R) (hM : fa_RM r) (a1 : Int32) (f0 : v 397 10 = (0 : Int32)) : fa_MI l G n yX7_recorded cX7_recorded 3 (some .int) 1 [.ref (fa_B G + (397)), .int (a1)] v r (fa_voi r (fun x v1 => (x = a1) ∧ (fa_fr (397) (402) v v1))) := by
  refine fa_startI (by decide +kernel) (Nat.le_of_ble_eq_true rfl) (fun p e s m args below meth c ls Q CX hl HX RET => ?_)
  have hl : lv_has ls 3 [(0, .ref (fa_B G + (397))), (1, .int (a1))] := hl
  have hx := CX.1.1
  have hb := CX.1.2.1
  refine lv_iload_n hx hb dX7_recorded_0 rfl (lv_at hl 1 rfl) ?_
  refine lv_if_ge (tgt := 10) hx hb dX7_recorded_1 (by decide) (fun c_1 => ?_) (fun c_1 => ?_)
  · refine lv_aload_n hx hb dX7_recorded_10 rfl (lv_at hl 0 rfl) ?_
    refine fa_geti (k := 397) CX HX fl_X7_40 (by omega) rfl rfl dX7_recorded_11 ?_
    refine lv_iconst (v := nI (4)) hx hb dX7_recorded_14 (by decide) ?_
    have kx_15 : v 397 10 = (0 : Int32) := f0
    refine lv_icmp_ne (tgt := 59) hx hb dX7_recorded_15 (by decide) (fun c_15 => ?_) (fun c_15 => ?_)
    · refine lv_iconst (v := nI (0)) hx hb dX7_recorded_59 (by decide) ?_
      refine lv_istore_n (lv' := [(2, .int (nI (0))), (0, .ref (fa_B G + (397))), (1, .int (a1))]) hx hb dX7_recorded_60 rfl hl (by decide) rfl (fun ls hl => ?_)
      have LOOP_61 : ∀ (fu : Nat) (k : Nat) (v330 : fa_V) (H : Heap) (locs : List Loc) (ls : Array Slot), 453 - k < fu → (k ≤ 453 ∧ fa_fr 401 402 v v330) → lv_has ls 3 [(0, .ref (fa_B G + (397))), (1, .int (a1)), (2, .int (nI (k)))] → fa_HX G (n) v330 r s H locs → W p l e (fa_rm 1) s m args below meth c H locs (0) (0) Q (F0 m 61 ls []) := by
        intro fu
        induction fu with
        | zero => intro k v330 H locs ls hk; exact absurd hk (Nat.not_lt_zero _)
        | succ fu ih_61 =>
          intro k v330 H locs ls hk_61 hi_61 hl HX331
          refine lv_iload_n hx hb dX7_recorded_61 rfl (lv_at hl 2 rfl) ?_
          refine lv_sipush (v := nI (453)) hx hb dX7_recorded_62 (by decide) ?_
          refine lv_icmp_ge (tgt := 95) hx hb dX7_recorded_65 (by decide) (fun c_65 => ?_) (fun c_65 => ?_)
          · refine lv_aload_n hx hb dX7_recorded_95 rfl (lv_at hl 0 rfl) ?_
            refine lv_dup hx hb dX7_recorded_96 rfl ?_
            refine fa_geti (k := 397) CX HX331 fl_X7_40 (by omega) rfl rfl dX7_recorded_97 ?_
            refine lv_iconst (v := nI (1)) hx hb dX7_recorded_100 (by decide) ?_
            refine lv_iadd hx hb dX7_recorded_101 ?_
            refine fa_puti (k := 397) CX HX331 fl_X7_40 (by omega) rfl rfl rfl rfl dX7_recorded_102 (fun H locs v332 e333 HX334 => ?_)
            refine lv_iload_n hx hb dX7_recorded_105 rfl (lv_at hl 1 rfl) ?_
            exact RET _ _ _ _ _ _ _ HX334 dX7_recorded_106 (⟨rfl, ⟨rfl, (by rw [e333]; exact fa_fr.u (fa_fr.tr fa_fr.rf (fa_fr.wide hi_61.2 (by omega) (by omega))) (by omega))⟩⟩)
          · have hk := fa_ltN (by omega) (by omega) c_65
            refine lv_aload_n hx hb dX7_recorded_68 rfl (lv_at hl 0 rfl) ?_
            refine fa_getr (k := 397) (j := 401) CX HX331 fl_X7_19 (by omega) rfl rfl hM.2.2.2.1 dX7_recorded_69 ?_
            refine lv_sipush (v := nI (453)) hx hb dX7_recorded_72 (by decide) ?_
            refine lv_aload_n hx hb dX7_recorded_75 rfl (lv_at hl 0 rfl) ?_
            refine fa_geti (k := 397) CX HX331 fl_X7_40 (by omega) rfl rfl dX7_recorded_76 ?_
            rw [show v330 397 10 = nI (0) from (by simp [f0, hi_61.2 397 (by omega)] <;> rfl)]
            refine fa_imulN hx hb dX7_recorded_79 ?_
            refine lv_iload_n hx hb dX7_recorded_80 rfl (lv_at hl 2 rfl) ?_
            refine fa_iaddN hx hb dX7_recorded_81 ?_
            refine lv_aload_n hx hb dX7_recorded_82 rfl (lv_at hl 0 rfl) ?_
            refine fa_getr (k := 397) (j := 399) CX HX331 fl_X7_13 (by omega) rfl rfl hM.2.1 dX7_recorded_83 ?_
            refine lv_iload_n hx hb dX7_recorded_86 rfl (lv_at hl 2 rfl) ?_
            refine fa_iald (k := 399) (j := k) CX HX331 (by omega) rfl (by omega) (by first | decide | assumption) dX7_recorded_87 ?_
            refine fa_iast (k := 401) (j := 453 * 0 + k) CX HX331 (by omega) rfl (by omega) (by first | decide | assumption) dX7_recorded_88 (fun H locs v335 e336 HX337 => ?_)
            refine lv_iinc (v := nI (k + 1)) (lv' := [(2, .int (nI (k + 1))), (0, .ref (fa_B G + (397))), (1, .int (a1))]) hx hb dX7_recorded_89 hl (k := 2) rfl (nI_add (k) 1) (by decide) rfl (fun ls hl => ?_)
            refine lv_goto (tgt := 61) hx hb dX7_recorded_92 (by decide) ?_
            exact ih_61 (k + 1) v335 _ _ _ (by omega) (⟨by omega, (by rw [e336]; exact fa_fr.u (fa_fr.tr fa_fr.rf (fa_fr.wide hi_61.2 (by omega) (by omega))) (by omega))⟩) (lv_sub hl [1, 2, 0] rfl) HX337
      exact LOOP_61 (453 - 0 + 1) (0) v _ _ _ (Nat.lt_succ_self _) (⟨Nat.zero_le _, fa_fr.rf⟩) (lv_sub hl [1, 2, 0] rfl) HX
    · exact absurd c_15 (by rw [kx_15]; try decide)
  · refine lv_iload_n hx hb dX7_recorded_4 rfl (lv_at hl 1 rfl) ?_
    refine lv_bipush (v := (-6 : Int32)) hx hb dX7_recorded_5 (by decide) ?_
    refine lv_icmp_ne (tgt := 105) hx hb dX7_recorded_7 (by decide) (fun c_7 => ?_) (fun c_7 => ?_)
    · refine lv_iload_n hx hb dX7_recorded_105 rfl (lv_at hl 1 rfl) ?_
      exact RET _ _ _ _ _ _ _ HX dX7_recorded_106 (⟨rfl, ⟨rfl, fa_fr.rf⟩⟩)
    · refine lv_aload_n hx hb dX7_recorded_10 rfl (lv_at hl 0 rfl) ?_
      refine fa_geti (k := 397) CX HX fl_X7_40 (by omega) rfl rfl dX7_recorded_11 ?_
      refine lv_iconst (v := nI (4)) hx hb dX7_recorded_14 (by decide) ?_
      have kx_15 : v 397 10 = (0 : Int32) := f0
      refine lv_icmp_ne (tgt := 59) hx hb dX7_recorded_15 (by decide) (fun c_15 => ?_) (fun c_15 => ?_)
      · refine lv_iconst (v := nI (0)) hx hb dX7_recorded_59 (by decide) ?_
        refine lv_istore_n (lv' := [(2, .int (nI (0))), (0, .ref (fa_B G + (397))), (1, .int (a1))]) hx hb dX7_recorded_60 rfl hl (by decide) rfl (fun ls hl => ?_)
        have LOOP_61 : ∀ (fu : Nat) (k : Nat) (v338 : fa_V) (H : Heap) (locs : List Loc) (ls : Array Slot), 453 - k < fu → (k ≤ 453 ∧ fa_fr 401 402 v v338) → lv_has ls 3 [(0, .ref (fa_B G + (397))), (1, .int (a1)), (2, .int (nI (k)))] → fa_HX G (n) v338 r s H locs → W p l e (fa_rm 1) s m args below meth c H locs (0) (0) Q (F0 m 61 ls []) := by
          intro fu
          induction fu with
          | zero => intro k v338 H locs ls hk; exact absurd hk (Nat.not_lt_zero _)
          | succ fu ih_61 =>
            intro k v338 H locs ls hk_61 hi_61 hl HX339
            refine lv_iload_n hx hb dX7_recorded_61 rfl (lv_at hl 2 rfl) ?_
            refine lv_sipush (v := nI (453)) hx hb dX7_recorded_62 (by decide) ?_
            refine lv_icmp_ge (tgt := 95) hx hb dX7_recorded_65 (by decide) (fun c_65 => ?_) (fun c_65 => ?_)
            · refine lv_aload_n hx hb dX7_recorded_95 rfl (lv_at hl 0 rfl) ?_
              refine lv_dup hx hb dX7_recorded_96 rfl ?_
              refine fa_geti (k := 397) CX HX339 fl_X7_40 (by omega) rfl rfl dX7_recorded_97 ?_
              refine lv_iconst (v := nI (1)) hx hb dX7_recorded_100 (by decide) ?_
              refine lv_iadd hx hb dX7_recorded_101 ?_
              refine fa_puti (k := 397) CX HX339 fl_X7_40 (by omega) rfl rfl rfl rfl dX7_recorded_102 (fun H locs v340 e341 HX342 => ?_)
              refine lv_iload_n hx hb dX7_recorded_105 rfl (lv_at hl 1 rfl) ?_
              exact RET _ _ _ _ _ _ _ HX342 dX7_recorded_106 (⟨rfl, ⟨rfl, (by rw [e341]; exact fa_fr.u (fa_fr.tr fa_fr.rf (fa_fr.wide hi_61.2 (by omega) (by omega))) (by omega))⟩⟩)
            · have hk := fa_ltN (by omega) (by omega) c_65
              refine lv_aload_n hx hb dX7_recorded_68 rfl (lv_at hl 0 rfl) ?_
              refine fa_getr (k := 397) (j := 401) CX HX339 fl_X7_19 (by omega) rfl rfl hM.2.2.2.1 dX7_recorded_69 ?_
              refine lv_sipush (v := nI (453)) hx hb dX7_recorded_72 (by decide) ?_
              refine lv_aload_n hx hb dX7_recorded_75 rfl (lv_at hl 0 rfl) ?_
              refine fa_geti (k := 397) CX HX339 fl_X7_40 (by omega) rfl rfl dX7_recorded_76 ?_
              rw [show v338 397 10 = nI (0) from (by simp [f0, hi_61.2 397 (by omega)] <;> rfl)]
              refine fa_imulN hx hb dX7_recorded_79 ?_
              refine lv_iload_n hx hb dX7_recorded_80 rfl (lv_at hl 2 rfl) ?_
              refine fa_iaddN hx hb dX7_recorded_81 ?_
              refine lv_aload_n hx hb dX7_recorded_82 rfl (lv_at hl 0 rfl) ?_
              refine fa_getr (k := 397) (j := 399) CX HX339 fl_X7_13 (by omega) rfl rfl hM.2.1 dX7_recorded_83 ?_
              refine lv_iload_n hx hb dX7_recorded_86 rfl (lv_at hl 2 rfl) ?_
              refine fa_iald (k := 399) (j := k) CX HX339 (by omega) rfl (by omega) (by first | decide | assumption) dX7_recorded_87 ?_
              refine fa_iast (k := 401) (j := 453 * 0 + k) CX HX339 (by omega) rfl (by omega) (by first | decide | assumption) dX7_recorded_88 (fun H locs v343 e344 HX345 => ?_)
              refine lv_iinc (v := nI (k + 1)) (lv' := [(2, .int (nI (k + 1))), (0, .ref (fa_B G + (397))), (1, .int (a1))]) hx hb dX7_recorded_89 hl (k := 2) rfl (nI_add (k) 1) (by decide) rfl (fun ls hl => ?_)
              refine lv_goto (tgt := 61) hx hb dX7_recorded_92 (by decide) ?_
              exact ih_61 (k + 1) v343 _ _ _ (by omega) (⟨by omega, (by rw [e344]; exact fa_fr.u (fa_fr.tr fa_fr.rf (fa_fr.wide hi_61.2 (by omega) (by omega))) (by omega))⟩) (lv_sub hl [1, 2, 0] rfl) HX345
        exact LOOP_61 (453 - 0 + 1) (0) v _ _ _ (Nat.lt_succ_self _) (⟨Nat.zero_le _, fa_fr.rf⟩) (lv_sub hl [1, 2, 0] rfl) HX
      · exact absurd c_15 (by rw [kx_15]; try decide)
