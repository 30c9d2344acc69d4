set_option maxHeartbeats 4000000 in
set_option maxRecDepth 100000 in
theorem g_append (l : Launch) (G : fa_G) (n : Nat) (hn : 397 ≤ n) (v : fa_V) (r : fa_R) (hC : fa_CI v r) (a1 : Int32) : fa_MI l G n yX6_append cX6_append 2 (some .int) 4 [.ref (fa_B G + (0)), .int (a1)] v r (fa_voi r (fun x v1 => (((¬ (nI 32 ≤ a1 ∧ a1 ≤ nI 126) ∧ x = (-2 : Int32) ∧ v1 = v) ∨ ((nI 32 ≤ a1 ∧ a1 ≤ nI 126) ∧ ((x = (-4 : Int32) ∧ 60 ≤ fa_N (v 395 1) ∧ v1 = v) ∨ (x = nI (fa_N (v 395 1) + 1) ∧ fa_N (v 395 1) < 60 ∧ v1 = fa_put v (((a1).toUInt32 % 65536).toInt32))))) ∧ fa_CI v1 r) ∧ (fa_fr (395) (397) v v1))) := by
  refine fa_startI (by decide +kernel) (Nat.le_of_ble_eq_true rfl) (fun p e s m args below meth c ls Q CX hl HX RET => ?_)
  have hl : lv_has ls 2 [(0, .ref (fa_B G + (0))), (1, .int (a1))] := hl
  have hx := CX.1.1
  have hb := CX.1.2.1
  have hB : (1 : Nat) ∈ fa_bs := by decide
  refine lv_iload_n hx hb dX6_append_0 rfl (lv_at hl 1 rfl) ?_
  refine lv_bipush (v := nI (32)) hx hb dX6_append_1 (by decide) ?_
  refine lv_icmp_lt (tgt := 12) hx hb dX6_append_3 (by decide) (fun c_3 => ?_) (fun c_3 => ?_)
  · refine lv_bipush (v := (-2 : Int32)) hx hb dX6_append_12 (by decide) ?_
    exact RET _ _ _ _ _ _ _ HX dX6_append_14 (⟨rfl, ⟨⟨(Or.inl ⟨fun z => absurd c_3 (Int32.not_lt.mpr z.1), rfl, rfl⟩), hC⟩, fa_fr.rf⟩⟩)
  · refine lv_iload_n hx hb dX6_append_6 rfl (lv_at hl 1 rfl) ?_
    refine lv_bipush (v := nI (126)) hx hb dX6_append_7 (by decide) ?_
    refine lv_icmp_le (tgt := 15) hx hb dX6_append_9 (by decide) (fun c_9 => ?_) (fun c_9 => ?_)
    · refine lv_aload_n hx hb dX6_append_15 rfl (lv_at hl 0 rfl) ?_
      refine fa_getr (k := 0) (j := 395) CX HX fl_X6_29 (by omega) rfl rfl (fa_CI.A hC).2.2.2.1 dX6_append_16 ?_
      refine lv_iload_n hx hb dX6_append_19 rfl (lv_at hl 1 rfl) ?_
      refine lv_i2c hx hb dX6_append_20 rfl ?_
      refine fa_callViu (As := [.int (((a1).toUInt32 % 65536).toInt32)]) (rest := []) CX HX (g_appendSign l G n hn v r (fa_CI.A hC) (fa_CI.T hC) (((a1).toUInt32 % 65536).toInt32)) ln_X6_70 (by omega) rfl rfl rfl rfl (Nat.le_of_ble_eq_true rfl) hl.1 ⟨Nat.le_of_ble_eq_true rfl, Nat.le_of_ble_eq_true rfl⟩ ⟨Nat.le_refl _, Nat.le_refl _⟩ dX6_append_21 (fun x1532 v1533 H locs h1531 HX1534 => ?_)
      have h_ap := h1531.1.2
      have hC_v1533 : fa_CI v1533 r := fa_CI.tx hC h1531.1.1 (fa_fr.wide h1531.2 (by omega) (by omega))
      refine lv_if_eq (tgt := 37) hx hb dX6_append_24 (by decide) (fun c_24 => ?_) (fun c_24 => ?_)
      · refine lv_bipush (v := (-4 : Int32)) hx hb dX6_append_37 (by decide) ?_
        exact RET _ _ _ _ _ _ _ HX1534 dX6_append_39 (⟨rfl, ⟨⟨(Or.inr ⟨⟨Int32.not_lt.mp c_3, c_9⟩, fa_ap_0 h_ap c_24⟩), hC_v1533⟩, (fa_fr.tr fa_fr.rf (fa_fr.wide h1531.2 (by omega) (by omega)))⟩⟩)
      · refine lv_aload_n hx hb dX6_append_27 rfl (lv_at hl 0 rfl) ?_
        refine fa_getr (k := 0) (j := 395) CX HX1534 fl_X6_29 (by omega) rfl rfl (fa_CI.A hC_v1533).2.2.2.1 dX6_append_28 ?_
        refine fa_geti (k := 395) CX HX1534 fl_X6_74 (by omega) rfl rfl dX6_append_31 ?_
        refine lv_goto (tgt := 39) hx hb dX6_append_34 (by decide) ?_
        exact RET _ _ _ _ _ _ _ HX1534 dX6_append_39 (⟨rfl, ⟨⟨(Or.inr ⟨⟨Int32.not_lt.mp c_3, c_9⟩, fa_ap_1 h_ap c_24⟩), hC_v1533⟩, (fa_fr.tr fa_fr.rf (fa_fr.wide h1531.2 (by omega) (by omega)))⟩⟩)
    · refine lv_bipush (v := (-2 : Int32)) hx hb dX6_append_12 (by decide) ?_
      exact RET _ _ _ _ _ _ _ HX dX6_append_14 (⟨rfl, ⟨⟨(Or.inl ⟨fun z => c_9 z.2, rfl, rfl⟩), hC⟩, fa_fr.rf⟩⟩)
set_option maxHeartbeats 4000000 in
set_option maxRecDepth 100000 in
theorem g_clearText (l : Launch) (G : fa_G) (n : Nat) (hn : 397 ≤ n) (v : fa_V) (r : fa_R) (hC : fa_CI v r) : fa_MI l G n yX6_clearText cX6_clearText 2 (some .int) 2 [.ref (fa_B G + (0))] v r (fa_voi r (fun x v1 => ((x = v 395 1 ∧ v1 = fa_u v 395 1 (nI 0)) ∧ fa_CI v1 r) ∧ (fa_fr (395) (396) v v1))) := by
  refine fa_startI (by decide +kernel) (Nat.le_of_ble_eq_true rfl) (fun p e s m args below meth c ls Q CX hl HX RET => ?_)
  have hl : lv_has ls 2 [(0, .ref (fa_B G + (0)))] := hl
  have hx := CX.1.1
  have hb := CX.1.2.1
  have hB : (1 : Nat) ∈ fa_bs := by decide
  obtain ⟨⟨nt, hnt, ht⟩, hch⟩ := fa_CI.T hC
  refine lv_aload_n hx hb dX6_clearText_0 rfl (lv_at hl 0 rfl) ?_
  refine fa_getr (k := 0) (j := 395) CX HX fl_X6_29 (by omega) rfl rfl (fa_CI.A hC).2.2.2.1 dX6_clearText_1 ?_
  refine fa_geti (k := 395) CX HX fl_X6_74 (by omega) rfl rfl dX6_clearText_4 ?_
  rw [show v 395 1 = nI (nt) from ht]
  refine lv_istore_n (lv' := [(1, .int (nI (nt))), (0, .ref (fa_B G + (0)))]) hx hb dX6_clearText_7 rfl hl (by decide) rfl (fun ls hl => ?_)
  refine lv_aload_n hx hb dX6_clearText_8 rfl (lv_at hl 1 rfl) ?_
  refine fa_getr (k := 0) (j := 395) CX HX fl_X6_29 (by omega) rfl rfl (fa_CI.A hC).2.2.2.1 dX6_clearText_9 ?_
  refine lv_iconst (v := nI (0)) hx hb dX6_clearText_12 (by decide) ?_
  refine fa_puti (k := 395) CX HX fl_X6_74 (by omega) rfl rfl rfl rfl dX6_clearText_13 (fun H locs v1535 e1536 HX1537 => ?_)
  refine lv_iload_n hx hb dX6_clearText_16 rfl (lv_at hl 0 rfl) ?_
  exact RET _ _ _ _ _ _ _ HX1537 dX6_clearText_17 (⟨rfl, ⟨⟨⟨ht.symm, (by show v1535 = _; rw [e1536])⟩, (show fa_CI v1535 r from by rw [e1536]; exact fa_CI.len hC (by omega))⟩, (by rw [e1536]; exact fa_fr.u fa_fr.rf (by omega))⟩⟩)
set_option maxHeartbeats 4000000 in
set_option maxRecDepth 100000 in
theorem g_fault (l : Launch) (G : fa_G) (n : Nat) (hn : 397 ≤ n) (v : fa_V) (r : fa_R) (hC : fa_CI v r) : fa_MI l G n yX6_fault cX6_fault 1 (some .int) 7 [.ref (fa_B G + (0))] v r (fa_voi r (fun x v1 => (((v1 395 1 = v 395 1) ∧ ∃ j, j ≤ 20 ∧ fa_FR (fa_sg (v 396) (fa_N (v 395 1))) (fa_N (v 395 1)) j x) ∧ fa_CI v1 r) ∧ (fa_fr (395) (396) v v1))) := by
  refine fa_startI (by decide +kernel) (Nat.le_of_ble_eq_true rfl) (fun p e s m args below meth c ls Q CX hl HX RET => ?_)
  have hl : lv_has ls 1 [(0, .ref (fa_B G + (0)))] := hl
  have hx := CX.1.1
  have hb := CX.1.2.1
  have hB : (1 : Nat) ∈ fa_bs := by decide
  obtain ⟨⟨nt, hnt, ht⟩, hch⟩ := fa_CI.T hC
  have hX : fa_TX v nt (v 396) := ⟨hnt, ht, rfl⟩
  have ent : fa_N (v 395 1) = nt := by rw [ht]; exact fa_N_nI (by omega)
  refine lv_aload_n hx hb dX6_fault_0 rfl (lv_at hl 0 rfl) ?_
  refine fa_getr (k := 0) (j := 395) CX HX fl_X6_29 (by omega) rfl rfl (fa_CI.A hC).2.2.2.1 dX6_fault_1 ?_
  refine fa_callViu (As := []) (rest := []) CX HX (g_findFault l G n hn v r (fa_CI.A hC) (fa_CI.T hC) nt (v 396) hX) ln_X6_78 (by omega) rfl rfl rfl rfl (Nat.le_of_ble_eq_true rfl) hl.1 ⟨Nat.le_of_ble_eq_true rfl, Nat.le_of_ble_eq_true rfl⟩ ⟨Nat.le_refl _, Nat.le_refl _⟩ dX6_fault_4 (fun x1539 v1540 H locs h1538 HX1541 => ?_)
  obtain ⟨hx_x1539, hs_x1539⟩ := h1538.1
  have hC_v1540 : fa_CI v1540 r := fa_CI.tx hC (fa_IT.rows (fa_CI.T hC) (hs_x1539 1 (by decide) (by decide) (by decide) (by decide)) (h1538.2 396 (by decide))) (fa_fr.wide h1538.2 (by omega) (by omega))
  exact RET _ _ _ _ _ _ _ HX1541 dX6_fault_7 (⟨rfl, ⟨⟨⟨(show v1540 395 1 = v 395 1 from (hs_x1539 1 (by decide) (by decide) (by decide) (by decide))), (by rw [ent]; exact hx_x1539)⟩, hC_v1540⟩, (fa_fr.tr fa_fr.rf (fa_fr.wide h1538.2 (by omega) (by omega)))⟩⟩)
set_option maxHeartbeats 4000000 in
set_option maxRecDepth 100000 in
theorem g_report (l : Launch) (G : fa_G) (n : Nat) (hn : 397 ≤ n) (v : fa_V) (r : fa_R) (hC : fa_CI v r) (a1 : Int32) (a2 : Int32) (a3 : Int32) : fa_MV l G n yX6_report cX6_report 4 1 [.ref (fa_B G + (0)), .int (a1), .int (a2), .int (a3)] v r (fa_vo r (fun v1 => (fa_CI v1 r) ∧ (fa_fr (0) (1) v v1))) := by
  refine fa_startV (by decide +kernel) (Nat.le_of_ble_eq_true rfl) (fun p e s m args below meth c ls Q CX hl HX RET => ?_)
  have hl : lv_has ls 4 [(0, .ref (fa_B G + (0))), (1, .int (a1)), (2, .int (a2)), (3, .int (a3))] := hl
  have hx := CX.1.1
  have hb := CX.1.2.1
  have hB : (1 : Nat) ∈ fa_bs := by decide
  refine lv_aload_n hx hb dX6_report_0 rfl (lv_at hl 0 rfl) ?_
  refine lv_iload_n hx hb dX6_report_1 rfl (lv_at hl 1 rfl) ?_
  refine fa_puti (k := 0) CX HX fl_X6_109 (by omega) rfl rfl rfl rfl dX6_report_2 (fun H locs v1542 e1543 HX1544 => ?_)
  refine lv_aload_n hx hb dX6_report_5 rfl (lv_at hl 0 rfl) ?_
  refine lv_iload_n hx hb dX6_report_6 rfl (lv_at hl 2 rfl) ?_
  refine fa_puti (k := 0) CX HX1544 fl_X6_112 (by omega) rfl rfl rfl rfl dX6_report_7 (fun H locs v1545 e1546 HX1547 => ?_)
  refine lv_aload_n hx hb dX6_report_10 rfl (lv_at hl 0 rfl) ?_
  refine lv_iload_n hx hb dX6_report_11 rfl (lv_at hl 3 rfl) ?_
  refine fa_puti (k := 0) CX HX1547 fl_X6_82 (by omega) rfl rfl rfl rfl dX6_report_12 (fun H locs v1548 e1549 HX1550 => ?_)
  exact RET _ _ _ _ _ _ HX1550 dX6_report_15 (⟨rfl, ⟨(show fa_CI v1548 r from by rw [e1549]; exact fa_CI.u0 (show fa_CI v1545 r from by rw [e1546]; exact fa_CI.u0 (show fa_CI v1542 r from by rw [e1543]; exact fa_CI.u0 hC))), (by rw [e1549]; exact fa_fr.u (by rw [e1546]; exact fa_fr.u (by rw [e1543]; exact fa_fr.u fa_fr.rf (by omega)) (by omega)) (by omega))⟩⟩)
set_option maxHeartbeats 4000000 in
set_option maxRecDepth 100000 in
theorem g_obey (l : Launch) (G : fa_G) (n : Nat) (hn : 397 ≤ n) (v : fa_V) (r : fa_R) (hC : fa_CI v r) : fa_MI l G n yX6_obey cX6_obey 1 (some .int) 7 [.ref (fa_B G + (0))] v r (fun x w => (fa_CI w.1 w.2) ∧ (fa_fr 1 57 v w.1) ∧ (∀ k, 395 ≤ k → w.2 k = r k)) := by
  refine fa_startI (by decide +kernel) (Nat.le_of_ble_eq_true rfl) (fun p e s m args below meth c ls Q CX hl HX RET => ?_)
  have hl : lv_has ls 1 [(0, .ref (fa_B G + (0)))] := hl
  have hx := CX.1.1
  have hb := CX.1.2.1
  have hB : (1 : Nat) ∈ fa_bs := by decide
  refine lv_aload_n hx hb dX6_obey_0 rfl (lv_at hl 0 rfl) ?_
  refine fa_getr (k := 0) (j := 395) CX HX fl_X6_29 (by omega) rfl rfl (fa_CI.A hC).2.2.2.1 dX6_obey_1 ?_
  refine fa_geti (k := 395) CX HX fl_X6_249 (by omega) rfl rfl dX6_obey_4 ?_
  by_cases c_7_97 : v 395 3 = (97 : Int32)
  · refine lv_lookup (off := 71) (tgt := 78) hx hb dX6_obey_7 (by decide) (by rw [c_7_97]; decide) (by decide) ?_
    refine lv_aload_n hx hb dX6_obey_78 rfl (lv_at hl 0 rfl) ?_
    refine fa_getr (k := 0) (j := 1) CX HX fl_X6_10 (by omega) rfl rfl (fa_CI.A hC).1 dX6_obey_79 ?_
    refine lv_aload_n hx hb dX6_obey_82 rfl (lv_at hl 0 rfl) ?_
    refine fa_getr (k := 0) (j := 395) CX HX fl_X6_29 (by omega) rfl rfl (fa_CI.A hC).2.2.2.1 dX6_obey_83 ?_
    refine fa_geti (k := 395) CX HX fl_X6_253 (by omega) rfl rfl dX6_obey_86 ?_
    refine fa_callViu (As := [.int (v 395 4)]) (rest := []) CX HX (g_askFor l G n hn v r 1 (by decide) (fa_CI.S hC 1 (by decide)).1 (fa_CI.S hC 1 (by decide)).2 (v 395 4) ) ln_X6_45 (fa_lt (by decide) 0 (by decide) hn) (fa_s0 (by decide)) rfl rfl rfl (Nat.le_of_ble_eq_true rfl) hl.1 ⟨Nat.le_of_ble_eq_true rfl, Nat.le_of_ble_eq_true rfl⟩ ⟨Nat.le_refl _, Nat.le_refl _⟩ dX6_obey_89 (fun x1552 v1553 H locs h1551 HX1554 => ?_)
    have h_askFor := h1551.1
    have hIS_v1553 : fa_IS v1553 1 := h1551.1
    have hC_v1553 : fa_CI v1553 r := fa_CI.st hC (by decide) hIS_v1553 (fa_CI.S hC 1 (by decide)).1 (fa_fr.wide h1551.2 (by omega) (by omega)) (fun _ _ => rfl)
    exact RET _ _ _ _ _ _ _ HX1554 dX6_obey_92 (⟨hC_v1553, (fa_fr.tr fa_fr.rf (fa_fr.wide h1551.2 (by omega) (by omega))), (fun k hk => rfl)⟩)
  by_cases c_7_102 : v 395 3 = (102 : Int32)
  · refine lv_lookup (off := 131) (tgt := 138) hx hb dX6_obey_7 (by decide) (by rw [c_7_102]; decide) (by decide) ?_
    refine lv_aload_n hx hb dX6_obey_138 rfl (lv_at hl 0 rfl) ?_
    refine fa_getr (k := 0) (j := 1) CX HX fl_X6_10 (by omega) rfl rfl (fa_CI.A hC).1 dX6_obey_139 ?_
    refine lv_aload_n hx hb dX6_obey_142 rfl (lv_at hl 0 rfl) ?_
    refine fa_getr (k := 0) (j := 395) CX HX fl_X6_29 (by omega) rfl rfl (fa_CI.A hC).2.2.2.1 dX6_obey_143 ?_
    refine fa_geti (k := 395) CX HX fl_X6_253 (by omega) rfl rfl dX6_obey_146 ?_
    refine lv_aload_n hx hb dX6_obey_149 rfl (lv_at hl 0 rfl) ?_
    refine fa_getr (k := 0) (j := 395) CX HX fl_X6_29 (by omega) rfl rfl (fa_CI.A hC).2.2.2.1 dX6_obey_150 ?_
    refine fa_geti (k := 395) CX HX fl_X6_256 (by omega) rfl rfl dX6_obey_153 ?_
    refine fa_callViu (As := [.int (v 395 4), .int (v 395 5)]) (rest := []) CX HX (g_putReference l G n hn v r 1 (by decide) (fa_CI.S hC 1 (by decide)).1 (fa_CI.S hC 1 (by decide)).2 (v 395 4) (v 395 5) ) ln_X6_55 (fa_lt (by decide) 0 (by decide) hn) (fa_s0 (by decide)) rfl rfl rfl (Nat.le_of_ble_eq_true rfl) hl.1 ⟨Nat.le_of_ble_eq_true rfl, Nat.le_of_ble_eq_true rfl⟩ ⟨Nat.le_refl _, Nat.le_refl _⟩ dX6_obey_156 (fun x1556 v1557 H locs h1555 HX1558 => ?_)
    have h_putReference := h1555.1
    have hIS_v1557 : fa_IS v1557 1 := h1555.1
    have hC_v1557 : fa_CI v1557 r := fa_CI.st hC (by decide) hIS_v1557 (fa_CI.S hC 1 (by decide)).1 (fa_fr.wide h1555.2 (by omega) (by omega)) (fun _ _ => rfl)
    exact RET _ _ _ _ _ _ _ HX1558 dX6_obey_159 (⟨hC_v1557, (fa_fr.tr fa_fr.rf (fa_fr.wide h1555.2 (by omega) (by omega))), (fun k hk => rfl)⟩)
  by_cases c_7_108 : v 395 3 = (108 : Int32)
  · refine lv_lookup (off := 109) (tgt := 116) hx hb dX6_obey_7 (by decide) (by rw [c_7_108]; decide) (by decide) ?_
    refine lv_aload_n hx hb dX6_obey_116 rfl (lv_at hl 0 rfl) ?_
    refine fa_getr (k := 0) (j := 1) CX HX fl_X6_10 (by omega) rfl rfl (fa_CI.A hC).1 dX6_obey_117 ?_
    refine lv_aload_n hx hb dX6_obey_120 rfl (lv_at hl 0 rfl) ?_
    refine fa_getr (k := 0) (j := 395) CX HX fl_X6_29 (by omega) rfl rfl (fa_CI.A hC).2.2.2.1 dX6_obey_121 ?_
    refine fa_geti (k := 395) CX HX fl_X6_253 (by omega) rfl rfl dX6_obey_124 ?_
    refine lv_aload_n hx hb dX6_obey_127 rfl (lv_at hl 0 rfl) ?_
    refine fa_getr (k := 0) (j := 395) CX HX fl_X6_29 (by omega) rfl rfl (fa_CI.A hC).2.2.2.1 dX6_obey_128 ?_
    refine fa_geti (k := 395) CX HX fl_X6_256 (by omega) rfl rfl dX6_obey_131 ?_
    refine fa_callViu (As := [.int (v 395 4), .int (v 395 5)]) (rest := []) CX HX (g_takeSeal l G n hn v r 1 (by decide) (fa_CI.S hC 1 (by decide)).1 (fa_CI.S hC 1 (by decide)).2 (v 395 4) (v 395 5) ) ln_X6_52 (fa_lt (by decide) 0 (by decide) hn) (fa_s0 (by decide)) rfl rfl rfl (Nat.le_of_ble_eq_true rfl) hl.1 ⟨Nat.le_of_ble_eq_true rfl, Nat.le_of_ble_eq_true rfl⟩ ⟨Nat.le_refl _, Nat.le_refl _⟩ dX6_obey_134 (fun x1560 v1561 H locs h1559 HX1562 => ?_)
    have h_takeSeal := h1559.1
    have hIS_v1561 : fa_IS v1561 1 := h1559.1
    have hC_v1561 : fa_CI v1561 r := fa_CI.st hC (by decide) hIS_v1561 (fa_CI.S hC 1 (by decide)).1 (fa_fr.wide h1559.2 (by omega) (by omega)) (fun _ _ => rfl)
    exact RET _ _ _ _ _ _ _ HX1562 dX6_obey_137 (⟨hC_v1561, (fa_fr.tr fa_fr.rf (fa_fr.wide h1559.2 (by omega) (by omega))), (fun k hk => rfl)⟩)
  by_cases c_7_110 : v 395 3 = (110 : Int32)
  · refine lv_lookup (off := 49) (tgt := 56) hx hb dX6_obey_7 (by decide) (by rw [c_7_110]; decide) (by decide) ?_
    refine lv_aload_n hx hb dX6_obey_56 rfl (lv_at hl 0 rfl) ?_
    refine fa_getr (k := 0) (j := 1) CX HX fl_X6_10 (by omega) rfl rfl (fa_CI.A hC).1 dX6_obey_57 ?_
    refine lv_aload_n hx hb dX6_obey_60 rfl (lv_at hl 0 rfl) ?_
    refine fa_getr (k := 0) (j := 395) CX HX fl_X6_29 (by omega) rfl rfl (fa_CI.A hC).2.2.2.1 dX6_obey_61 ?_
    refine fa_geti (k := 395) CX HX fl_X6_253 (by omega) rfl rfl dX6_obey_64 ?_
    refine lv_aload_n hx hb dX6_obey_67 rfl (lv_at hl 0 rfl) ?_
    refine fa_getr (k := 0) (j := 395) CX HX fl_X6_29 (by omega) rfl rfl (fa_CI.A hC).2.2.2.1 dX6_obey_68 ?_
    refine fa_geti (k := 395) CX HX fl_X6_256 (by omega) rfl rfl dX6_obey_71 ?_
    refine fa_callViu (As := [.int (v 395 4), .int (v 395 5)]) (rest := []) CX HX (g_addFile l G n hn v r 1 (by decide) (fa_CI.S hC 1 (by decide)).1 (fa_CI.S hC 1 (by decide)).2 (v 395 4) (v 395 5) ) ln_X6_37 (fa_lt (by decide) 0 (by decide) hn) (fa_s0 (by decide)) rfl rfl rfl (Nat.le_of_ble_eq_true rfl) hl.1 ⟨Nat.le_of_ble_eq_true rfl, Nat.le_of_ble_eq_true rfl⟩ ⟨Nat.le_refl _, Nat.le_refl _⟩ dX6_obey_74 (fun x1564 v1565 H locs h1563 HX1566 => ?_)
    have h_addFile := h1563.1
    have hIS_v1565 : fa_IS v1565 1 := h1563.1
    have hC_v1565 : fa_CI v1565 r := fa_CI.st hC (by decide) hIS_v1565 (fa_CI.S hC 1 (by decide)).1 (fa_fr.wide h1563.2 (by omega) (by omega)) (fun _ _ => rfl)
    exact RET _ _ _ _ _ _ _ HX1566 dX6_obey_77 (⟨hC_v1565, (fa_fr.tr fa_fr.rf (fa_fr.wide h1563.2 (by omega) (by omega))), (fun k hk => rfl)⟩)
  by_cases c_7_115 : v 395 3 = (115 : Int32)
  · refine lv_lookup (off := 86) (tgt := 93) hx hb dX6_obey_7 (by decide) (by rw [c_7_115]; decide) (by decide) ?_
    refine lv_aload_n hx hb dX6_obey_93 rfl (lv_at hl 0 rfl) ?_
    refine fa_getr (k := 0) (j := 1) CX HX fl_X6_10 (by omega) rfl rfl (fa_CI.A hC).1 dX6_obey_94 ?_
    refine lv_aload_n hx hb dX6_obey_97 rfl (lv_at hl 0 rfl) ?_
    refine fa_getr (k := 0) (j := 395) CX HX fl_X6_29 (by omega) rfl rfl (fa_CI.A hC).2.2.2.1 dX6_obey_98 ?_
    refine fa_geti (k := 395) CX HX fl_X6_253 (by omega) rfl rfl dX6_obey_101 ?_
    refine lv_aload_n hx hb dX6_obey_104 rfl (lv_at hl 0 rfl) ?_
    refine fa_getr (k := 0) (j := 395) CX HX fl_X6_29 (by omega) rfl rfl (fa_CI.A hC).2.2.2.1 dX6_obey_105 ?_
    refine fa_geti (k := 395) CX HX fl_X6_256 (by omega) rfl rfl dX6_obey_108 ?_
    refine lv_iconst (v := (-1 : Int32)) hx hb dX6_obey_111 (by decide) ?_
    refine fa_callViu (As := [.int (v 395 4), .int (v 395 5), .int ((-1 : Int32))]) (rest := []) CX HX (g_putSeal l G n hn v r 1 (by decide) (fa_CI.S hC 1 (by decide)).1 (fa_CI.S hC 1 (by decide)).2 (v 395 4) (v 395 5) ((-1 : Int32)) ) ln_X6_48 (fa_lt (by decide) 0 (by decide) hn) (fa_s0 (by decide)) rfl rfl rfl (Nat.le_of_ble_eq_true rfl) hl.1 ⟨Nat.le_of_ble_eq_true rfl, Nat.le_of_ble_eq_true rfl⟩ ⟨Nat.le_refl _, Nat.le_refl _⟩ dX6_obey_112 (fun x1568 v1569 H locs h1567 HX1570 => ?_)
    have h_putSeal := h1567.1
    have hIS_v1569 : fa_IS v1569 1 := h1567.1
    have hC_v1569 : fa_CI v1569 r := fa_CI.st hC (by decide) hIS_v1569 (fa_CI.S hC 1 (by decide)).1 (fa_fr.wide h1567.2 (by omega) (by omega)) (fun _ _ => rfl)
    exact RET _ _ _ _ _ _ _ HX1570 dX6_obey_115 (⟨hC_v1569, (fa_fr.tr fa_fr.rf (fa_fr.wide h1567.2 (by omega) (by omega))), (fun k hk => rfl)⟩)
  refine lv_lookup (off := 153) (tgt := 160) hx hb dX6_obey_7 (by decide) (by show Op.lookupswitch.offset [(97, 71), (102, 131), (108, 109), (110, 49), (115, 86)] 153 _ = _; rw [lv_osw (k := 97) c_7_97 (by decide), lv_osw (k := 102) c_7_102 (by decide), lv_osw (k := 108) c_7_108 (by decide), lv_osw (k := 110) c_7_110 (by decide), lv_osw (k := 115) c_7_115 (by decide)]; rfl) (by decide) ?_
  refine lv_aload_n hx hb dX6_obey_160 rfl (lv_at hl 0 rfl) ?_
  refine fa_getr (k := 0) (j := 1) CX HX fl_X6_10 (by omega) rfl rfl (fa_CI.A hC).1 dX6_obey_161 ?_
  refine lv_aload_n hx hb dX6_obey_164 rfl (lv_at hl 0 rfl) ?_
  refine fa_getr (k := 0) (j := 395) CX HX fl_X6_29 (by omega) rfl rfl (fa_CI.A hC).2.2.2.1 dX6_obey_165 ?_
  refine fa_geti (k := 395) CX HX fl_X6_253 (by omega) rfl rfl dX6_obey_168 ?_
  refine fa_callVi (As := [.int (v 395 4)]) (rest := []) CX HX (g_passDays l G n hn v r 1 (by decide) (fa_CI.S hC 1 (by decide)).1 (fa_CI.S hC 1 (by decide)).2 (v 395 4) ) ln_X6_64 (fa_lt (by decide) 0 (by decide) hn) (fa_s0 (by decide)) rfl rfl rfl (Nat.le_of_ble_eq_true rfl) hl.1 ⟨Nat.le_of_ble_eq_true rfl, Nat.le_of_ble_eq_true rfl⟩ ⟨Nat.le_refl _, Nat.le_refl _⟩ dX6_obey_171 (fun x1572 v1573 r1574 H locs h1571 HX1575 => ?_)
  dsimp only at h1571
  have hIS_v1573 := h1571.1
  have hr1_r1574 := h1571.2.1
  have hrr_r1574 := h1571.2.2.2
  have hC_v1573 : fa_CI v1573 r1574 := fa_CI.st hC (by decide) hIS_v1573 hr1_r1574 (fa_fr.wide h1571.2.2.1 (by omega) (by omega)) h1571.2.2.2
  exact RET _ _ _ _ _ _ _ HX1575 dX6_obey_174 (⟨hC_v1573, (fa_fr.tr fa_fr.rf (fa_fr.wide h1571.2.2.1 (by omega) (by omega))), (fun k hk => ((h1571.2.2.2 k (by omega)).trans rfl))⟩)
set_option maxHeartbeats 4000000 in
set_option maxRecDepth 100000 in
theorem g_run (l : Launch) (G : fa_G) (n : Nat) (hn : 397 ≤ n) (v : fa_V) (r : fa_R) (hC : fa_CI v r) : fa_MI l G n yX6_run cX6_run 6 (some .int) 8 [.ref (fa_B G + (0))] v r (fun x w => (w.1 395 1 = v 395 1) ∧ (fa_CI w.1 w.2) ∧ (fa_fr 0 396 v w.1) ∧ (∀ k, 395 ≤ k → w.2 k = r k)) := by
  refine fa_startI (by decide +kernel) (Nat.le_of_ble_eq_true rfl) (fun p e s m args below meth c ls Q CX hl HX RET => ?_)
  have hl : lv_has ls 6 [(0, .ref (fa_B G + (0)))] := hl
  have hx := CX.1.1
  have hb := CX.1.2.1
  have hB : (1 : Nat) ∈ fa_bs := by decide
  obtain ⟨⟨nt, hnt, ht⟩, hch⟩ := fa_CI.T hC
  have hX : fa_TX v nt (v 396) := ⟨hnt, ht, rfl⟩
  have ent : fa_N (v 395 1) = nt := by rw [ht]; exact fa_N_nI (by omega)
  refine lv_aload_n hx hb dX6_run_0 rfl (lv_at hl 0 rfl) ?_
  refine fa_getr (k := 0) (j := 395) CX HX fl_X6_29 (by omega) rfl rfl (fa_CI.A hC).2.2.2.1 dX6_run_1 ?_
  refine fa_callViu (As := []) (rest := []) CX HX (g_findFault l G n hn v r (fa_CI.A hC) (fa_CI.T hC) nt (v 396) hX) ln_X6_78 (by omega) rfl rfl rfl rfl (Nat.le_of_ble_eq_true rfl) hl.1 ⟨Nat.le_of_ble_eq_true rfl, Nat.le_of_ble_eq_true rfl⟩ ⟨Nat.le_refl _, Nat.le_refl _⟩ dX6_run_4 (fun x1577 v1578 H locs h1576 HX1579 => ?_)
  obtain ⟨hx_x1577, hs_x1577⟩ := h1576.1
  have hC_v1578 : fa_CI v1578 r := fa_CI.tx hC (fa_IT.rows (fa_CI.T hC) (hs_x1577 1 (by decide) (by decide) (by decide) (by decide)) (h1576.2 396 (by decide))) (fa_fr.wide h1576.2 (by omega) (by omega))
  refine lv_bipush (v := (-6 : Int32)) hx hb dX6_run_7 (by decide) ?_
  refine lv_icmp_eq (tgt := 15) hx hb dX6_run_9 (by decide) (fun c_9 => ?_) (fun c_9 => ?_)
  · refine lv_aload_n hx hb dX6_run_15 rfl (lv_at hl 0 rfl) ?_
    refine fa_getr (k := 0) (j := 113) CX HX1579 fl_X6_22 (by omega) rfl rfl (fa_CI.A hC_v1578).2.2.1 dX6_run_16 ?_
    refine lv_aload_n hx hb dX6_run_19 rfl (lv_at hl 0 rfl) ?_
    refine fa_getr (k := 0) (j := 1) CX HX1579 fl_X6_10 (by omega) rfl rfl (fa_CI.A hC_v1578).1 dX6_run_20 ?_
    refine fa_callVvu (As := [.ref (fa_B G + (1))]) (rest := []) CX HX1579 (g_draft l G n hn v1578 r hC_v1578 ) ln_X6_33 (by omega) rfl rfl rfl rfl (Nat.le_of_ble_eq_true rfl) hl.1 ⟨Nat.le_of_ble_eq_true rfl, Nat.le_of_ble_eq_true rfl⟩ ⟨Nat.le_refl _, Nat.le_refl _⟩ dX6_run_23 (fun v1581 H locs h1580 HX1582 => ?_)
    have hC_v1581 := h1580.1
    refine lv_aload_n hx hb dX6_run_26 rfl (lv_at hl 0 rfl) ?_
    refine lv_iconst (v := nI (0)) hx hb dX6_run_27 (by decide) ?_
    refine fa_puti (k := 0) CX HX1582 fl_X6_82 (by omega) rfl rfl rfl rfl dX6_run_28 (fun H locs v1583 e1584 HX1585 => ?_)
    refine lv_aload_n hx hb dX6_run_31 rfl (lv_at hl 0 rfl) ?_
    refine fa_getr (k := 0) (j := 395) CX HX1585 fl_X6_29 (by omega) rfl rfl (fa_CI.A (show fa_CI v1583 r from by rw [e1584]; exact fa_CI.u0 hC_v1581)).2.2.2.1 dX6_run_32 ?_
    refine lv_iconst (v := nI (0)) hx hb dX6_run_35 (by decide) ?_
    refine fa_puti (k := 395) CX HX1585 fl_X6_85 (by omega) rfl rfl rfl rfl dX6_run_36 (fun H locs v1586 e1587 HX1588 => ?_)
    refine lv_iconst (v := nI (0)) hx hb dX6_run_39 (by decide) ?_
    refine lv_istore_n (lv' := [(1, .int (nI (0))), (0, .ref (fa_B G + (0)))]) hx hb dX6_run_40 rfl hl (by decide) rfl (fun ls hl => ?_)
    refine lv_iconst (v := nI (1)) hx hb dX6_run_41 (by decide) ?_
    refine lv_istore_n (lv' := [(2, .int (nI (1))), (1, .int (nI (0))), (0, .ref (fa_B G + (0)))]) hx hb dX6_run_42 rfl hl (by decide) rfl (fun ls hl => ?_)
    refine lv_iconst (v := nI (0)) hx hb dX6_run_43 (by decide) ?_
    refine lv_istore_n (lv' := [(3, .int (nI (0))), (2, .int (nI (1))), (1, .int (nI (0))), (0, .ref (fa_B G + (0)))]) hx hb dX6_run_44 rfl hl (by decide) rfl (fun ls hl => ?_)
    have LOOP_45 : ∀ (fu : Nat) (j : Nat) (ex : Int32) (mo : Int32) (mt : Nat) (v1589 : fa_V) (r1590 : fa_R) (H : Heap) (locs : List Loc) (ls : Array Slot), 60 - j < fu → (j ≤ 60 ∧ fa_CI v1589 r1590 ∧ v1589 395 1 = v 395 1 ∧ (mt ≤ nt ∧ v1589 395 2 = nI mt) ∧ fa_fr 0 396 v v1589 ∧ ∀ k, 395 ≤ k → r1590 k = r k) → lv_has ls 6 [(0, .ref (fa_B G + (0))), (1, .int (ex)), (2, .int (mo)), (3, .int (nI (j)))] → fa_HX G (n) v1589 r1590 s H locs → W p l e (fa_rm 8) s m args below meth c H locs (0) (0) Q (F0 m 45 ls []) := by
      intro fu
      induction fu with
      | zero => intro j ex mo mt v1589 r1590 H locs ls hk; exact absurd hk (Nat.not_lt_zero _)
      | succ fu ih_45 =>
        intro j ex mo mt v1589 r1590 H locs ls hk_45 hi_45 hl HX1591
        refine lv_iload_n hx hb dX6_run_45 rfl (lv_at hl 2 rfl) ?_
        refine lv_if_eq (tgt := 120) hx hb dX6_run_46 (by decide) (fun c_46 => ?_) (fun c_46 => ?_)
        · refine lv_aload_n hx hb dX6_run_120 rfl (lv_at hl 0 rfl) ?_
          refine fa_getr (k := 0) (j := 113) CX HX1591 fl_X6_22 (by omega) rfl rfl (fa_CI.A hi_45.2.1).2.2.1 dX6_run_121 ?_
          refine fa_callVv (As := []) (rest := []) CX HX1591 (g_keepDraft l G n hn v1589 r1590 hi_45.2.1 ) ln_X6_106 (by omega) rfl rfl rfl rfl (Nat.le_of_ble_eq_true rfl) hl.1 ⟨Nat.le_of_ble_eq_true rfl, Nat.le_of_ble_eq_true rfl⟩ ⟨Nat.le_refl _, Nat.le_refl _⟩ dX6_run_124 (fun v1593 r1594 H locs h1592 HX1595 => ?_)
          dsimp only at h1592
          have hC_v1593 := h1592.2.1
          have h_keepDraft := h1592.1
          refine lv_iload_n hx hb dX6_run_127 rfl (lv_at hl 1 rfl) ?_
          exact RET _ _ _ _ _ _ _ HX1595 dX6_run_128 (⟨(show v1593 395 1 = v 395 1 from ((congrFun (h1592.2.2.1 395 (by omega)) 1).trans hi_45.2.2.1)), hC_v1593, (fa_fr.tr (fa_fr.tr fa_fr.rf (fa_fr.wide hi_45.2.2.2.2.1 (by omega) (by omega))) (fa_fr.wide h1592.2.2.1 (by omega) (by omega))), (fun k hk => ((h1592.2.2.2 k hk).trans ((hi_45.2.2.2.2.2 k hk).trans rfl)))⟩)
        · refine lv_iload_n hx hb dX6_run_49 rfl (lv_at hl 3 rfl) ?_
          refine lv_bipush (v := nI (60)) hx hb dX6_run_50 (by decide) ?_
          refine lv_icmp_ge (tgt := 120) hx hb dX6_run_52 (by decide) (fun c_52 => ?_) (fun c_52 => ?_)
          · refine lv_aload_n hx hb dX6_run_120 rfl (lv_at hl 0 rfl) ?_
            refine fa_getr (k := 0) (j := 113) CX HX1591 fl_X6_22 (by omega) rfl rfl (fa_CI.A hi_45.2.1).2.2.1 dX6_run_121 ?_
            refine fa_callVv (As := []) (rest := []) CX HX1591 (g_keepDraft l G n hn v1589 r1590 hi_45.2.1 ) ln_X6_106 (by omega) rfl rfl rfl rfl (Nat.le_of_ble_eq_true rfl) hl.1 ⟨Nat.le_of_ble_eq_true rfl, Nat.le_of_ble_eq_true rfl⟩ ⟨Nat.le_refl _, Nat.le_refl _⟩ dX6_run_124 (fun v1597 r1598 H locs h1596 HX1599 => ?_)
            dsimp only at h1596
            have hC_v1597 := h1596.2.1
            have h_keepDraft := h1596.1
            refine lv_iload_n hx hb dX6_run_127 rfl (lv_at hl 1 rfl) ?_
            exact RET _ _ _ _ _ _ _ HX1599 dX6_run_128 (⟨(show v1597 395 1 = v 395 1 from ((congrFun (h1596.2.2.1 395 (by omega)) 1).trans hi_45.2.2.1)), hC_v1597, (fa_fr.tr (fa_fr.tr fa_fr.rf (fa_fr.wide hi_45.2.2.2.2.1 (by omega) (by omega))) (fa_fr.wide h1596.2.2.1 (by omega) (by omega))), (fun k hk => ((h1596.2.2.2 k hk).trans ((hi_45.2.2.2.2.2 k hk).trans rfl)))⟩)
          · have hj := fa_ltN (by omega) (by omega) c_52
            refine lv_aload_n hx hb dX6_run_55 rfl (lv_at hl 0 rfl) ?_
            refine fa_getr (k := 0) (j := 395) CX HX1591 fl_X6_29 (by omega) rfl rfl (fa_CI.A hi_45.2.1).2.2.2.1 dX6_run_56 ?_
            refine fa_geti (k := 395) CX HX1591 fl_X6_85 (by omega) rfl rfl dX6_run_59 ?_
            rw [show v1589 395 2 = nI (mt) from hi_45.2.2.2.1.2]
            refine lv_istore (lv' := [(4, .int (nI (mt))), (0, .ref (fa_B G + (0))), (1, .int (ex)), (2, .int (mo)), (3, .int (nI (j)))]) hx hb dX6_run_62 hl (by decide) rfl (fun ls hl => ?_)
            refine lv_aload_n hx hb dX6_run_64 rfl (lv_at hl 1 rfl) ?_
            refine fa_getr (k := 0) (j := 395) CX HX1591 fl_X6_29 (by omega) rfl rfl (fa_CI.A hi_45.2.1).2.2.2.1 dX6_run_65 ?_
            refine fa_callViu (As := []) (rest := []) CX HX1591 (g_readOrder l G n hn v1589 r1590 (fa_CI.A hi_45.2.1) (fa_CI.T hi_45.2.1) nt (v 396) (fa_TX.rows hX hi_45.2.2.1 ((hi_45.2.2.2.2.1 396 (by omega)).trans rfl)) (mt) (by omega) hi_45.2.2.2.1.2) ln_X6_88 (by omega) rfl rfl rfl rfl (Nat.le_of_ble_eq_true rfl) hl.1 ⟨Nat.le_of_ble_eq_true rfl, Nat.le_of_ble_eq_true rfl⟩ ⟨Nat.le_refl _, Nat.le_refl _⟩ dX6_run_68 (fun x1601 v1602 H locs h1600 HX1603 => ?_)
            obtain ⟨hx_x1601, ⟨m_x1601, hm_x1601, hle_x1601, gm_x1601, he_x1601⟩, hs_x1601⟩ := h1600.1
            have hC_v1602 : fa_CI v1602 r1590 := fa_CI.tx hi_45.2.1 (fa_IT.rows (fa_CI.T hi_45.2.1) (hs_x1601 1 (by decide) (by decide) (by decide) (by decide)) (h1600.2 396 (by decide))) (fa_fr.wide h1600.2 (by omega) (by omega))
            refine lv_pop hx hb dX6_run_71 rfl ?_
            refine lv_aload_n hx hb dX6_run_72 rfl (lv_at hl 1 rfl) ?_
            refine fa_callVi (As := []) (rest := []) CX HX1603 (g_obey l G n hn v1602 r1590 hC_v1602 ) ln_X6_92 (by omega) rfl rfl rfl rfl (Nat.le_of_ble_eq_true rfl) hl.1 ⟨Nat.le_of_ble_eq_true rfl, Nat.le_of_ble_eq_true rfl⟩ ⟨Nat.le_refl _, Nat.le_refl _⟩ dX6_run_73 (fun x1605 v1606 r1607 H locs h1604 HX1608 => ?_)
            dsimp only at h1604
            have hC_v1606 := h1604.1
            refine lv_istore (lv' := [(5, .int (x1605)), (4, .int (nI (mt))), (0, .ref (fa_B G + (0))), (1, .int (ex)), (2, .int (mo)), (3, .int (nI (j)))]) hx hb dX6_run_76 hl (by decide) rfl (fun ls hl => ?_)
            refine lv_iload hx hb dX6_run_78 (lv_at hl 0 rfl) ?_
            refine fa_callSip (As := [.int (x1605)]) (rest := []) CX HX1608 (c_X6_isError l G n v1606 r1607 (x1605)) ln_X6_95 rfl rfl (Nat.le_of_ble_eq_true rfl) hl.1 ⟨Nat.le_of_ble_eq_true rfl, Nat.le_of_ble_eq_true rfl⟩ ⟨Nat.le_refl _, Nat.le_refl _⟩ dX6_run_80 (fun x1610 H locs h1609 HX1611 => ?_)
            have h_isError := h1609
            refine lv_if_eq (tgt := 101) hx hb dX6_run_83 (by decide) (fun c_83 => ?_) (fun c_83 => ?_)
            · refine lv_iinc (v := ex + (1)) (lv' := [(1, .int (ex + (1))), (5, .int (x1605)), (4, .int (nI (mt))), (0, .ref (fa_B G + (0))), (2, .int (mo)), (3, .int (nI (j)))]) hx hb dX6_run_101 hl (k := 3) rfl rfl (by decide) rfl (fun ls hl => ?_)
              refine lv_aload_n hx hb dX6_run_104 rfl (lv_at hl 3 rfl) ?_
              refine fa_getr (k := 0) (j := 395) CX HX1611 fl_X6_29 (by omega) rfl rfl (fa_CI.A hC_v1606).2.2.2.1 dX6_run_105 ?_
              refine lv_bipush (v := nI (59)) hx hb dX6_run_108 (by decide) ?_
              refine fa_callViu (As := [.int (nI (59))]) (rest := []) CX HX1611 (g_readSign l G n hn v1606 r1607 (fa_CI.A hC_v1606) (fa_CI.T hC_v1606) nt (v 396) (fa_TX.rows hX ((congrFun (h1604.2.1 395 (by omega)) 1).trans ((hs_x1601 1 (by decide) (by decide) (by decide) (by decide)).trans hi_45.2.2.1)) ((h1604.2.1 396 (by omega)).trans ((h1600.2 396 (by omega)).trans ((hi_45.2.2.2.2.1 396 (by omega)).trans rfl)))) (m_x1601) (by omega) (by rw [h1604.2.1 _ (by omega)]; exact gm_x1601) (nI (59)) (by decide)) ln_X6_103 (by omega) rfl rfl rfl rfl (Nat.le_of_ble_eq_true rfl) hl.1 ⟨Nat.le_of_ble_eq_true rfl, Nat.le_of_ble_eq_true rfl⟩ ⟨Nat.le_refl _, Nat.le_refl _⟩ dX6_run_110 (fun x1613 v1614 H locs h1612 HX1615 => ?_)
              obtain ⟨hx_x1613, ⟨m_x1613, hm_x1613, hle_x1613, gm_x1613⟩, hs_x1613⟩ := h1612.1
              have hC_v1614 : fa_CI v1614 r1607 := fa_CI.tx hC_v1606 (fa_IT.rows (fa_CI.T hC_v1606) (hs_x1613 1 (by decide)) (h1612.2 396 (by decide))) (fa_fr.wide h1612.2 (by omega) (by omega))
              refine lv_istore_n (lv' := [(2, .int (x1613)), (1, .int (ex + (1))), (5, .int (x1605)), (4, .int (nI (mt))), (0, .ref (fa_B G + (0))), (3, .int (nI (j)))]) hx hb dX6_run_113 rfl hl (by decide) rfl (fun ls hl => ?_)
              refine lv_iinc (v := nI (j + 1)) (lv' := [(3, .int (nI (j + 1))), (2, .int (x1613)), (1, .int (ex + (1))), (5, .int (x1605)), (4, .int (nI (mt))), (0, .ref (fa_B G + (0)))]) hx hb dX6_run_114 hl (k := 5) rfl (nI_add (j) 1) (by decide) rfl (fun ls hl => ?_)
              refine lv_goto (tgt := 45) hx hb dX6_run_117 (by decide) ?_
              exact ih_45 (j + 1) (ex + (1)) (x1613) (m_x1613) v1614 r1607 _ _ _ (by omega) (⟨by omega, hC_v1614, ((hs_x1613 1 (by decide)).trans ((congrFun (h1604.2.1 395 (by omega)) 1).trans ((hs_x1601 1 (by decide) (by decide) (by decide) (by decide)).trans hi_45.2.2.1))), ⟨by omega, gm_x1613⟩, (fa_fr.tr (fa_fr.tr (fa_fr.tr (fa_fr.tr fa_fr.rf (fa_fr.wide hi_45.2.2.2.2.1 (by omega) (by omega))) (fa_fr.wide h1600.2 (by omega) (by omega))) (fa_fr.wide h1604.2.1 (by omega) (by omega))) (fa_fr.wide h1612.2 (by omega) (by omega))), (fun k hk => ((h1604.2.2 k hk).trans ((hi_45.2.2.2.2.2 k hk).trans rfl)))⟩) (lv_sub hl [5, 2, 1, 0] rfl) HX1615
            · refine lv_aload_n hx hb dX6_run_86 rfl (lv_at hl 2 rfl) ?_
              refine lv_iload_n hx hb dX6_run_87 rfl (lv_at hl 3 rfl) ?_
              refine lv_iload hx hb dX6_run_88 (lv_at hl 1 rfl) ?_
              refine lv_iload hx hb dX6_run_90 (lv_at hl 0 rfl) ?_
              refine lv_ineg hx hb dX6_run_92 ?_
              refine fa_callVvu (As := [.int (ex), .int (nI (mt)), .int (-(x1605))]) (rest := []) CX HX1611 (g_report l G n hn v1606 r1607 hC_v1606 (ex) (nI (mt)) (-(x1605))) ln_X6_99 (by omega) rfl rfl rfl rfl (Nat.le_of_ble_eq_true rfl) hl.1 ⟨Nat.le_of_ble_eq_true rfl, Nat.le_of_ble_eq_true rfl⟩ ⟨Nat.le_refl _, Nat.le_refl _⟩ dX6_run_93 (fun v1617 H locs h1616 HX1618 => ?_)
              have hC_v1617 := h1616.1
              refine lv_iconst (v := nI (0)) hx hb dX6_run_96 (by decide) ?_
              refine lv_istore_n (lv' := [(2, .int (nI (0))), (5, .int (x1605)), (4, .int (nI (mt))), (0, .ref (fa_B G + (0))), (1, .int (ex)), (3, .int (nI (j)))]) hx hb dX6_run_97 rfl hl (by decide) rfl (fun ls hl => ?_)
              refine lv_goto (tgt := 114) hx hb dX6_run_98 (by decide) ?_
              refine lv_iinc (v := nI (j + 1)) (lv' := [(3, .int (nI (j + 1))), (2, .int (nI (0))), (5, .int (x1605)), (4, .int (nI (mt))), (0, .ref (fa_B G + (0))), (1, .int (ex))]) hx hb dX6_run_114 hl (k := 5) rfl (nI_add (j) 1) (by decide) rfl (fun ls hl => ?_)
              refine lv_goto (tgt := 45) hx hb dX6_run_117 (by decide) ?_
              exact ih_45 (j + 1) (ex) (nI (0)) (m_x1601) v1617 r1607 _ _ _ (by omega) (⟨by omega, hC_v1617, ((congrFun (h1616.2 395 (by omega)) 1).trans ((congrFun (h1604.2.1 395 (by omega)) 1).trans ((hs_x1601 1 (by decide) (by decide) (by decide) (by decide)).trans hi_45.2.2.1))), ⟨by omega, (by rw [h1616.2 _ (by omega)]; exact (by rw [h1604.2.1 _ (by omega)]; exact gm_x1601))⟩, (fa_fr.tr (fa_fr.tr (fa_fr.tr (fa_fr.tr fa_fr.rf (fa_fr.wide hi_45.2.2.2.2.1 (by omega) (by omega))) (fa_fr.wide h1600.2 (by omega) (by omega))) (fa_fr.wide h1604.2.1 (by omega) (by omega))) (fa_fr.wide h1616.2 (by omega) (by omega))), (fun k hk => ((h1604.2.2 k hk).trans ((hi_45.2.2.2.2.2 k hk).trans rfl)))⟩) (lv_sub hl [4, 5, 1, 0] rfl) HX1618
    exact LOOP_45 (60 - 0 + 1) (0) (nI (0)) (nI (1)) (0) v1586 r _ _ _ (Nat.lt_succ_self _) (⟨Nat.zero_le _, (show fa_CI v1586 r from by rw [e1587]; exact fa_CI.u395 (show fa_CI v1583 r from by rw [e1584]; exact fa_CI.u0 hC_v1581) (by decide)), ((congrFun (congrFun e1587 395) 1).trans ((fa_u_n _ _ (by decide)).trans ((congrFun (congrFun e1584 395) 1).trans ((fa_u_n _ _ (by decide)).trans ((congrFun (h1580.2 395 (by omega)) 1).trans (hs_x1577 1 (by decide) (by decide) (by decide) (by decide))))))), ⟨by omega, (by rw [e1587, fa_u_s])⟩, (by rw [e1587]; exact fa_fr.u (by rw [e1584]; exact fa_fr.u (fa_fr.tr (fa_fr.tr fa_fr.rf (fa_fr.wide h1576.2 (by omega) (by omega))) (fa_fr.wide h1580.2 (by omega) (by omega))) (by omega)) (by omega)), (fun k hk => rfl)⟩) (lv_sub hl [3, 2, 1, 0] rfl) HX1588
  · refine lv_bipush (v := (-3 : Int32)) hx hb dX6_run_12 (by decide) ?_
    exact RET _ _ _ _ _ _ _ HX1579 dX6_run_14 (⟨(show v1578 395 1 = v 395 1 from (hs_x1577 1 (by decide) (by decide) (by decide) (by decide))), hC_v1578, (fa_fr.tr fa_fr.rf (fa_fr.wide h1576.2 (by omega) (by omega))), (fun k hk => rfl)⟩)
