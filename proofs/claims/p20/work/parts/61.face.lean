set_option maxHeartbeats 4000000 in
set_option maxRecDepth 100000 in
theorem g_append (l : Launch) (G : fa_G) (n : Nat) (hn : 397 ≤ n) (v : fa_V) (r : fa_R) (hC : fa_CI v r) (a1 : Int32) : fa_MI l G n yX6_append cX6_append 2 (some .int) 4 [.ref (fa_B G + (0)), .int (a1)] v r (fa_voi r (fun x v1 => (((¬ (nI 32 ≤ a1 ∧ a1 ≤ nI 126) ∧ x = (-2 : Int32) ∧ v1 = v) ∨ ((nI 32 ≤ a1 ∧ a1 ≤ nI 126) ∧ ((x = (-4 : Int32) ∧ 60 ≤ fa_N (v 395 1) ∧ v1 = v) ∨ (x = nI (fa_N (v 395 1) + 1) ∧ fa_N (v 395 1) < 60 ∧ v1 = fa_put v (((a1).toUInt32 % 65536).toInt32))))) ∧ fa_CI v1 r) ∧ (fa_fr (395) (397) v v1))) := by
  refine fa_startI (by decide +kernel) (Nat.le_of_ble_eq_true rfl) (fun p e s m args below meth c ls Q CX hl HX RET => ?_)
  have hl : lv_has ls 2 [(0, .ref (fa_B G + (0))), (1, .int (a1))] := hl
  have hx := CX.1.1
  have hb := CX.1.2.1
  have hB : (1 : Nat) ∈ fa_bs := by decide
  refine lv_iload_n hx hb dX6_append_0 rfl (lv_at hl 1 rfl) ?_
  refine lv_bipush (v := nI (32)) hx hb dX6_append_1 (by decide) ?_
  refine lv_icmp_lt (tgt := 12) hx hb dX6_append_3 (by decide) (fun c_3 => ?_) (fun c_3 => ?_)
  · refine lv_bipush (v := (-2 : Int32)) hx hb dX6_append_12 (by decide) ?_
    exact RET _ _ _ _ _ _ _ HX dX6_append_14 (⟨rfl, ⟨⟨(Or.inl ⟨fun z => absurd c_3 (Int32.not_lt.mpr z.1), rfl, rfl⟩), hC⟩, fa_fr.rf⟩⟩)
  · refine lv_iload_n hx hb dX6_append_6 rfl (lv_at hl 1 rfl) ?_
    refine lv_bipush (v := nI (126)) hx hb dX6_append_7 (by decide) ?_
    refine lv_icmp_le (tgt := 15) hx hb dX6_append_9 (by decide) (fun c_9 => ?_) (fun c_9 => ?_)
    · refine lv_aload_n hx hb dX6_append_15 rfl (lv_at hl 0 rfl) ?_
      refine fa_getr (k := 0) (j := 395) CX HX fl_X6_29 (by omega) rfl rfl (fa_CI.A hC).2.2.2.1 dX6_append_16 ?_
      refine lv_iload_n hx hb dX6_append_19 rfl (lv_at hl 1 rfl) ?_
      refine lv_i2c hx hb dX6_append_20 rfl ?_
      refine fa_callViu (As := [.int (((a1).toUInt32 % 65536).toInt32)]) (rest := []) CX HX (g_appendSign l G n hn v r (fa_CI.A hC) (fa_CI.T hC) (((a1).toUInt32 % 65536).toInt32)) ln_X6_70 (by omega) rfl rfl rfl rfl (Nat.le_of_ble_eq_true rfl) hl.1 ⟨Nat.le_of_ble_eq_true rfl, Nat.le_of_ble_eq_true rfl⟩ ⟨Nat.le_refl _, Nat.le_refl _⟩ dX6_append_21 (fun x1527 v1528 H locs h1526 HX1529 => ?_)
      have h_ap := h1526.1.2
      have hC_v1528 : fa_CI v1528 r := fa_CI.tx hC h1526.1.1 (fa_fr.wide h1526.2 (by omega) (by omega))
      refine lv_if_eq (tgt := 37) hx hb dX6_append_24 (by decide) (fun c_24 => ?_) (fun c_24 => ?_)
      · refine lv_bipush (v := (-4 : Int32)) hx hb dX6_append_37 (by decide) ?_
        exact RET _ _ _ _ _ _ _ HX1529 dX6_append_39 (⟨rfl, ⟨⟨(Or.inr ⟨⟨Int32.not_lt.mp c_3, c_9⟩, fa_ap_0 h_ap c_24⟩), hC_v1528⟩, (fa_fr.tr fa_fr.rf (fa_fr.wide h1526.2 (by omega) (by omega)))⟩⟩)
      · refine lv_aload_n hx hb dX6_append_27 rfl (lv_at hl 0 rfl) ?_
        refine fa_getr (k := 0) (j := 395) CX HX1529 fl_X6_29 (by omega) rfl rfl (fa_CI.A hC_v1528).2.2.2.1 dX6_append_28 ?_
        refine fa_geti (k := 395) CX HX1529 fl_X6_74 (by omega) rfl rfl dX6_append_31 ?_
        refine lv_goto (tgt := 39) hx hb dX6_append_34 (by decide) ?_
        exact RET _ _ _ _ _ _ _ HX1529 dX6_append_39 (⟨rfl, ⟨⟨(Or.inr ⟨⟨Int32.not_lt.mp c_3, c_9⟩, fa_ap_1 h_ap c_24⟩), hC_v1528⟩, (fa_fr.tr fa_fr.rf (fa_fr.wide h1526.2 (by omega) (by omega)))⟩⟩)
    · refine lv_bipush (v := (-2 : Int32)) hx hb dX6_append_12 (by decide) ?_
      exact RET _ _ _ _ _ _ _ HX dX6_append_14 (⟨rfl, ⟨⟨(Or.inl ⟨fun z => c_9 z.2, rfl, rfl⟩), hC⟩, fa_fr.rf⟩⟩)
set_option maxHeartbeats 4000000 in
set_option maxRecDepth 100000 in
theorem g_clearText (l : Launch) (G : fa_G) (n : Nat) (hn : 397 ≤ n) (v : fa_V) (r : fa_R) (hC : fa_CI v r) : fa_MI l G n yX6_clearText cX6_clearText 2 (some .int) 2 [.ref (fa_B G + (0))] v r (fa_voi r (fun x v1 => ((x = v 395 1 ∧ v1 = fa_u v 395 1 (nI 0)) ∧ fa_CI v1 r) ∧ (fa_fr (395) (396) v v1))) := by
  refine fa_startI (by decide +kernel) (Nat.le_of_ble_eq_true rfl) (fun p e s m args below meth c ls Q CX hl HX RET => ?_)
  have hl : lv_has ls 2 [(0, .ref (fa_B G + (0)))] := hl
  have hx := CX.1.1
  have hb := CX.1.2.1
  have hB : (1 : Nat) ∈ fa_bs := by decide
  obtain ⟨⟨nt, hnt, ht⟩, hch⟩ := fa_CI.T hC
  refine lv_aload_n hx hb dX6_clearText_0 rfl (lv_at hl 0 rfl) ?_
  refine fa_getr (k := 0) (j := 395) CX HX fl_X6_29 (by omega) rfl rfl (fa_CI.A hC).2.2.2.1 dX6_clearText_1 ?_
  refine fa_geti (k := 395) CX HX fl_X6_74 (by omega) rfl rfl dX6_clearText_4 ?_
  rw [show v 395 1 = nI (nt) from ht]
  refine lv_istore_n (lv' := [(1, .int (nI (nt))), (0, .ref (fa_B G + (0)))]) hx hb dX6_clearText_7 rfl hl (by decide) rfl (fun ls hl => ?_)
  refine lv_aload_n hx hb dX6_clearText_8 rfl (lv_at hl 1 rfl) ?_
  refine fa_getr (k := 0) (j := 395) CX HX fl_X6_29 (by omega) rfl rfl (fa_CI.A hC).2.2.2.1 dX6_clearText_9 ?_
  refine lv_iconst (v := nI (0)) hx hb dX6_clearText_12 (by decide) ?_
  refine fa_puti (k := 395) CX HX fl_X6_74 (by omega) rfl rfl rfl rfl dX6_clearText_13 (fun H locs v1530 e1531 HX1532 => ?_)
  refine lv_iload_n hx hb dX6_clearText_16 rfl (lv_at hl 0 rfl) ?_
  exact RET _ _ _ _ _ _ _ HX1532 dX6_clearText_17 (⟨rfl, ⟨⟨⟨ht.symm, (by show v1530 = _; rw [e1531])⟩, (show fa_CI v1530 r from by rw [e1531]; exact fa_CI.len hC (by omega))⟩, (by rw [e1531]; exact fa_fr.u fa_fr.rf (by omega))⟩⟩)
set_option maxHeartbeats 4000000 in
set_option maxRecDepth 100000 in
theorem g_fault (l : Launch) (G : fa_G) (n : Nat) (hn : 397 ≤ n) (v : fa_V) (r : fa_R) (hC : fa_CI v r) : fa_MI l G n yX6_fault cX6_fault 1 (some .int) 7 [.ref (fa_B G + (0))] v r (fa_voi r (fun x v1 => (((v1 395 1 = v 395 1) ∧ ∃ j, j ≤ 20 ∧ fa_FR (fa_sg (v 396) (fa_N (v 395 1))) (fa_N (v 395 1)) j x) ∧ fa_CI v1 r) ∧ (fa_fr (395) (396) v v1))) := by
  refine fa_startI (by decide +kernel) (Nat.le_of_ble_eq_true rfl) (fun p e s m args below meth c ls Q CX hl HX RET => ?_)
  have hl : lv_has ls 1 [(0, .ref (fa_B G + (0)))] := hl
  have hx := CX.1.1
  have hb := CX.1.2.1
  have hB : (1 : Nat) ∈ fa_bs := by decide
  obtain ⟨⟨nt, hnt, ht⟩, hch⟩ := fa_CI.T hC
  have hX : fa_TX v nt (v 396) := ⟨hnt, ht, rfl⟩
  have ent : fa_N (v 395 1) = nt := by rw [ht]; exact fa_N_nI (by omega)
  refine lv_aload_n hx hb dX6_fault_0 rfl (lv_at hl 0 rfl) ?_
  refine fa_getr (k := 0) (j := 395) CX HX fl_X6_29 (by omega) rfl rfl (fa_CI.A hC).2.2.2.1 dX6_fault_1 ?_
  refine fa_callViu (As := []) (rest := []) CX HX (g_findFault l G n hn v r (fa_CI.A hC) (fa_CI.T hC) nt (v 396) hX) ln_X6_78 (by omega) rfl rfl rfl rfl (Nat.le_of_ble_eq_true rfl) hl.1 ⟨Nat.le_of_ble_eq_true rfl, Nat.le_of_ble_eq_true rfl⟩ ⟨Nat.le_refl _, Nat.le_refl _⟩ dX6_fault_4 (fun x1534 v1535 H locs h1533 HX1536 => ?_)
  obtain ⟨hx_x1534, hs_x1534⟩ := h1533.1
  have hC_v1535 : fa_CI v1535 r := fa_CI.tx hC (fa_IT.rows (fa_CI.T hC) (hs_x1534 1 (by decide) (by decide) (by decide) (by decide)) (h1533.2 396 (by decide))) (fa_fr.wide h1533.2 (by omega) (by omega))
  exact RET _ _ _ _ _ _ _ HX1536 dX6_fault_7 (⟨rfl, ⟨⟨⟨(show v1535 395 1 = v 395 1 from (hs_x1534 1 (by decide) (by decide) (by decide) (by decide))), (by rw [ent]; exact hx_x1534)⟩, hC_v1535⟩, (fa_fr.tr fa_fr.rf (fa_fr.wide h1533.2 (by omega) (by omega)))⟩⟩)
set_option maxHeartbeats 4000000 in
set_option maxRecDepth 100000 in
theorem g_report (l : Launch) (G : fa_G) (n : Nat) (hn : 397 ≤ n) (v : fa_V) (r : fa_R) (hC : fa_CI v r) (a1 : Int32) (a2 : Int32) (a3 : Int32) : fa_MV l G n yX6_report cX6_report 4 1 [.ref (fa_B G + (0)), .int (a1), .int (a2), .int (a3)] v r (fa_vo r (fun v1 => ((v1 0 4 = a1 ∧ v1 0 5 = a2 ∧ v1 0 6 = a3) ∧ fa_CI v1 r) ∧ (fa_fr (0) (1) v v1))) := by
  refine fa_startV (by decide +kernel) (Nat.le_of_ble_eq_true rfl) (fun p e s m args below meth c ls Q CX hl HX RET => ?_)
  have hl : lv_has ls 4 [(0, .ref (fa_B G + (0))), (1, .int (a1)), (2, .int (a2)), (3, .int (a3))] := hl
  have hx := CX.1.1
  have hb := CX.1.2.1
  have hB : (1 : Nat) ∈ fa_bs := by decide
  refine lv_aload_n hx hb dX6_report_0 rfl (lv_at hl 0 rfl) ?_
  refine lv_iload_n hx hb dX6_report_1 rfl (lv_at hl 1 rfl) ?_
  refine fa_puti (k := 0) CX HX fl_X6_109 (by omega) rfl rfl rfl rfl dX6_report_2 (fun H locs v1537 e1538 HX1539 => ?_)
  refine lv_aload_n hx hb dX6_report_5 rfl (lv_at hl 0 rfl) ?_
  refine lv_iload_n hx hb dX6_report_6 rfl (lv_at hl 2 rfl) ?_
  refine fa_puti (k := 0) CX HX1539 fl_X6_112 (by omega) rfl rfl rfl rfl dX6_report_7 (fun H locs v1540 e1541 HX1542 => ?_)
  refine lv_aload_n hx hb dX6_report_10 rfl (lv_at hl 0 rfl) ?_
  refine lv_iload_n hx hb dX6_report_11 rfl (lv_at hl 3 rfl) ?_
  refine fa_puti (k := 0) CX HX1542 fl_X6_82 (by omega) rfl rfl rfl rfl dX6_report_12 (fun H locs v1543 e1544 HX1545 => ?_)
  exact RET _ _ _ _ _ _ HX1545 dX6_report_15 (⟨rfl, ⟨⟨⟨(by show v1543 0 4 = a1; rw [e1544, fa_u_n _ _ (by omega), e1541, fa_u_n _ _ (by omega), e1538, fa_u_s]), (by show v1543 0 5 = a2; rw [e1544, fa_u_n _ _ (by omega), e1541, fa_u_s]), (by show v1543 0 6 = a3; rw [e1544, fa_u_s])⟩, (show fa_CI v1543 r from by rw [e1544]; exact fa_CI.u0 (show fa_CI v1540 r from by rw [e1541]; exact fa_CI.u0 (show fa_CI v1537 r from by rw [e1538]; exact fa_CI.u0 hC)))⟩, (by rw [e1544]; exact fa_fr.u (by rw [e1541]; exact fa_fr.u (by rw [e1538]; exact fa_fr.u fa_fr.rf (by omega)) (by omega)) (by omega))⟩⟩)
set_option maxHeartbeats 4000000 in
set_option maxRecDepth 100000 in
theorem g_obey (l : Launch) (G : fa_G) (n : Nat) (hn : 397 ≤ n) (v : fa_V) (r : fa_R) (hC : fa_CI v r) : fa_MI l G n yX6_obey cX6_obey 1 (some .int) 7 [.ref (fa_B G + (0))] v r (fun x w => ((∀ k, ¬ k = 2 → w.2 k = r k) ∧ ∀ A, fb_okA A → fb_cA v r 1 A → x = (fb_doA A (v 395 3) (v 395 4) (v 395 5)).1 ∧ fb_cA w.1 w.2 1 (fb_doA A (v 395 3) (v 395 4) (v 395 5)).2) ∧ (fa_CI w.1 w.2) ∧ (fa_fr 1 57 v w.1) ∧ (∀ k, 395 ≤ k → w.2 k = r k)) := by
  refine fa_startI (by decide +kernel) (Nat.le_of_ble_eq_true rfl) (fun p e s m args below meth c ls Q CX hl HX RET => ?_)
  have hl : lv_has ls 1 [(0, .ref (fa_B G + (0)))] := hl
  have hx := CX.1.1
  have hb := CX.1.2.1
  have hB : (1 : Nat) ∈ fa_bs := by decide
  refine lv_aload_n hx hb dX6_obey_0 rfl (lv_at hl 0 rfl) ?_
  refine fa_getr (k := 0) (j := 395) CX HX fl_X6_29 (by omega) rfl rfl (fa_CI.A hC).2.2.2.1 dX6_obey_1 ?_
  refine fa_geti (k := 395) CX HX fl_X6_249 (by omega) rfl rfl dX6_obey_4 ?_
  by_cases c_7_97 : v 395 3 = (97 : Int32)
  · refine lv_lookup (off := 71) (tgt := 78) hx hb dX6_obey_7 (by decide) (by rw [c_7_97]; decide) (by decide) ?_
    refine lv_aload_n hx hb dX6_obey_78 rfl (lv_at hl 0 rfl) ?_
    refine fa_getr (k := 0) (j := 1) CX HX fl_X6_10 (by omega) rfl rfl (fa_CI.A hC).1 dX6_obey_79 ?_
    refine lv_aload_n hx hb dX6_obey_82 rfl (lv_at hl 0 rfl) ?_
    refine fa_getr (k := 0) (j := 395) CX HX fl_X6_29 (by omega) rfl rfl (fa_CI.A hC).2.2.2.1 dX6_obey_83 ?_
    refine fa_geti (k := 395) CX HX fl_X6_253 (by omega) rfl rfl dX6_obey_86 ?_
    refine fa_callViu (As := [.int (v 395 4)]) (rest := []) CX HX (g_askFor l G n hn v r 1 (by decide) (fa_CI.S hC 1 (by decide)).1 (fa_CI.S hC 1 (by decide)).2 (v 395 4) ) ln_X6_45 (fa_lt (by decide) 0 (by decide) hn) (fa_s0 (by decide)) rfl rfl rfl (Nat.le_of_ble_eq_true rfl) hl.1 ⟨Nat.le_of_ble_eq_true rfl, Nat.le_of_ble_eq_true rfl⟩ ⟨Nat.le_refl _, Nat.le_refl _⟩ dX6_obey_89 (fun x1547 v1548 H locs h1546 HX1549 => ?_)
    have h_askFor := h1546.1
    have hIS_v1548 : fa_IS v1548 1 := h1546.1.2
    have hC_v1548 : fa_CI v1548 r := fa_CI.st hC (by decide) hIS_v1548 (fa_CI.S hC 1 (by decide)).1 (fa_fr.wide h1546.2 (by omega) (by omega)) (fun _ _ => rfl)
    exact RET _ _ _ _ _ _ _ HX1549 dX6_obey_92 (⟨⟨(fun _ _ => rfl), fun A hok hc => by (rw [fb_doA_a c_7_97]; exact h_askFor.1 A hok hc)⟩, hC_v1548, (fa_fr.tr fa_fr.rf (fa_fr.wide h1546.2 (by omega) (by omega))), (fun k hk => rfl)⟩)
  by_cases c_7_102 : v 395 3 = (102 : Int32)
  · refine lv_lookup (off := 131) (tgt := 138) hx hb dX6_obey_7 (by decide) (by rw [c_7_102]; decide) (by decide) ?_
    refine lv_aload_n hx hb dX6_obey_138 rfl (lv_at hl 0 rfl) ?_
    refine fa_getr (k := 0) (j := 1) CX HX fl_X6_10 (by omega) rfl rfl (fa_CI.A hC).1 dX6_obey_139 ?_
    refine lv_aload_n hx hb dX6_obey_142 rfl (lv_at hl 0 rfl) ?_
    refine fa_getr (k := 0) (j := 395) CX HX fl_X6_29 (by omega) rfl rfl (fa_CI.A hC).2.2.2.1 dX6_obey_143 ?_
    refine fa_geti (k := 395) CX HX fl_X6_253 (by omega) rfl rfl dX6_obey_146 ?_
    refine lv_aload_n hx hb dX6_obey_149 rfl (lv_at hl 0 rfl) ?_
    refine fa_getr (k := 0) (j := 395) CX HX fl_X6_29 (by omega) rfl rfl (fa_CI.A hC).2.2.2.1 dX6_obey_150 ?_
    refine fa_geti (k := 395) CX HX fl_X6_256 (by omega) rfl rfl dX6_obey_153 ?_
    refine fa_callViu (As := [.int (v 395 4), .int (v 395 5)]) (rest := []) CX HX (g_putReference l G n hn v r 1 (by decide) (fa_CI.S hC 1 (by decide)).1 (fa_CI.S hC 1 (by decide)).2 (v 395 4) (v 395 5) ) ln_X6_55 (fa_lt (by decide) 0 (by decide) hn) (fa_s0 (by decide)) rfl rfl rfl (Nat.le_of_ble_eq_true rfl) hl.1 ⟨Nat.le_of_ble_eq_true rfl, Nat.le_of_ble_eq_true rfl⟩ ⟨Nat.le_refl _, Nat.le_refl _⟩ dX6_obey_156 (fun x1551 v1552 H locs h1550 HX1553 => ?_)
    have h_putReference := h1550.1
    have hIS_v1552 : fa_IS v1552 1 := h1550.1.2
    have hC_v1552 : fa_CI v1552 r := fa_CI.st hC (by decide) hIS_v1552 (fa_CI.S hC 1 (by decide)).1 (fa_fr.wide h1550.2 (by omega) (by omega)) (fun _ _ => rfl)
    exact RET _ _ _ _ _ _ _ HX1553 dX6_obey_159 (⟨⟨(fun _ _ => rfl), fun A hok hc => by (rw [fb_doA_f c_7_102]; exact h_putReference.1 A hok hc)⟩, hC_v1552, (fa_fr.tr fa_fr.rf (fa_fr.wide h1550.2 (by omega) (by omega))), (fun k hk => rfl)⟩)
  by_cases c_7_108 : v 395 3 = (108 : Int32)
  · refine lv_lookup (off := 109) (tgt := 116) hx hb dX6_obey_7 (by decide) (by rw [c_7_108]; decide) (by decide) ?_
    refine lv_aload_n hx hb dX6_obey_116 rfl (lv_at hl 0 rfl) ?_
    refine fa_getr (k := 0) (j := 1) CX HX fl_X6_10 (by omega) rfl rfl (fa_CI.A hC).1 dX6_obey_117 ?_
    refine lv_aload_n hx hb dX6_obey_120 rfl (lv_at hl 0 rfl) ?_
    refine fa_getr (k := 0) (j := 395) CX HX fl_X6_29 (by omega) rfl rfl (fa_CI.A hC).2.2.2.1 dX6_obey_121 ?_
    refine fa_geti (k := 395) CX HX fl_X6_253 (by omega) rfl rfl dX6_obey_124 ?_
    refine lv_aload_n hx hb dX6_obey_127 rfl (lv_at hl 0 rfl) ?_
    refine fa_getr (k := 0) (j := 395) CX HX fl_X6_29 (by omega) rfl rfl (fa_CI.A hC).2.2.2.1 dX6_obey_128 ?_
    refine fa_geti (k := 395) CX HX fl_X6_256 (by omega) rfl rfl dX6_obey_131 ?_
    refine fa_callViu (As := [.int (v 395 4), .int (v 395 5)]) (rest := []) CX HX (g_takeSeal l G n hn v r 1 (by decide) (fa_CI.S hC 1 (by decide)).1 (fa_CI.S hC 1 (by decide)).2 (v 395 4) (v 395 5) ) ln_X6_52 (fa_lt (by decide) 0 (by decide) hn) (fa_s0 (by decide)) rfl rfl rfl (Nat.le_of_ble_eq_true rfl) hl.1 ⟨Nat.le_of_ble_eq_true rfl, Nat.le_of_ble_eq_true rfl⟩ ⟨Nat.le_refl _, Nat.le_refl _⟩ dX6_obey_134 (fun x1555 v1556 H locs h1554 HX1557 => ?_)
    have h_takeSeal := h1554.1
    have hIS_v1556 : fa_IS v1556 1 := h1554.1.2
    have hC_v1556 : fa_CI v1556 r := fa_CI.st hC (by decide) hIS_v1556 (fa_CI.S hC 1 (by decide)).1 (fa_fr.wide h1554.2 (by omega) (by omega)) (fun _ _ => rfl)
    exact RET _ _ _ _ _ _ _ HX1557 dX6_obey_137 (⟨⟨(fun _ _ => rfl), fun A hok hc => by (rw [fb_doA_l c_7_108]; exact h_takeSeal.1 A hok hc)⟩, hC_v1556, (fa_fr.tr fa_fr.rf (fa_fr.wide h1554.2 (by omega) (by omega))), (fun k hk => rfl)⟩)
  by_cases c_7_110 : v 395 3 = (110 : Int32)
  · refine lv_lookup (off := 49) (tgt := 56) hx hb dX6_obey_7 (by decide) (by rw [c_7_110]; decide) (by decide) ?_
    refine lv_aload_n hx hb dX6_obey_56 rfl (lv_at hl 0 rfl) ?_
    refine fa_getr (k := 0) (j := 1) CX HX fl_X6_10 (by omega) rfl rfl (fa_CI.A hC).1 dX6_obey_57 ?_
    refine lv_aload_n hx hb dX6_obey_60 rfl (lv_at hl 0 rfl) ?_
    refine fa_getr (k := 0) (j := 395) CX HX fl_X6_29 (by omega) rfl rfl (fa_CI.A hC).2.2.2.1 dX6_obey_61 ?_
    refine fa_geti (k := 395) CX HX fl_X6_253 (by omega) rfl rfl dX6_obey_64 ?_
    refine lv_aload_n hx hb dX6_obey_67 rfl (lv_at hl 0 rfl) ?_
    refine fa_getr (k := 0) (j := 395) CX HX fl_X6_29 (by omega) rfl rfl (fa_CI.A hC).2.2.2.1 dX6_obey_68 ?_
    refine fa_geti (k := 395) CX HX fl_X6_256 (by omega) rfl rfl dX6_obey_71 ?_
    refine fa_callViu (As := [.int (v 395 4), .int (v 395 5)]) (rest := []) CX HX (g_addFile l G n hn v r 1 (by decide) (fa_CI.S hC 1 (by decide)).1 (fa_CI.S hC 1 (by decide)).2 (v 395 4) (v 395 5) ) ln_X6_37 (fa_lt (by decide) 0 (by decide) hn) (fa_s0 (by decide)) rfl rfl rfl (Nat.le_of_ble_eq_true rfl) hl.1 ⟨Nat.le_of_ble_eq_true rfl, Nat.le_of_ble_eq_true rfl⟩ ⟨Nat.le_refl _, Nat.le_refl _⟩ dX6_obey_74 (fun x1559 v1560 H locs h1558 HX1561 => ?_)
    have h_addFile := h1558.1
    have hIS_v1560 : fa_IS v1560 1 := h1558.1.2
    have hC_v1560 : fa_CI v1560 r := fa_CI.st hC (by decide) hIS_v1560 (fa_CI.S hC 1 (by decide)).1 (fa_fr.wide h1558.2 (by omega) (by omega)) (fun _ _ => rfl)
    exact RET _ _ _ _ _ _ _ HX1561 dX6_obey_77 (⟨⟨(fun _ _ => rfl), fun A hok hc => by (rw [fb_doA_n c_7_110]; exact h_addFile.1 A hok hc)⟩, hC_v1560, (fa_fr.tr fa_fr.rf (fa_fr.wide h1558.2 (by omega) (by omega))), (fun k hk => rfl)⟩)
  by_cases c_7_115 : v 395 3 = (115 : Int32)
  · refine lv_lookup (off := 86) (tgt := 93) hx hb dX6_obey_7 (by decide) (by rw [c_7_115]; decide) (by decide) ?_
    refine lv_aload_n hx hb dX6_obey_93 rfl (lv_at hl 0 rfl) ?_
    refine fa_getr (k := 0) (j := 1) CX HX fl_X6_10 (by omega) rfl rfl (fa_CI.A hC).1 dX6_obey_94 ?_
    refine lv_aload_n hx hb dX6_obey_97 rfl (lv_at hl 0 rfl) ?_
    refine fa_getr (k := 0) (j := 395) CX HX fl_X6_29 (by omega) rfl rfl (fa_CI.A hC).2.2.2.1 dX6_obey_98 ?_
    refine fa_geti (k := 395) CX HX fl_X6_253 (by omega) rfl rfl dX6_obey_101 ?_
    refine lv_aload_n hx hb dX6_obey_104 rfl (lv_at hl 0 rfl) ?_
    refine fa_getr (k := 0) (j := 395) CX HX fl_X6_29 (by omega) rfl rfl (fa_CI.A hC).2.2.2.1 dX6_obey_105 ?_
    refine fa_geti (k := 395) CX HX fl_X6_256 (by omega) rfl rfl dX6_obey_108 ?_
    refine lv_iconst (v := (-1 : Int32)) hx hb dX6_obey_111 (by decide) ?_
    refine fa_callViu (As := [.int (v 395 4), .int (v 395 5), .int ((-1 : Int32))]) (rest := []) CX HX (g_putSeal l G n hn v r 1 (by decide) (fa_CI.S hC 1 (by decide)).1 (fa_CI.S hC 1 (by decide)).2 (v 395 4) (v 395 5) ((-1 : Int32)) ) ln_X6_48 (fa_lt (by decide) 0 (by decide) hn) (fa_s0 (by decide)) rfl rfl rfl (Nat.le_of_ble_eq_true rfl) hl.1 ⟨Nat.le_of_ble_eq_true rfl, Nat.le_of_ble_eq_true rfl⟩ ⟨Nat.le_refl _, Nat.le_refl _⟩ dX6_obey_112 (fun x1563 v1564 H locs h1562 HX1565 => ?_)
    have h_putSeal := h1562.1
    have hIS_v1564 : fa_IS v1564 1 := h1562.1.2
    have hC_v1564 : fa_CI v1564 r := fa_CI.st hC (by decide) hIS_v1564 (fa_CI.S hC 1 (by decide)).1 (fa_fr.wide h1562.2 (by omega) (by omega)) (fun _ _ => rfl)
    exact RET _ _ _ _ _ _ _ HX1565 dX6_obey_115 (⟨⟨(fun _ _ => rfl), fun A hok hc => by (rw [fb_doA_s c_7_115]; exact h_putSeal.1 A hok hc)⟩, hC_v1564, (fa_fr.tr fa_fr.rf (fa_fr.wide h1562.2 (by omega) (by omega))), (fun k hk => rfl)⟩)
  refine lv_lookup (off := 153) (tgt := 160) hx hb dX6_obey_7 (by decide) (by show Op.lookupswitch.offset [(97, 71), (102, 131), (108, 109), (110, 49), (115, 86)] 153 _ = _; rw [lv_osw (k := 97) c_7_97 (by decide), lv_osw (k := 102) c_7_102 (by decide), lv_osw (k := 108) c_7_108 (by decide), lv_osw (k := 110) c_7_110 (by decide), lv_osw (k := 115) c_7_115 (by decide)]; rfl) (by decide) ?_
  refine lv_aload_n hx hb dX6_obey_160 rfl (lv_at hl 0 rfl) ?_
  refine fa_getr (k := 0) (j := 1) CX HX fl_X6_10 (by omega) rfl rfl (fa_CI.A hC).1 dX6_obey_161 ?_
  refine lv_aload_n hx hb dX6_obey_164 rfl (lv_at hl 0 rfl) ?_
  refine fa_getr (k := 0) (j := 395) CX HX fl_X6_29 (by omega) rfl rfl (fa_CI.A hC).2.2.2.1 dX6_obey_165 ?_
  refine fa_geti (k := 395) CX HX fl_X6_253 (by omega) rfl rfl dX6_obey_168 ?_
  refine fa_callVi (As := [.int (v 395 4)]) (rest := []) CX HX (g_passDays l G n hn v r 1 (by decide) (fa_CI.S hC 1 (by decide)).1 (fa_CI.S hC 1 (by decide)).2 (v 395 4) ) ln_X6_64 (fa_lt (by decide) 0 (by decide) hn) (fa_s0 (by decide)) rfl rfl rfl (Nat.le_of_ble_eq_true rfl) hl.1 ⟨Nat.le_of_ble_eq_true rfl, Nat.le_of_ble_eq_true rfl⟩ ⟨Nat.le_refl _, Nat.le_refl _⟩ dX6_obey_171 (fun x1567 v1568 r1569 H locs h1566 HX1570 => ?_)
  dsimp only at h1566
  have hIS_v1568 := h1566.2.1
  have hr1_r1569 := h1566.2.2.1
  have hrr_r1569 := h1566.2.2.2.2
  have h_passDays := h1566.1
  have hC_v1568 : fa_CI v1568 r1569 := fa_CI.st hC (by decide) hIS_v1568 hr1_r1569 (fa_fr.wide h1566.2.2.2.1 (by omega) (by omega)) h1566.2.2.2.2
  exact RET _ _ _ _ _ _ _ HX1570 dX6_obey_174 (⟨⟨(fun k hk => h1566.2.2.2.2 k (by omega)), fun A hok hc => by (rw [fb_doA_o c_7_110 c_7_97 c_7_115 c_7_108 c_7_102]; exact h_passDays A hok hc)⟩, hC_v1568, (fa_fr.tr fa_fr.rf (fa_fr.wide h1566.2.2.2.1 (by omega) (by omega))), (fun k hk => ((h1566.2.2.2.2 k (by omega)).trans rfl))⟩)
set_option maxHeartbeats 4000000 in
set_option maxRecDepth 100000 in
theorem g_run (l : Launch) (G : fa_G) (n : Nat) (hn : 397 ≤ n) (v : fa_V) (r : fa_R) (hC : fa_CI v r) : fa_MI l G n yX6_run cX6_run 6 (some .int) 8 [.ref (fa_B G + (0))] v r (fun x w => ((w.1 395 1 = v 395 1) ∧ ∀ A H, fb_CV v r A H → (∃ j y, j ≤ 20 ∧ fa_FR (fa_sg (v 396) (fa_N (v 395 1))) (fa_N (v 395 1)) j y ∧ ¬ y = (-6 : Int32) ∧ x = (-3 : Int32) ∧ fb_CV w.1 w.2 A H ∧ w.1 0 = v 0) ∨ (∃ j e, j ≤ 20 ∧ fa_FR (fa_sg (v 396) (fa_N (v 395 1))) (fa_N (v 395 1)) j (-6 : Int32) ∧ fb_runP A (fa_sg (v 396) (fa_N (v 395 1))) (j + 1) e ∧ x = nI e ∧ fb_CV w.1 w.2 (fb_fin A (fa_sg (v 396) (fa_N (v 395 1))) (j + 1) e) (fb_push H A) ∧ fb_rpt A (fa_sg (v 396) (fa_N (v 395 1))) (j + 1) e (w.1 0 6) (w.1 0 4) (w.1 0 5))) ∧ (fa_CI w.1 w.2) ∧ (fa_fr 0 396 v w.1) ∧ (∀ k, 395 ≤ k → w.2 k = r k)) := by
  refine fa_startI (by decide +kernel) (Nat.le_of_ble_eq_true rfl) (fun p e s m args below meth c ls Q CX hl HX RET => ?_)
  have hl : lv_has ls 6 [(0, .ref (fa_B G + (0)))] := hl
  have hx := CX.1.1
  have hb := CX.1.2.1
  have hB : (1 : Nat) ∈ fa_bs := by decide
  obtain ⟨⟨nt, hnt, ht⟩, hch⟩ := fa_CI.T hC
  have hX : fa_TX v nt (v 396) := ⟨hnt, ht, rfl⟩
  have ent : fa_N (v 395 1) = nt := by rw [ht]; exact fa_N_nI (by omega)
  rw [ent] at RET
  refine lv_aload_n hx hb dX6_run_0 rfl (lv_at hl 0 rfl) ?_
  refine fa_getr (k := 0) (j := 395) CX HX fl_X6_29 (by omega) rfl rfl (fa_CI.A hC).2.2.2.1 dX6_run_1 ?_
  refine fa_callViu (As := []) (rest := []) CX HX (g_findFault l G n hn v r (fa_CI.A hC) (fa_CI.T hC) nt (v 396) hX) ln_X6_78 (by omega) rfl rfl rfl rfl (Nat.le_of_ble_eq_true rfl) hl.1 ⟨Nat.le_of_ble_eq_true rfl, Nat.le_of_ble_eq_true rfl⟩ ⟨Nat.le_refl _, Nat.le_refl _⟩ dX6_run_4 (fun x1572 v1573 H locs h1571 HX1574 => ?_)
  obtain ⟨hx_x1572, hs_x1572⟩ := h1571.1
  have hC_v1573 : fa_CI v1573 r := fa_CI.tx hC (fa_IT.rows (fa_CI.T hC) (hs_x1572 1 (by decide) (by decide) (by decide) (by decide)) (h1571.2 396 (by decide))) (fa_fr.wide h1571.2 (by omega) (by omega))
  refine lv_bipush (v := (-6 : Int32)) hx hb dX6_run_7 (by decide) ?_
  refine lv_icmp_eq (tgt := 15) hx hb dX6_run_9 (by decide) (fun c_9 => ?_) (fun c_9 => ?_)
  · refine lv_aload_n hx hb dX6_run_15 rfl (lv_at hl 0 rfl) ?_
    refine fa_getr (k := 0) (j := 113) CX HX1574 fl_X6_22 (by omega) rfl rfl (fa_CI.A hC_v1573).2.2.1 dX6_run_16 ?_
    refine lv_aload_n hx hb dX6_run_19 rfl (lv_at hl 0 rfl) ?_
    refine fa_getr (k := 0) (j := 1) CX HX1574 fl_X6_10 (by omega) rfl rfl (fa_CI.A hC_v1573).1 dX6_run_20 ?_
    refine fa_callVvu (As := [.ref (fa_B G + (1))]) (rest := []) CX HX1574 (g_draft l G n hn v1573 r hC_v1573 ) ln_X6_33 (by omega) rfl rfl rfl rfl (Nat.le_of_ble_eq_true rfl) hl.1 ⟨Nat.le_of_ble_eq_true rfl, Nat.le_of_ble_eq_true rfl⟩ ⟨Nat.le_refl _, Nat.le_refl _⟩ dX6_run_23 (fun v1576 H locs h1575 HX1577 => ?_)
    have hC_v1576 := h1575.1.2
    have h_draft := h1575.1.1
    refine lv_aload_n hx hb dX6_run_26 rfl (lv_at hl 0 rfl) ?_
    refine lv_iconst (v := nI (0)) hx hb dX6_run_27 (by decide) ?_
    refine fa_puti (k := 0) CX HX1577 fl_X6_82 (by omega) rfl rfl rfl rfl dX6_run_28 (fun H locs v1578 e1579 HX1580 => ?_)
    refine lv_aload_n hx hb dX6_run_31 rfl (lv_at hl 0 rfl) ?_
    refine fa_getr (k := 0) (j := 395) CX HX1580 fl_X6_29 (by omega) rfl rfl (fa_CI.A (show fa_CI v1578 r from by rw [e1579]; exact fa_CI.u0 hC_v1576)).2.2.2.1 dX6_run_32 ?_
    refine lv_iconst (v := nI (0)) hx hb dX6_run_35 (by decide) ?_
    refine fa_puti (k := 395) CX HX1580 fl_X6_85 (by omega) rfl rfl rfl rfl dX6_run_36 (fun H locs v1581 e1582 HX1583 => ?_)
    refine lv_iconst (v := nI (0)) hx hb dX6_run_39 (by decide) ?_
    refine lv_istore_n (lv' := [(1, .int (nI (0))), (0, .ref (fa_B G + (0)))]) hx hb dX6_run_40 rfl hl (by decide) rfl (fun ls hl => ?_)
    refine lv_iconst (v := nI (1)) hx hb dX6_run_41 (by decide) ?_
    refine lv_istore_n (lv' := [(2, .int (nI (1))), (1, .int (nI (0))), (0, .ref (fa_B G + (0)))]) hx hb dX6_run_42 rfl hl (by decide) rfl (fun ls hl => ?_)
    refine lv_iconst (v := nI (0)) hx hb dX6_run_43 (by decide) ?_
    refine lv_istore_n (lv' := [(3, .int (nI (0))), (2, .int (nI (1))), (1, .int (nI (0))), (0, .ref (fa_B G + (0)))]) hx hb dX6_run_44 rfl hl (by decide) rfl (fun ls hl => ?_)
    have LOOP_45 : ∀ (fu : Nat) (j : Nat) (ex : Int32) (mo : Int32) (mt : Nat) (v1584 : fa_V) (r1585 : fa_R) (H : Heap) (locs : List Loc) (ls : Array Slot), 60 - j < fu → (j ≤ 60 ∧ fa_CI v1584 r1585 ∧ v1584 395 1 = v 395 1 ∧ (mt ≤ nt ∧ v1584 395 2 = nI mt) ∧ fa_fr 0 396 v v1584 ∧ (∀ k, 395 ≤ k → r1585 k = r k) ∧ (∀ A H o, fb_CV v r A H → fb_txo (fa_sg (v 396) nt) nt o → fb_rnI A H (fa_sg (v 396) nt) o v1584 r1585 j mt ex mo)) → lv_has ls 6 [(0, .ref (fa_B G + (0))), (1, .int (ex)), (2, .int (mo)), (3, .int (nI (j)))] → fa_HX G (n) v1584 r1585 s H locs → W p l e (fa_rm 8) s m args below meth c H locs (0) (0) Q (F0 m 45 ls []) := by
      intro fu
      induction fu with
      | zero => intro j ex mo mt v1584 r1585 H locs ls hk; exact absurd hk (Nat.not_lt_zero _)
      | succ fu ih_45 =>
        intro j ex mo mt v1584 r1585 H locs ls hk_45 hi_45 hl HX1586
        refine lv_iload_n hx hb dX6_run_45 rfl (lv_at hl 2 rfl) ?_
        refine lv_if_eq (tgt := 120) hx hb dX6_run_46 (by decide) (fun c_46 => ?_) (fun c_46 => ?_)
        · refine lv_aload_n hx hb dX6_run_120 rfl (lv_at hl 0 rfl) ?_
          refine fa_getr (k := 0) (j := 113) CX HX1586 fl_X6_22 (by omega) rfl rfl (fa_CI.A hi_45.2.1).2.2.1 dX6_run_121 ?_
          refine fa_callVv (As := []) (rest := []) CX HX1586 (g_keepDraft l G n hn v1584 r1585 hi_45.2.1 ) ln_X6_106 (by omega) rfl rfl rfl rfl (Nat.le_of_ble_eq_true rfl) hl.1 ⟨Nat.le_of_ble_eq_true rfl, Nat.le_of_ble_eq_true rfl⟩ ⟨Nat.le_refl _, Nat.le_refl _⟩ dX6_run_124 (fun v1588 r1589 H locs h1587 HX1590 => ?_)
          dsimp only at h1587
          have hC_v1588 := h1587.2.1
          have h_keepDraft := h1587.1
          refine lv_iload_n hx hb dX6_run_127 rfl (lv_at hl 1 rfl) ?_
          exact RET _ _ _ _ _ _ _ HX1590 dX6_run_128 (⟨⟨(show v1588 395 1 = v 395 1 from ((congrFun (h1587.2.2.1 395 (by omega)) 1).trans hi_45.2.2.1)), fun A H hV => by (obtain ⟨j0, hj0, hF⟩ := hx_x1572; have hO := fb_txo_of (by omega) hF c_9; obtain ⟨e, q1, q2, q3, q4⟩ := fb_rnI.e hnt hV.1 hO (hi_45.2.2.2.2.2.2 A H _ hV hO) (Or.inl (by first | exact c_46 | exact Decidable.not_not.mp c_46)) h_keepDraft; rw [c_9] at hF; exact Or.inr ⟨j0, e, hj0, hF, q1, q2, q3, q4⟩)⟩, hC_v1588, (fa_fr.tr (fa_fr.tr fa_fr.rf (fa_fr.wide hi_45.2.2.2.2.1 (by omega) (by omega))) (fa_fr.wide h1587.2.2.1 (by omega) (by omega))), (fun k hk => ((h1587.2.2.2 k hk).trans ((hi_45.2.2.2.2.2.1 k hk).trans rfl)))⟩)
        · refine lv_iload_n hx hb dX6_run_49 rfl (lv_at hl 3 rfl) ?_
          refine lv_bipush (v := nI (60)) hx hb dX6_run_50 (by decide) ?_
          refine lv_icmp_ge (tgt := 120) hx hb dX6_run_52 (by decide) (fun c_52 => ?_) (fun c_52 => ?_)
          · refine lv_aload_n hx hb dX6_run_120 rfl (lv_at hl 0 rfl) ?_
            refine fa_getr (k := 0) (j := 113) CX HX1586 fl_X6_22 (by omega) rfl rfl (fa_CI.A hi_45.2.1).2.2.1 dX6_run_121 ?_
            refine fa_callVv (As := []) (rest := []) CX HX1586 (g_keepDraft l G n hn v1584 r1585 hi_45.2.1 ) ln_X6_106 (by omega) rfl rfl rfl rfl (Nat.le_of_ble_eq_true rfl) hl.1 ⟨Nat.le_of_ble_eq_true rfl, Nat.le_of_ble_eq_true rfl⟩ ⟨Nat.le_refl _, Nat.le_refl _⟩ dX6_run_124 (fun v1592 r1593 H locs h1591 HX1594 => ?_)
            dsimp only at h1591
            have hC_v1592 := h1591.2.1
            have h_keepDraft := h1591.1
            refine lv_iload_n hx hb dX6_run_127 rfl (lv_at hl 1 rfl) ?_
            exact RET _ _ _ _ _ _ _ HX1594 dX6_run_128 (⟨⟨(show v1592 395 1 = v 395 1 from ((congrFun (h1591.2.2.1 395 (by omega)) 1).trans hi_45.2.2.1)), fun A H hV => by (obtain ⟨j0, hj0, hF⟩ := hx_x1572; have hO := fb_txo_of (by omega) hF c_9; obtain ⟨e, q1, q2, q3, q4⟩ := fb_rnI.e hnt hV.1 hO (hi_45.2.2.2.2.2.2 A H _ hV hO) (Or.inr (fa_leN (by omega) (by omega) c_52)) h_keepDraft; rw [c_9] at hF; exact Or.inr ⟨j0, e, hj0, hF, q1, q2, q3, q4⟩)⟩, hC_v1592, (fa_fr.tr (fa_fr.tr fa_fr.rf (fa_fr.wide hi_45.2.2.2.2.1 (by omega) (by omega))) (fa_fr.wide h1591.2.2.1 (by omega) (by omega))), (fun k hk => ((h1591.2.2.2 k hk).trans ((hi_45.2.2.2.2.2.1 k hk).trans rfl)))⟩)
          · have hj := fa_ltN (by omega) (by omega) c_52
            refine lv_aload_n hx hb dX6_run_55 rfl (lv_at hl 0 rfl) ?_
            refine fa_getr (k := 0) (j := 395) CX HX1586 fl_X6_29 (by omega) rfl rfl (fa_CI.A hi_45.2.1).2.2.2.1 dX6_run_56 ?_
            refine fa_geti (k := 395) CX HX1586 fl_X6_85 (by omega) rfl rfl dX6_run_59 ?_
            rw [show v1584 395 2 = nI (mt) from hi_45.2.2.2.1.2]
            refine lv_istore (lv' := [(4, .int (nI (mt))), (0, .ref (fa_B G + (0))), (1, .int (ex)), (2, .int (mo)), (3, .int (nI (j)))]) hx hb dX6_run_62 hl (by decide) rfl (fun ls hl => ?_)
            refine lv_aload_n hx hb dX6_run_64 rfl (lv_at hl 1 rfl) ?_
            refine fa_getr (k := 0) (j := 395) CX HX1586 fl_X6_29 (by omega) rfl rfl (fa_CI.A hi_45.2.1).2.2.2.1 dX6_run_65 ?_
            refine fa_callViu (As := []) (rest := []) CX HX1586 (g_readOrder l G n hn v1584 r1585 (fa_CI.A hi_45.2.1) (fa_CI.T hi_45.2.1) nt (v 396) (fa_TX.rows hX hi_45.2.2.1 ((hi_45.2.2.2.2.1 396 (by omega)).trans rfl)) (mt) (by omega) hi_45.2.2.2.1.2) ln_X6_88 (by omega) rfl rfl rfl rfl (Nat.le_of_ble_eq_true rfl) hl.1 ⟨Nat.le_of_ble_eq_true rfl, Nat.le_of_ble_eq_true rfl⟩ ⟨Nat.le_refl _, Nat.le_refl _⟩ dX6_run_68 (fun x1596 v1597 H locs h1595 HX1598 => ?_)
            obtain ⟨hx_x1596, ⟨m_x1596, hm_x1596, hle_x1596, gm_x1596, he_x1596⟩, hs_x1596⟩ := h1595.1
            have hC_v1597 : fa_CI v1597 r1585 := fa_CI.tx hi_45.2.1 (fa_IT.rows (fa_CI.T hi_45.2.1) (hs_x1596 1 (by decide) (by decide) (by decide) (by decide)) (h1595.2 396 (by decide))) (fa_fr.wide h1595.2 (by omega) (by omega))
            refine lv_pop hx hb dX6_run_71 rfl ?_
            refine lv_aload_n hx hb dX6_run_72 rfl (lv_at hl 1 rfl) ?_
            refine fa_callVi (As := []) (rest := []) CX HX1598 (g_obey l G n hn v1597 r1585 hC_v1597 ) ln_X6_92 (by omega) rfl rfl rfl rfl (Nat.le_of_ble_eq_true rfl) hl.1 ⟨Nat.le_of_ble_eq_true rfl, Nat.le_of_ble_eq_true rfl⟩ ⟨Nat.le_refl _, Nat.le_refl _⟩ dX6_run_73 (fun x1600 v1601 r1602 H locs h1599 HX1603 => ?_)
            dsimp only at h1599
            have hC_v1601 := h1599.2.1
            have h_obey := h1599.1
            refine lv_istore (lv' := [(5, .int (x1600)), (4, .int (nI (mt))), (0, .ref (fa_B G + (0))), (1, .int (ex)), (2, .int (mo)), (3, .int (nI (j)))]) hx hb dX6_run_76 hl (by decide) rfl (fun ls hl => ?_)
            refine lv_iload hx hb dX6_run_78 (lv_at hl 0 rfl) ?_
            refine fa_callSip (As := [.int (x1600)]) (rest := []) CX HX1603 (c_X6_isError l G n v1601 r1602 (x1600)) ln_X6_95 rfl rfl (Nat.le_of_ble_eq_true rfl) hl.1 ⟨Nat.le_of_ble_eq_true rfl, Nat.le_of_ble_eq_true rfl⟩ ⟨Nat.le_refl _, Nat.le_refl _⟩ dX6_run_80 (fun x1605 H locs h1604 HX1606 => ?_)
            have h_isError := h1604
            refine lv_if_eq (tgt := 101) hx hb dX6_run_83 (by decide) (fun c_83 => ?_) (fun c_83 => ?_)
            · refine lv_iinc (v := ex + (1)) (lv' := [(1, .int (ex + (1))), (5, .int (x1600)), (4, .int (nI (mt))), (0, .ref (fa_B G + (0))), (2, .int (mo)), (3, .int (nI (j)))]) hx hb dX6_run_101 hl (k := 3) rfl rfl (by decide) rfl (fun ls hl => ?_)
              refine lv_aload_n hx hb dX6_run_104 rfl (lv_at hl 3 rfl) ?_
              refine fa_getr (k := 0) (j := 395) CX HX1606 fl_X6_29 (by omega) rfl rfl (fa_CI.A hC_v1601).2.2.2.1 dX6_run_105 ?_
              refine lv_bipush (v := nI (59)) hx hb dX6_run_108 (by decide) ?_
              refine fa_callViu (As := [.int (nI (59))]) (rest := []) CX HX1606 (g_readSign l G n hn v1601 r1602 (fa_CI.A hC_v1601) (fa_CI.T hC_v1601) nt (v 396) (fa_TX.rows hX ((congrFun (h1599.2.2.1 395 (by omega)) 1).trans ((hs_x1596 1 (by decide) (by decide) (by decide) (by decide)).trans hi_45.2.2.1)) ((h1599.2.2.1 396 (by omega)).trans ((h1595.2 396 (by omega)).trans ((hi_45.2.2.2.2.1 396 (by omega)).trans rfl)))) (m_x1596) (by omega) (by rw [h1599.2.2.1 _ (by omega)]; exact gm_x1596) (nI (59)) (by decide)) ln_X6_103 (by omega) rfl rfl rfl rfl (Nat.le_of_ble_eq_true rfl) hl.1 ⟨Nat.le_of_ble_eq_true rfl, Nat.le_of_ble_eq_true rfl⟩ ⟨Nat.le_refl _, Nat.le_refl _⟩ dX6_run_110 (fun x1608 v1609 H locs h1607 HX1610 => ?_)
              obtain ⟨hx_x1608, ⟨m_x1608, hm_x1608, hle_x1608, gm_x1608⟩, hs_x1608⟩ := h1607.1
              have hC_v1609 : fa_CI v1609 r1602 := fa_CI.tx hC_v1601 (fa_IT.rows (fa_CI.T hC_v1601) (hs_x1608 1 (by decide)) (h1607.2 396 (by decide))) (fa_fr.wide h1607.2 (by omega) (by omega))
              refine lv_istore_n (lv' := [(2, .int (x1608)), (1, .int (ex + (1))), (5, .int (x1600)), (4, .int (nI (mt))), (0, .ref (fa_B G + (0))), (3, .int (nI (j)))]) hx hb dX6_run_113 rfl hl (by decide) rfl (fun ls hl => ?_)
              refine lv_iinc (v := nI (j + 1)) (lv' := [(3, .int (nI (j + 1))), (2, .int (x1608)), (1, .int (ex + (1))), (5, .int (x1600)), (4, .int (nI (mt))), (0, .ref (fa_B G + (0)))]) hx hb dX6_run_114 hl (k := 5) rfl (nI_add (j) 1) (by decide) rfl (fun ls hl => ?_)
              refine lv_goto (tgt := 45) hx hb dX6_run_117 (by decide) ?_
              exact ih_45 (j + 1) (ex + (1)) (x1608) (m_x1608) v1609 r1602 _ _ _ (by omega) (⟨by omega, hC_v1609, ((hs_x1608 1 (by decide)).trans ((congrFun (h1599.2.2.1 395 (by omega)) 1).trans ((hs_x1596 1 (by decide) (by decide) (by decide) (by decide)).trans hi_45.2.2.1))), ⟨by omega, gm_x1608⟩, (fa_fr.tr (fa_fr.tr (fa_fr.tr (fa_fr.tr fa_fr.rf (fa_fr.wide hi_45.2.2.2.2.1 (by omega) (by omega))) (fa_fr.wide h1595.2 (by omega) (by omega))) (fa_fr.wide h1599.2.2.1 (by omega) (by omega))) (fa_fr.wide h1607.2 (by omega) (by omega))), (fun k hk => ((h1599.2.2.2 k hk).trans ((hi_45.2.2.2.2.2.1 k hk).trans rfl))), (fun A H o hV hO => fb_rnI.ok hO ((hi_45.2.2.2.2.2.2 A H o hV hO).s hV.1 hO (by first | exact c_46 | exact Decidable.not_not.mp c_46) h1595.2 hm_x1596 he_x1596.1 he_x1596.2 h1599.2.2.1 h_obey.1 h_obey.2) (fa_err0 h_isError (by first | exact c_83 | exact Decidable.not_not.mp c_83)) h1607.2 hx_x1608 hm_x1608)⟩) (lv_sub hl [5, 2, 1, 0] rfl) HX1610
            · refine lv_aload_n hx hb dX6_run_86 rfl (lv_at hl 2 rfl) ?_
              refine lv_iload_n hx hb dX6_run_87 rfl (lv_at hl 3 rfl) ?_
              refine lv_iload hx hb dX6_run_88 (lv_at hl 1 rfl) ?_
              refine lv_iload hx hb dX6_run_90 (lv_at hl 0 rfl) ?_
              refine lv_ineg hx hb dX6_run_92 ?_
              refine fa_callVvu (As := [.int (ex), .int (nI (mt)), .int (-(x1600))]) (rest := []) CX HX1606 (g_report l G n hn v1601 r1602 hC_v1601 (ex) (nI (mt)) (-(x1600))) ln_X6_99 (by omega) rfl rfl rfl rfl (Nat.le_of_ble_eq_true rfl) hl.1 ⟨Nat.le_of_ble_eq_true rfl, Nat.le_of_ble_eq_true rfl⟩ ⟨Nat.le_refl _, Nat.le_refl _⟩ dX6_run_93 (fun v1612 H locs h1611 HX1613 => ?_)
              have hC_v1612 := h1611.1.2
              have h_report := h1611.1.1
              refine lv_iconst (v := nI (0)) hx hb dX6_run_96 (by decide) ?_
              refine lv_istore_n (lv' := [(2, .int (nI (0))), (5, .int (x1600)), (4, .int (nI (mt))), (0, .ref (fa_B G + (0))), (1, .int (ex)), (3, .int (nI (j)))]) hx hb dX6_run_97 rfl hl (by decide) rfl (fun ls hl => ?_)
              refine lv_goto (tgt := 114) hx hb dX6_run_98 (by decide) ?_
              refine lv_iinc (v := nI (j + 1)) (lv' := [(3, .int (nI (j + 1))), (2, .int (nI (0))), (5, .int (x1600)), (4, .int (nI (mt))), (0, .ref (fa_B G + (0))), (1, .int (ex))]) hx hb dX6_run_114 hl (k := 5) rfl (nI_add (j) 1) (by decide) rfl (fun ls hl => ?_)
              refine lv_goto (tgt := 45) hx hb dX6_run_117 (by decide) ?_
              exact ih_45 (j + 1) (ex) (nI (0)) (m_x1596) v1612 r1602 _ _ _ (by omega) (⟨by omega, hC_v1612, ((congrFun (h1611.2 395 (by omega)) 1).trans ((congrFun (h1599.2.2.1 395 (by omega)) 1).trans ((hs_x1596 1 (by decide) (by decide) (by decide) (by decide)).trans hi_45.2.2.1))), ⟨by omega, (by rw [h1611.2 _ (by omega)]; exact (by rw [h1599.2.2.1 _ (by omega)]; exact gm_x1596))⟩, (fa_fr.tr (fa_fr.tr (fa_fr.tr (fa_fr.tr fa_fr.rf (fa_fr.wide hi_45.2.2.2.2.1 (by omega) (by omega))) (fa_fr.wide h1595.2 (by omega) (by omega))) (fa_fr.wide h1599.2.2.1 (by omega) (by omega))) (fa_fr.wide h1611.2 (by omega) (by omega))), (fun k hk => ((h1599.2.2.2 k hk).trans ((hi_45.2.2.2.2.2.1 k hk).trans rfl))), (fun A H o hV hO => fb_rnI.er ((hi_45.2.2.2.2.2.2 A H o hV hO).s hV.1 hO (by first | exact c_46 | exact Decidable.not_not.mp c_46) h1595.2 hm_x1596 he_x1596.1 he_x1596.2 h1599.2.2.1 h_obey.1 h_obey.2) (fa_err1 h_isError c_83) h1611.2 ⟨h_report.1, h_report.2.1, h_report.2.2⟩)⟩) (lv_sub hl [4, 5, 1, 0] rfl) HX1613
    exact LOOP_45 (60 - 0 + 1) (0) (nI (0)) (nI (1)) (0) v1581 r _ _ _ (Nat.lt_succ_self _) (⟨Nat.zero_le _, (show fa_CI v1581 r from by rw [e1582]; exact fa_CI.u395 (show fa_CI v1578 r from by rw [e1579]; exact fa_CI.u0 hC_v1576) (by decide)), ((congrFun (congrFun e1582 395) 1).trans ((fa_u_n _ _ (by decide)).trans ((congrFun (congrFun e1579 395) 1).trans ((fa_u_n _ _ (by decide)).trans ((congrFun (h1575.2 395 (by omega)) 1).trans (hs_x1572 1 (by decide) (by decide) (by decide) (by decide))))))), ⟨by omega, (by rw [e1582, fa_u_s])⟩, (by rw [e1582]; exact fa_fr.u (by rw [e1579]; exact fa_fr.u (fa_fr.tr (fa_fr.tr fa_fr.rf (fa_fr.wide h1571.2 (by omega) (by omega))) (fa_fr.wide h1575.2 (by omega) (by omega))) (by omega)) (by omega)), (fun k hk => rfl), (fun A H o hV hO => fb_rnI.start hV hC_v1573 h1571.2 h_draft e1579 e1582 hO)⟩) (lv_sub hl [3, 2, 1, 0] rfl) HX1583
  · refine lv_bipush (v := (-3 : Int32)) hx hb dX6_run_12 (by decide) ?_
    exact RET _ _ _ _ _ _ _ HX1574 dX6_run_14 (⟨⟨(show v1573 395 1 = v 395 1 from (hs_x1572 1 (by decide) (by decide) (by decide) (by decide))), fun A H hV => by (obtain ⟨j, hj, hF⟩ := hx_x1572; exact Or.inl ⟨j, x1572, hj, hF, c_9, rfl, hV.cong (fun k k1 k2 => h1571.2 k (by omega)), h1571.2 0 (by omega)⟩)⟩, hC_v1573, (fa_fr.tr fa_fr.rf (fa_fr.wide h1571.2 (by omega) (by omega))), (fun k hk => rfl)⟩)
