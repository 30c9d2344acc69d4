set_option maxHeartbeats 4000000 in
set_option maxRecDepth 100000 in
theorem p1_rcopy (l : Launch) (G : fa_G) (n : Nat) (hn : 397 ≤ n) (v : fa_V) (r : fa_R) (b : Nat) (hB : b ∈ fa_bs) (hr : fa_RS r b) (b2 : Nat) (hB2 : b2 ∈ fa_bs) (hrb2 : fa_RS r b2) (hd : b2 + 56 ≤ b ∨ b + 56 ≤ b2) : fa_MV l G n yX2_copyFrom cX2_copyFrom 2 2 [.ref (fa_B G + (b + 2)), .ref (fa_B G + (b2 + 2))] v r (fa_vo r (fun v1 => (v1 (b + 2) 0 = v (b2 + 2) 0) ∧ (fa_fr (b + 2) (b + 5) v v1))) := by
  refine fa_startV (by decide +kernel) (Nat.le_of_ble_eq_true rfl) (fun p e s m args below meth c ls Q CX hl HX RET => ?_)
  have hl : lv_has ls 2 [(0, .ref (fa_B G + (b + 2))), (1, .ref (fa_B G + (b2 + 2)))] := hl
  have hx := CX.1.1
  have hb := CX.1.2.1
  refine lv_aload_n hx hb dX2_copyFrom_0 rfl (lv_at hl 0 rfl) ?_
  refine lv_aload_n hx hb dX2_copyFrom_1 rfl (lv_at hl 1 rfl) ?_
  refine fa_geti (k := b2 + 2) CX HX fl_X2_18 (fa_lt hB2 2 (by decide) hn) (fa_s2 hB2) rfl dX2_copyFrom_2 ?_
  refine fa_puti (k := b + 2) CX HX fl_X2_18 (fa_lt hB 2 (by decide) hn) (fa_s2 hB) rfl rfl rfl dX2_copyFrom_5 (fun H locs v63 e64 HX65 => ?_)
  refine lv_aload_n hx hb dX2_copyFrom_8 rfl (lv_at hl 1 rfl) ?_
  refine fa_getr (k := b2 + 2) (j := b2 + 3) CX HX65 fl_X2_9 (fa_lt hB2 2 (by decide) hn) (fa_s2 hB2) rfl hrb2.2.2.2.2.1 dX2_copyFrom_9 ?_
  refine lv_iconst (v := nI (0)) hx hb dX2_copyFrom_12 (by decide) ?_
  refine lv_aload_n hx hb dX2_copyFrom_13 rfl (lv_at hl 0 rfl) ?_
  refine fa_getr (k := b + 2) (j := b + 3) CX HX65 fl_X2_9 (fa_lt hB 2 (by decide) hn) (fa_s2 hB) rfl hr.2.2.2.2.1 dX2_copyFrom_14 ?_
  refine lv_iconst (v := nI (0)) hx hb dX2_copyFrom_17 (by decide) ?_
  refine lv_bipush (v := nI (8)) hx hb dX2_copyFrom_18 (by decide) ?_
  refine fa_copy (k0 := b2 + 3) (k1 := b + 3) (sp := 0) (dp := 0) (cnt := 8) CX HX65 fa_cpl_X2_22 fa_cpn fa_cps fa_cpi hl.1 (fa_lt hB2 3 (by decide) hn) (fa_s3 hB2) (fa_lt hB 3 (by decide) hn) (fa_s3 hB) (by decide) (by decide) (by first | decide | assumption) (by first | decide | assumption) (Nat.le_of_ble_eq_true rfl) (by decide +kernel) dX2_copyFrom_20 (fun H locs v66 e67 HX68 => ?_)
  refine lv_aload_n hx hb dX2_copyFrom_23 rfl (lv_at hl 1 rfl) ?_
  refine fa_getr (k := b2 + 2) (j := b2 + 4) CX HX68 fl_X2_15 (fa_lt hB2 2 (by decide) hn) (fa_s2 hB2) rfl hrb2.2.2.2.2.2.1 dX2_copyFrom_24 ?_
  refine lv_iconst (v := nI (0)) hx hb dX2_copyFrom_27 (by decide) ?_
  refine lv_aload_n hx hb dX2_copyFrom_28 rfl (lv_at hl 0 rfl) ?_
  refine fa_getr (k := b + 2) (j := b + 4) CX HX68 fl_X2_15 (fa_lt hB 2 (by decide) hn) (fa_s2 hB) rfl hr.2.2.2.2.2.1 dX2_copyFrom_29 ?_
  refine lv_iconst (v := nI (0)) hx hb dX2_copyFrom_32 (by decide) ?_
  refine lv_bipush (v := nI (8)) hx hb dX2_copyFrom_33 (by decide) ?_
  refine fa_copy (k0 := b2 + 4) (k1 := b + 4) (sp := 0) (dp := 0) (cnt := 8) CX HX68 fa_cpl_X2_22 fa_cpn fa_cps fa_cpi hl.1 (fa_lt hB2 4 (by decide) hn) (fa_s4 hB2) (fa_lt hB 4 (by decide) hn) (fa_s4 hB) (by decide) (by decide) (by first | decide | assumption) (by first | decide | assumption) (Nat.le_of_ble_eq_true rfl) (by decide +kernel) dX2_copyFrom_35 (fun H locs v69 e70 HX71 => ?_)
  exact RET _ _ _ _ _ _ HX71 dX2_copyFrom_38 (⟨rfl, ⟨(by simp [e70, e67, e64, fa_u]), (by rw [e70]; exact fa_fr.cp (by rw [e67]; exact fa_fr.cp (by rw [e64]; exact fa_fr.u fa_fr.rf (by omega)) (by omega)) (by omega))⟩⟩)
set_option maxHeartbeats 4000000 in
set_option maxRecDepth 100000 in
theorem p1_tcopy (l : Launch) (G : fa_G) (n : Nat) (hn : 397 ≤ n) (v : fa_V) (r : fa_R) (b : Nat) (hB : b ∈ fa_bs) (hr : fa_RS r b) (b2 : Nat) (hB2 : b2 ∈ fa_bs) (hrb2 : fa_RS r b2) (hd : b2 + 56 ≤ b ∨ b + 56 ≤ b2) : fa_MV l G n yX5_copyFrom cX5_copyFrom 2 2 [.ref (fa_B G + (b + 5)), .ref (fa_B G + (b2 + 5))] v r (fa_vo r (fun v1 => (v1 (b + 5) 0 = v (b2 + 5) 0) ∧ (fa_fr (b + 5) (b + 7) v v1))) := by
  refine fa_startV (by decide +kernel) (Nat.le_of_ble_eq_true rfl) (fun p e s m args below meth c ls Q CX hl HX RET => ?_)
  have hl : lv_has ls 2 [(0, .ref (fa_B G + (b + 5))), (1, .ref (fa_B G + (b2 + 5)))] := hl
  have hx := CX.1.1
  have hb := CX.1.2.1
  refine lv_aload_n hx hb dX5_copyFrom_0 rfl (lv_at hl 0 rfl) ?_
  refine lv_aload_n hx hb dX5_copyFrom_1 rfl (lv_at hl 1 rfl) ?_
  refine fa_geti (k := b2 + 5) CX HX fl_X5_15 (fa_lt hB2 5 (by decide) hn) (fa_s5 hB2) rfl dX5_copyFrom_2 ?_
  refine fa_puti (k := b + 5) CX HX fl_X5_15 (fa_lt hB 5 (by decide) hn) (fa_s5 hB) rfl rfl rfl dX5_copyFrom_5 (fun H locs v72 e73 HX74 => ?_)
  refine lv_aload_n hx hb dX5_copyFrom_8 rfl (lv_at hl 1 rfl) ?_
  refine fa_getr (k := b2 + 5) (j := b2 + 6) CX HX74 fl_X5_9 (fa_lt hB2 5 (by decide) hn) (fa_s5 hB2) rfl hrb2.2.2.2.2.2.2.1 dX5_copyFrom_9 ?_
  refine lv_iconst (v := nI (0)) hx hb dX5_copyFrom_12 (by decide) ?_
  refine lv_aload_n hx hb dX5_copyFrom_13 rfl (lv_at hl 0 rfl) ?_
  refine fa_getr (k := b + 5) (j := b + 6) CX HX74 fl_X5_9 (fa_lt hB 5 (by decide) hn) (fa_s5 hB) rfl hr.2.2.2.2.2.2.1 dX5_copyFrom_14 ?_
  refine lv_iconst (v := nI (0)) hx hb dX5_copyFrom_17 (by decide) ?_
  refine lv_bipush (v := nI (60)) hx hb dX5_copyFrom_18 (by decide) ?_
  refine fa_copy (k0 := b2 + 6) (k1 := b + 6) (sp := 0) (dp := 0) (cnt := 60) CX HX74 fa_cpl_X5_19 fa_cpn fa_cps fa_cpi hl.1 (fa_lt hB2 6 (by decide) hn) (fa_s6 hB2) (fa_lt hB 6 (by decide) hn) (fa_s6 hB) (by decide) (by decide) (by first | decide | assumption) (by first | decide | assumption) (Nat.le_of_ble_eq_true rfl) (by decide +kernel) dX5_copyFrom_20 (fun H locs v75 e76 HX77 => ?_)
  exact RET _ _ _ _ _ _ HX77 dX5_copyFrom_23 (⟨rfl, ⟨(by simp [e76, e73, fa_u]), (by rw [e76]; exact fa_fr.cp (by rw [e73]; exact fa_fr.u fa_fr.rf (by omega)) (by omega))⟩⟩)
set_option maxHeartbeats 4000000 in
set_option maxRecDepth 100000 in
theorem p1_scopy (l : Launch) (G : fa_G) (n : Nat) (hn : 397 ≤ n) (v : fa_V) (r : fa_R) (b : Nat) (hB : b ∈ fa_bs) (hr : fa_RS r b) (b2 : Nat) (hB2 : b2 ∈ fa_bs) (hrb2 : fa_RS r b2) (hd : b2 + 56 ≤ b ∨ b + 56 ≤ b2) (h1 : v b2 1 = 0) : fa_MV l G n yX3_copyFrom cX3_copyFrom 3 3 [.ref (fa_B G + (b)), .ref (fa_B G + (b2))] v r (fa_vo r (fun v1 => (v1 b 0 = v b2 0 ∧ v1 b 1 = v b2 1 ∧ v1 b 2 = v b2 2 ∧ v1 b 3 = v b2 3 ∧ v1 b 4 = v b2 4 ∧ v1 b 5 = v b2 5 ∧ v1 b 6 = v b2 6 ∧ v1 b 7 = v b2 7 ∧ v1 (b + 2) 0 = v (b2 + 2) 0 ∧ v1 (b + 5) 0 = v (b2 + 5) 0) ∧ (fa_fr (b) (b + 56) v v1))) := by
  refine fa_startV (by decide +kernel) (Nat.le_of_ble_eq_true rfl) (fun p e s m args below meth c ls Q CX hl HX RET => ?_)
  have hl : lv_has ls 3 [(0, .ref (fa_B G + (b))), (1, .ref (fa_B G + (b2)))] := hl
  have hx := CX.1.1
  have hb := CX.1.2.1
  refine lv_aload_n hx hb dX3_copyFrom_0 rfl (lv_at hl 0 rfl) ?_
  refine lv_aload_n hx hb dX3_copyFrom_1 rfl (lv_at hl 1 rfl) ?_
  refine fa_geti (k := b2) CX HX fl_X3_45 (fa_lt hB2 0 (by decide) hn) (fa_s0 hB2) rfl dX3_copyFrom_2 ?_
  refine fa_puti (k := b) CX HX fl_X3_45 (fa_lt hB 0 (by decide) hn) (fa_s0 hB) rfl rfl rfl dX3_copyFrom_5 (fun H locs v78 e79 HX80 => ?_)
  refine lv_aload_n hx hb dX3_copyFrom_8 rfl (lv_at hl 0 rfl) ?_
  refine lv_aload_n hx hb dX3_copyFrom_9 rfl (lv_at hl 1 rfl) ?_
  refine fa_geti (k := b2) CX HX80 fl_X3_49 (fa_lt hB2 0 (by decide) hn) (fa_s0 hB2) rfl dX3_copyFrom_10 ?_
  refine fa_puti (k := b) CX HX80 fl_X3_49 (fa_lt hB 0 (by decide) hn) (fa_s0 hB) rfl rfl rfl dX3_copyFrom_13 (fun H locs v81 e82 HX83 => ?_)
  refine lv_aload_n hx hb dX3_copyFrom_16 rfl (lv_at hl 0 rfl) ?_
  refine lv_aload_n hx hb dX3_copyFrom_17 rfl (lv_at hl 1 rfl) ?_
  refine fa_geti (k := b2) CX HX83 fl_X3_52 (fa_lt hB2 0 (by decide) hn) (fa_s0 hB2) rfl dX3_copyFrom_18 ?_
  refine fa_puti (k := b) CX HX83 fl_X3_52 (fa_lt hB 0 (by decide) hn) (fa_s0 hB) rfl rfl rfl dX3_copyFrom_21 (fun H locs v84 e85 HX86 => ?_)
  refine lv_aload_n hx hb dX3_copyFrom_24 rfl (lv_at hl 0 rfl) ?_
  refine lv_aload_n hx hb dX3_copyFrom_25 rfl (lv_at hl 1 rfl) ?_
  refine fa_geti (k := b2) CX HX86 fl_X3_55 (fa_lt hB2 0 (by decide) hn) (fa_s0 hB2) rfl dX3_copyFrom_26 ?_
  refine fa_puti (k := b) CX HX86 fl_X3_55 (fa_lt hB 0 (by decide) hn) (fa_s0 hB) rfl rfl rfl dX3_copyFrom_29 (fun H locs v87 e88 HX89 => ?_)
  refine lv_aload_n hx hb dX3_copyFrom_32 rfl (lv_at hl 0 rfl) ?_
  refine lv_aload_n hx hb dX3_copyFrom_33 rfl (lv_at hl 1 rfl) ?_
  refine fa_geti (k := b2) CX HX89 fl_X3_58 (fa_lt hB2 0 (by decide) hn) (fa_s0 hB2) rfl dX3_copyFrom_34 ?_
  refine fa_puti (k := b) CX HX89 fl_X3_58 (fa_lt hB 0 (by decide) hn) (fa_s0 hB) rfl rfl rfl dX3_copyFrom_37 (fun H locs v90 e91 HX92 => ?_)
  refine lv_aload_n hx hb dX3_copyFrom_40 rfl (lv_at hl 0 rfl) ?_
  refine lv_aload_n hx hb dX3_copyFrom_41 rfl (lv_at hl 1 rfl) ?_
  refine fa_geti (k := b2) CX HX92 fl_X3_61 (fa_lt hB2 0 (by decide) hn) (fa_s0 hB2) rfl dX3_copyFrom_42 ?_
  refine fa_puti (k := b) CX HX92 fl_X3_61 (fa_lt hB 0 (by decide) hn) (fa_s0 hB) rfl rfl rfl dX3_copyFrom_45 (fun H locs v93 e94 HX95 => ?_)
  refine lv_aload_n hx hb dX3_copyFrom_48 rfl (lv_at hl 0 rfl) ?_
  refine lv_aload_n hx hb dX3_copyFrom_49 rfl (lv_at hl 1 rfl) ?_
  refine fa_geti (k := b2) CX HX95 fl_X3_64 (fa_lt hB2 0 (by decide) hn) (fa_s0 hB2) rfl dX3_copyFrom_50 ?_
  refine fa_puti (k := b) CX HX95 fl_X3_64 (fa_lt hB 0 (by decide) hn) (fa_s0 hB) rfl rfl rfl dX3_copyFrom_53 (fun H locs v96 e97 HX98 => ?_)
  refine lv_aload_n hx hb dX3_copyFrom_56 rfl (lv_at hl 0 rfl) ?_
  refine lv_aload_n hx hb dX3_copyFrom_57 rfl (lv_at hl 1 rfl) ?_
  refine fa_geti (k := b2) CX HX98 fl_X3_67 (fa_lt hB2 0 (by decide) hn) (fa_s0 hB2) rfl dX3_copyFrom_58 ?_
  refine fa_puti (k := b) CX HX98 fl_X3_67 (fa_lt hB 0 (by decide) hn) (fa_s0 hB) rfl rfl rfl dX3_copyFrom_61 (fun H locs v99 e100 HX101 => ?_)
  refine lv_iconst (v := nI (0)) hx hb dX3_copyFrom_64 (by decide) ?_
  refine lv_istore_n (lv' := [(2, .int (nI (0))), (0, .ref (fa_B G + (b))), (1, .ref (fa_B G + (b2)))]) hx hb dX3_copyFrom_65 rfl hl (by decide) rfl (fun ls hl => ?_)
  refine lv_iload_n hx hb dX3_copyFrom_66 rfl (lv_at hl 0 rfl) ?_
  refine lv_aload_n hx hb dX3_copyFrom_67 rfl (lv_at hl 1 rfl) ?_
  refine fa_geti (k := b) CX HX101 fl_X3_49 (fa_lt hB 0 (by decide) hn) (fa_s0 hB) rfl dX3_copyFrom_68 ?_
  have ky_71 : v99 b 1 = (0 : Int32) := (by simp [h1, (show fa_fr (b) (b + 56) v v78 from (by rw [e79]; exact fa_fr.u fa_fr.rf (by omega))) b2 (by omega), e82, fa_u, e85, e88, e91, e94, e97, e100] <;> rfl)
  refine lv_icmp_ge (tgt := 95) hx hb dX3_copyFrom_71 (by decide) (fun c_71 => ?_) (fun c_71 => ?_)
  · refine lv_aload_n hx hb dX3_copyFrom_95 rfl (lv_at hl 1 rfl) ?_
    refine fa_getr (k := b) (j := b + 2) CX HX101 fl_X3_20 (fa_lt hB 0 (by decide) hn) (fa_s0 hB) rfl hr.2.1 dX3_copyFrom_96 ?_
    refine lv_aload_n hx hb dX3_copyFrom_99 rfl (lv_at hl 2 rfl) ?_
    refine fa_getr (k := b2) (j := b2 + 2) CX HX101 fl_X3_20 (fa_lt hB2 0 (by decide) hn) (fa_s0 hB2) rfl hrb2.2.1 dX3_copyFrom_100 ?_
    refine fa_callVvu (As := [.ref (fa_B G + (b2 + 2))]) (rest := []) CX HX101 (p1_rcopy l G n hn v99 r b hB hr b2 hB2 hrb2 hd ) ln_X3_74 (fa_lt hB 2 (by decide) hn) (fa_s2 hB) rfl rfl rfl (Nat.le_of_ble_eq_true rfl) hl.1 ⟨Nat.le_of_ble_eq_true rfl, Nat.le_of_ble_eq_true rfl⟩ ⟨Nat.le_refl _, Nat.le_refl _⟩ dX3_copyFrom_103 (fun v103 H locs h102 HX104 => ?_)
    have h_rc := h102.1
    refine lv_aload_n hx hb dX3_copyFrom_106 rfl (lv_at hl 1 rfl) ?_
    refine fa_getr (k := b) (j := b + 5) CX HX104 fl_X3_27 (fa_lt hB 0 (by decide) hn) (fa_s0 hB) rfl hr.2.2.1 dX3_copyFrom_107 ?_
    refine lv_aload_n hx hb dX3_copyFrom_110 rfl (lv_at hl 2 rfl) ?_
    refine fa_getr (k := b2) (j := b2 + 5) CX HX104 fl_X3_27 (fa_lt hB2 0 (by decide) hn) (fa_s0 hB2) rfl hrb2.2.2.1 dX3_copyFrom_111 ?_
    refine fa_callVvu (As := [.ref (fa_B G + (b2 + 5))]) (rest := []) CX HX104 (p1_tcopy l G n hn v103 r b hB hr b2 hB2 hrb2 hd ) ln_X3_77 (fa_lt hB 5 (by decide) hn) (fa_s5 hB) rfl rfl rfl (Nat.le_of_ble_eq_true rfl) hl.1 ⟨Nat.le_of_ble_eq_true rfl, Nat.le_of_ble_eq_true rfl⟩ ⟨Nat.le_refl _, Nat.le_refl _⟩ dX3_copyFrom_114 (fun v106 H locs h105 HX107 => ?_)
    have h_tc := h105.1
    refine lv_aload_n hx hb dX3_copyFrom_117 rfl (lv_at hl 2 rfl) ?_
    refine fa_getr (k := b2) (j := b2 + 7) CX HX107 fl_X3_31 (fa_lt hB2 0 (by decide) hn) (fa_s0 hB2) rfl hrb2.2.2.2.1 dX3_copyFrom_118 ?_
    refine lv_iconst (v := nI (0)) hx hb dX3_copyFrom_121 (by decide) ?_
    refine lv_aload_n hx hb dX3_copyFrom_122 rfl (lv_at hl 1 rfl) ?_
    refine fa_getr (k := b) (j := b + 7) CX HX107 fl_X3_31 (fa_lt hB 0 (by decide) hn) (fa_s0 hB) rfl hr.2.2.2.1 dX3_copyFrom_123 ?_
    refine lv_iconst (v := nI (0)) hx hb dX3_copyFrom_126 (by decide) ?_
    refine lv_bipush (v := nI (7)) hx hb dX3_copyFrom_127 (by decide) ?_
    refine fa_copy (k0 := b2 + 7) (k1 := b + 7) (sp := 0) (dp := 0) (cnt := 7) CX HX107 fa_cpl_X3_39 fa_cpn fa_cps fa_cpi hl.1 (fa_lt hB2 7 (by decide) hn) (fa_s7 hB2) (fa_lt hB 7 (by decide) hn) (fa_s7 hB) (by decide) (by decide) (by first | decide | assumption) (by first | decide | assumption) (Nat.le_of_ble_eq_true rfl) (by decide +kernel) dX3_copyFrom_129 (fun H locs v108 e109 HX110 => ?_)
    exact RET _ _ _ _ _ _ HX110 dX3_copyFrom_132 (⟨rfl, ⟨⟨(by show v108 b 0 = v b2 0; rw [show v108 b 0 = v78 b 0 by simp [e109, h105.2 b (by omega), h102.2 b (by omega), e100, e97, e94, e91, e88, e85, e82, fa_u], e79, fa_u_s]), (by show v108 b 1 = v b2 1; rw [show v108 b 1 = v81 b 1 by simp [e109, h105.2 b (by omega), h102.2 b (by omega), e100, e97, e94, e91, e88, e85, fa_u], e82, fa_u_s, (show fa_fr (b) (b + 56) v v78 from (by rw [e79]; exact fa_fr.u fa_fr.rf (by omega))) b2 (by omega)]), (by show v108 b 2 = v b2 2; rw [show v108 b 2 = v84 b 2 by simp [e109, h105.2 b (by omega), h102.2 b (by omega), e100, e97, e94, e91, e88, fa_u], e85, fa_u_s, (show fa_fr (b) (b + 56) v v81 from (by rw [e82]; exact fa_fr.u (by rw [e79]; exact fa_fr.u fa_fr.rf (by omega)) (by omega))) b2 (by omega)]), (by show v108 b 3 = v b2 3; rw [show v108 b 3 = v87 b 3 by simp [e109, h105.2 b (by omega), h102.2 b (by omega), e100, e97, e94, e91, fa_u], e88, fa_u_s, (show fa_fr (b) (b + 56) v v84 from (by rw [e85]; exact fa_fr.u (by rw [e82]; exact fa_fr.u (by rw [e79]; exact fa_fr.u fa_fr.rf (by omega)) (by omega)) (by omega))) b2 (by omega)]), (by show v108 b 4 = v b2 4; rw [show v108 b 4 = v90 b 4 by simp [e109, h105.2 b (by omega), h102.2 b (by omega), e100, e97, e94, fa_u], e91, fa_u_s, (show fa_fr (b) (b + 56) v v87 from (by rw [e88]; exact fa_fr.u (by rw [e85]; exact fa_fr.u (by rw [e82]; exact fa_fr.u (by rw [e79]; exact fa_fr.u fa_fr.rf (by omega)) (by omega)) (by omega)) (by omega))) b2 (by omega)]), (by show v108 b 5 = v b2 5; rw [show v108 b 5 = v93 b 5 by simp [e109, h105.2 b (by omega), h102.2 b (by omega), e100, e97, fa_u], e94, fa_u_s, (show fa_fr (b) (b + 56) v v90 from (by rw [e91]; exact fa_fr.u (by rw [e88]; exact fa_fr.u (by rw [e85]; exact fa_fr.u (by rw [e82]; exact fa_fr.u (by rw [e79]; exact fa_fr.u fa_fr.rf (by omega)) (by omega)) (by omega)) (by omega)) (by omega))) b2 (by omega)]), (by show v108 b 6 = v b2 6; rw [show v108 b 6 = v96 b 6 by simp [e109, h105.2 b (by omega), h102.2 b (by omega), e100, fa_u], e97, fa_u_s, (show fa_fr (b) (b + 56) v v93 from (by rw [e94]; exact fa_fr.u (by rw [e91]; exact fa_fr.u (by rw [e88]; exact fa_fr.u (by rw [e85]; exact fa_fr.u (by rw [e82]; exact fa_fr.u (by rw [e79]; exact fa_fr.u fa_fr.rf (by omega)) (by omega)) (by omega)) (by omega)) (by omega)) (by omega))) b2 (by omega)]), (by show v108 b 7 = v b2 7; rw [show v108 b 7 = v99 b 7 by simp [e109, h105.2 b (by omega), h102.2 b (by omega), fa_u], e100, fa_u_s, (show fa_fr (b) (b + 56) v v96 from (by rw [e97]; exact fa_fr.u (by rw [e94]; exact fa_fr.u (by rw [e91]; exact fa_fr.u (by rw [e88]; exact fa_fr.u (by rw [e85]; exact fa_fr.u (by rw [e82]; exact fa_fr.u (by rw [e79]; exact fa_fr.u fa_fr.rf (by omega)) (by omega)) (by omega)) (by omega)) (by omega)) (by omega)) (by omega))) b2 (by omega)]), (by show v108 (b + 2) 0 = v (b2 + 2) 0; rw [show v108 (b + 2) 0 = v103 (b + 2) 0 by simp [e109, h105.2 (b + 2) (by omega)], h_rc, (show fa_fr (b) (b + 56) v v99 from (by rw [e100]; exact fa_fr.u (by rw [e97]; exact fa_fr.u (by rw [e94]; exact fa_fr.u (by rw [e91]; exact fa_fr.u (by rw [e88]; exact fa_fr.u (by rw [e85]; exact fa_fr.u (by rw [e82]; exact fa_fr.u (by rw [e79]; exact fa_fr.u fa_fr.rf (by omega)) (by omega)) (by omega)) (by omega)) (by omega)) (by omega)) (by omega)) (by omega))) (b2 + 2) (by omega)]), (by show v108 (b + 5) 0 = v (b2 + 5) 0; rw [show v108 (b + 5) 0 = v106 (b + 5) 0 by simp [e109], h_tc, (show fa_fr (b) (b + 56) v v103 from (fa_fr.tr (by rw [e100]; exact fa_fr.u (by rw [e97]; exact fa_fr.u (by rw [e94]; exact fa_fr.u (by rw [e91]; exact fa_fr.u (by rw [e88]; exact fa_fr.u (by rw [e85]; exact fa_fr.u (by rw [e82]; exact fa_fr.u (by rw [e79]; exact fa_fr.u fa_fr.rf (by omega)) (by omega)) (by omega)) (by omega)) (by omega)) (by omega)) (by omega)) (by omega)) (fa_fr.wide h102.2 (by omega) (by omega)))) (b2 + 5) (by omega)])⟩, (by rw [e109]; exact fa_fr.cp (fa_fr.tr (fa_fr.tr (by rw [e100]; exact fa_fr.u (by rw [e97]; exact fa_fr.u (by rw [e94]; exact fa_fr.u (by rw [e91]; exact fa_fr.u (by rw [e88]; exact fa_fr.u (by rw [e85]; exact fa_fr.u (by rw [e82]; exact fa_fr.u (by rw [e79]; exact fa_fr.u fa_fr.rf (by omega)) (by omega)) (by omega)) (by omega)) (by omega)) (by omega)) (by omega)) (by omega)) (fa_fr.wide h102.2 (by omega) (by omega))) (fa_fr.wide h105.2 (by omega) (by omega))) (by omega))⟩⟩)
  · exact absurd (by rw [ky_71]; try decide) c_71
set_option maxHeartbeats 4000000 in
set_option maxRecDepth 100000 in
theorem p1_draft (l : Launch) (G : fa_G) (n : Nat) (hn : 397 ≤ n) (v : fa_V) (r : fa_R) (hA : fa_RA r) (hH : ∀ i, i < 5 → r 114 i = some (115 + 56 * i)) (hr1 : fa_RS r 1) (hr57 : fa_RS r 57) (hr115 : fa_RS r 115) (h0 : v 113 0 = 0) (h1 : v 1 1 = 0) : fa_MV l G n yX0_draft cX0_draft 2 4 [.ref (fa_B G + (113)), .ref (fa_B G + (1))] v r (fa_vo r (fun v1 => (fa_fr (115) (171) v v1))) := by
  refine fa_startV (by decide +kernel) (Nat.le_of_ble_eq_true rfl) (fun p e s m args below meth c ls Q CX hl HX RET => ?_)
  have hl : lv_has ls 2 [(0, .ref (fa_B G + (113))), (1, .ref (fa_B G + (1)))] := hl
  have hx := CX.1.1
  have hb := CX.1.2.1
  refine lv_aload_n hx hb dX0_draft_0 rfl (lv_at hl 0 rfl) ?_
  refine fa_getr (k := 113) (j := 114) CX HX fl_X0_11 (by omega) rfl rfl hA.2.2.2.2.1 dX0_draft_1 ?_
  refine lv_aload_n hx hb dX0_draft_4 rfl (lv_at hl 0 rfl) ?_
  refine fa_geti (k := 113) CX HX fl_X0_18 (by omega) rfl rfl dX0_draft_5 ?_
  rw [show v 113 0 = nI (0) from h0]
  refine fa_aald (k := 114) (j := 0) (q := 115) CX HX (by omega) rfl rfl (by decide) (by omega) (by first | decide | assumption) (hH 0 (by decide)) dX0_draft_8 ?_
  refine lv_aload_n hx hb dX0_draft_9 rfl (lv_at hl 1 rfl) ?_
  refine fa_callVvu (As := [.ref (fa_B G + (1))]) (rest := []) CX HX (p1_scopy l G n hn v r 115 (by decide) hr115 1 (by decide) hr1 (by decide) h1) ln_X0_22 (fa_lt (by decide) 0 (by decide) hn) (fa_s0 (by decide)) rfl rfl rfl (Nat.le_of_ble_eq_true rfl) hl.1 ⟨Nat.le_of_ble_eq_true rfl, Nat.le_of_ble_eq_true rfl⟩ ⟨Nat.le_refl _, Nat.le_refl _⟩ dX0_draft_10 (fun v112 H locs h111 HX113 => ?_)
  have h_sc := h111.1
  exact RET _ _ _ _ _ _ HX113 dX0_draft_13 (⟨rfl, (fa_fr.tr fa_fr.rf (fa_fr.wide h111.2 (by omega) (by omega)))⟩)
set_option maxHeartbeats 4000000 in
set_option maxRecDepth 100000 in
theorem p1_keepDraft (l : Launch) (G : fa_G) (n : Nat) (hn : 397 ≤ n) (v : fa_V) (r : fa_R) (hA : fa_RA r) (hH : ∀ i, i < 5 → r 114 i = some (115 + 56 * i)) (hr1 : fa_RS r 1) (hr57 : fa_RS r 57) (hr115 : fa_RS r 115) (h0 : v 113 0 = 0) : fa_MV l G n yX0_keepDraft cX0_keepDraft 3 1 [.ref (fa_B G + (113))] v r (fa_vo r (fun v1 => (fa_fr (113) (114) v v1))) := by
  refine fa_startV (by decide +kernel) (Nat.le_of_ble_eq_true rfl) (fun p e s m args below meth c ls Q CX hl HX RET => ?_)
  have hl : lv_has ls 3 [(0, .ref (fa_B G + (113)))] := hl
  have hx := CX.1.1
  have hb := CX.1.2.1
  refine lv_aload_n hx hb dX0_keepDraft_0 rfl (lv_at hl 0 rfl) ?_
  refine fa_geti (k := 113) CX HX fl_X0_18 (by omega) rfl rfl dX0_keepDraft_1 ?_
  refine lv_iconst (v := nI (4)) hx hb dX0_keepDraft_4 (by decide) ?_
  have kx_5 : v 113 0 = (0 : Int32) := h0
  refine lv_icmp_ge (tgt := 19) hx hb dX0_keepDraft_5 (by decide) (fun c_5 => ?_) (fun c_5 => ?_)
  · exact absurd c_5 (by rw [kx_5]; try decide)
  · refine lv_aload_n hx hb dX0_keepDraft_8 rfl (lv_at hl 0 rfl) ?_
    refine lv_dup hx hb dX0_keepDraft_9 rfl ?_
    refine fa_geti (k := 113) CX HX fl_X0_18 (by omega) rfl rfl dX0_keepDraft_10 ?_
    refine lv_iconst (v := nI (1)) hx hb dX0_keepDraft_13 (by decide) ?_
    refine lv_iadd hx hb dX0_keepDraft_14 ?_
    refine fa_puti (k := 113) CX HX fl_X0_18 (by omega) rfl rfl rfl rfl dX0_keepDraft_15 (fun H locs v114 e115 HX116 => ?_)
    exact RET _ _ _ _ _ _ HX116 dX0_keepDraft_18 (⟨rfl, (by rw [e115]; exact fa_fr.u fa_fr.rf (by omega))⟩)
set_option maxHeartbeats 4000000 in
set_option maxRecDepth 100000 in
theorem p1_takeLatest (l : Launch) (G : fa_G) (n : Nat) (hn : 397 ≤ n) (v : fa_V) (r : fa_R) (hA : fa_RA r) (hH : ∀ i, i < 5 → r 114 i = some (115 + 56 * i)) (hr1 : fa_RS r 1) (hr57 : fa_RS r 57) (hr115 : fa_RS r 115) (h0 : v 113 0 = 0) : fa_MR l G n yX0_takeLatest cX0_takeLatest 1 (some (.object RX3)) 1 [.ref (fa_B G + (113))] v r (fun x w => w = (v, r) ∧ (x = none)) := by
  refine fa_startR (by decide +kernel) (Nat.le_of_ble_eq_true rfl) (fun p e s m args below meth c ls Q CX hl HX RET => ?_)
  have hl : lv_has ls 1 [(0, .ref (fa_B G + (113)))] := hl
  have hx := CX.1.1
  have hb := CX.1.2.1
  refine lv_aload_n hx hb dX0_takeLatest_0 rfl (lv_at hl 0 rfl) ?_
  refine fa_geti (k := 113) CX HX fl_X0_18 (by omega) rfl rfl dX0_takeLatest_1 ?_
  have kx_4 : v 113 0 = (0 : Int32) := h0
  refine lv_if_ne (tgt := 9) hx hb dX0_takeLatest_4 (by decide) (fun c_4 => ?_) (fun c_4 => ?_)
  · exact absurd (by rw [kx_4]; try decide) c_4
  · refine lv_null hx hb dX0_takeLatest_7 ?_
    exact RET none _ _ _ _ _ _ _ HX dX0_takeLatest_8 rfl (⟨rfl, rfl⟩)
set_option maxHeartbeats 4000000 in
set_option maxRecDepth 100000 in
theorem p1_recorded (l : Launch) (G : fa_G) (n : Nat) (hn : 397 ≤ n) (v : fa_V) (r : fa_R) (hA : fa_RA r) (hH : ∀ i, i < 5 → r 114 i = some (115 + 56 * i)) (hr1 : fa_RS r 1) (hr57 : fa_RS r 57) (hr115 : fa_RS r 115) (a1 : Int32) (h0 : v 113 0 = 0) : fa_MI l G n yX6_recorded cX6_recorded 2 (some .int) 2 [.ref (fa_B G + (0)), .int (a1)] v r (fa_voi r (fun x v1 => (x = a1) ∧ (fa_fr (113) (114) v v1))) := by
  refine fa_startI (by decide +kernel) (Nat.le_of_ble_eq_true rfl) (fun p e s m args below meth c ls Q CX hl HX RET => ?_)
  have hl : lv_has ls 2 [(0, .ref (fa_B G + (0))), (1, .int (a1))] := hl
  have hx := CX.1.1
  have hb := CX.1.2.1
  refine lv_iload_n hx hb dX6_recorded_0 rfl (lv_at hl 1 rfl) ?_
  refine fa_callSip (As := [.int (a1)]) (rest := []) CX HX (c_X6_isError l G n v r (a1)) ln_X6_95 rfl rfl (Nat.le_of_ble_eq_true rfl) hl.1 ⟨Nat.le_of_ble_eq_true rfl, Nat.le_of_ble_eq_true rfl⟩ ⟨Nat.le_refl _, Nat.le_refl _⟩ dX6_recorded_1 (fun x118 H locs h117 HX119 => ?_)
  have h_isError := h117
  refine lv_if_ne (tgt := 14) hx hb dX6_recorded_4 (by decide) (fun c_4 => ?_) (fun c_4 => ?_)
  · refine lv_iload_n hx hb dX6_recorded_14 rfl (lv_at hl 1 rfl) ?_
    exact RET _ _ _ _ _ _ _ HX119 dX6_recorded_15 (⟨rfl, ⟨rfl, fa_fr.rf⟩⟩)
  · refine lv_aload_n hx hb dX6_recorded_7 rfl (lv_at hl 0 rfl) ?_
    refine fa_getr (k := 0) (j := 113) CX HX119 fl_X6_22 (by omega) rfl rfl hA.2.2.1 dX6_recorded_8 ?_
    refine fa_callVvu (As := []) (rest := []) CX HX119 (p1_keepDraft l G n hn v r hA hH hr1 hr57 hr115  h0) ln_X6_106 (by omega) rfl rfl rfl rfl (Nat.le_of_ble_eq_true rfl) hl.1 ⟨Nat.le_of_ble_eq_true rfl, Nat.le_of_ble_eq_true rfl⟩ ⟨Nat.le_refl _, Nat.le_refl _⟩ dX6_recorded_11 (fun v121 H locs h120 HX122 => ?_)
    refine lv_iload_n hx hb dX6_recorded_14 rfl (lv_at hl 1 rfl) ?_
    exact RET _ _ _ _ _ _ _ HX122 dX6_recorded_15 (⟨rfl, ⟨rfl, (fa_fr.tr fa_fr.rf (fa_fr.wide h120 (by omega) (by omega)))⟩⟩)
set_option maxHeartbeats 4000000 in
set_option maxRecDepth 100000 in
theorem p1_askReserved (l : Launch) (G : fa_G) (n : Nat) (hn : 397 ≤ n) (v : fa_V) (r : fa_R) (b : Nat) (hB : b ∈ fa_bs) (hr : fa_RS r b) (h3 : v (b + 2) 0 = 0) : fa_MV l G n yX3_askReserved cX3_askReserved 3 2 [.ref (fa_B G + (b))] v r (fun w => w = (v, r)) := by
  refine fa_startV (by decide +kernel) (Nat.le_of_ble_eq_true rfl) (fun p e s m args below meth c ls Q CX hl HX RET => ?_)
  have hl : lv_has ls 3 [(0, .ref (fa_B G + (b)))] := hl
  have hx := CX.1.1
  have hb := CX.1.2.1
  refine lv_iconst (v := nI (0)) hx hb dX3_askReserved_0 (by decide) ?_
  refine lv_istore_n (lv' := [(1, .int (nI (0))), (0, .ref (fa_B G + (b)))]) hx hb dX3_askReserved_1 rfl hl (by decide) rfl (fun ls hl => ?_)
  refine lv_iload_n hx hb dX3_askReserved_2 rfl (lv_at hl 0 rfl) ?_
  refine lv_bipush (v := nI (8)) hx hb dX3_askReserved_3 (by decide) ?_
  refine lv_icmp_ge (tgt := 72) hx hb dX3_askReserved_5 (by decide) (fun c_5 => ?_) (fun c_5 => ?_)
  · exact absurd c_5 (by try decide)
  · refine lv_aload_n hx hb dX3_askReserved_8 rfl (lv_at hl 1 rfl) ?_
    refine fa_getr (k := b) (j := b + 2) CX HX fl_X3_20 (fa_lt hB 0 (by decide) hn) (fa_s0 hB) rfl hr.2.1 dX3_askReserved_9 ?_
    refine fa_geti (k := b + 2) CX HX fl_X3_124 (fa_lt hB 2 (by decide) hn) (fa_s2 hB) rfl dX3_askReserved_12 ?_
    have kx_15 : v (b + 2) 0 = (0 : Int32) := h3
    refine lv_if_eq (tgt := 34) hx hb dX3_askReserved_15 (by decide) (fun c_15 => ?_) (fun c_15 => ?_)
    · exact RET _ _ _ _ _ _ HX dX3_askReserved_34 (rfl)
    · exact absurd (by rw [kx_15]; try decide) c_15
set_option maxHeartbeats 4000000 in
set_option maxRecDepth 100000 in
theorem p1_markReasons (l : Launch) (G : fa_G) (n : Nat) (hn : 397 ≤ n) (v : fa_V) (r : fa_R) (b : Nat) (hB : b ∈ fa_bs) (hr : fa_RS r b) (h1 : v b 1 = 0) : fa_MV l G n yX3_markReasons cX3_markReasons 2 2 [.ref (fa_B G + (b))] v r (fun w => w = (v, r)) := by
  refine fa_startV (by decide +kernel) (Nat.le_of_ble_eq_true rfl) (fun p e s m args below meth c ls Q CX hl HX RET => ?_)
  have hl : lv_has ls 2 [(0, .ref (fa_B G + (b)))] := hl
  have hx := CX.1.1
  have hb := CX.1.2.1
  refine lv_iconst (v := nI (0)) hx hb dX3_markReasons_0 (by decide) ?_
  refine lv_istore_n (lv' := [(1, .int (nI (0))), (0, .ref (fa_B G + (b)))]) hx hb dX3_markReasons_1 rfl hl (by decide) rfl (fun ls hl => ?_)
  refine lv_iload_n hx hb dX3_markReasons_2 rfl (lv_at hl 0 rfl) ?_
  refine lv_aload_n hx hb dX3_markReasons_3 rfl (lv_at hl 1 rfl) ?_
  refine fa_geti (k := b) CX HX fl_X3_49 (fa_lt hB 0 (by decide) hn) (fa_s0 hB) rfl dX3_markReasons_4 ?_
  have ky_7 : v b 1 = (0 : Int32) := h1
  refine lv_icmp_ge (tgt := 35) hx hb dX3_markReasons_7 (by decide) (fun c_7 => ?_) (fun c_7 => ?_)
  · refine lv_iconst (v := nI (0)) hx hb dX3_markReasons_35 (by decide) ?_
    refine lv_istore_n (lv' := [(1, .int (nI (0))), (0, .ref (fa_B G + (b)))]) hx hb dX3_markReasons_36 rfl hl (by decide) rfl (fun ls hl => ?_)
    refine lv_iload_n hx hb dX3_markReasons_37 rfl (lv_at hl 0 rfl) ?_
    refine lv_aload_n hx hb dX3_markReasons_38 rfl (lv_at hl 1 rfl) ?_
    refine fa_geti (k := b) CX HX fl_X3_49 (fa_lt hB 0 (by decide) hn) (fa_s0 hB) rfl dX3_markReasons_39 ?_
    have ky_42 : v b 1 = (0 : Int32) := h1
    refine lv_icmp_ge (tgt := 86) hx hb dX3_markReasons_42 (by decide) (fun c_42 => ?_) (fun c_42 => ?_)
    · exact RET _ _ _ _ _ _ HX dX3_markReasons_86 (rfl)
    · exact absurd (by rw [ky_42]; try decide) c_42
  · exact absurd (by rw [ky_7]; try decide) c_7
set_option maxHeartbeats 4000000 in
set_option maxRecDepth 100000 in
theorem p1_burnUnmarked (l : Launch) (G : fa_G) (n : Nat) (hn : 397 ≤ n) (v : fa_V) (r : fa_R) (b : Nat) (hB : b ∈ fa_bs) (hr : fa_RS r b) (h1 : v b 1 = 0) : fa_MI l G n yX3_burnUnmarked cX3_burnUnmarked 5 (some .int) 2 [.ref (fa_B G + (b))] v r (fa_voi r (fun x v1 => (x = nI 0 ∧ ∀ i, ¬ i = 7 → v1 b i = v b i) ∧ (fa_fr (b) (b + 1) v v1))) := by
  refine fa_startI (by decide +kernel) (Nat.le_of_ble_eq_true rfl) (fun p e s m args below meth c ls Q CX hl HX RET => ?_)
  have hl : lv_has ls 5 [(0, .ref (fa_B G + (b)))] := hl
  have hx := CX.1.1
  have hb := CX.1.2.1
  refine lv_aload_n hx hb dX3_burnUnmarked_0 rfl (lv_at hl 0 rfl) ?_
  refine lv_dup hx hb dX3_burnUnmarked_1 rfl ?_
  refine fa_geti (k := b) CX HX fl_X3_67 (fa_lt hB 0 (by decide) hn) (fa_s0 hB) rfl dX3_burnUnmarked_2 ?_
  refine lv_iconst (v := nI (1)) hx hb dX3_burnUnmarked_5 (by decide) ?_
  refine lv_iadd hx hb dX3_burnUnmarked_6 ?_
  refine fa_puti (k := b) CX HX fl_X3_67 (fa_lt hB 0 (by decide) hn) (fa_s0 hB) rfl rfl rfl dX3_burnUnmarked_7 (fun H locs v123 e124 HX125 => ?_)
  refine lv_aload_n hx hb dX3_burnUnmarked_10 rfl (lv_at hl 0 rfl) ?_
  refine fa_geti (k := b) CX HX125 fl_X3_49 (fa_lt hB 0 (by decide) hn) (fa_s0 hB) rfl dX3_burnUnmarked_11 ?_
  refine lv_istore_n (lv' := [(1, .int (v123 b 1)), (0, .ref (fa_B G + (b)))]) hx hb dX3_burnUnmarked_14 rfl hl (by decide) rfl (fun ls hl => ?_)
  refine lv_iconst (v := nI (0)) hx hb dX3_burnUnmarked_15 (by decide) ?_
  refine lv_istore_n (lv' := [(2, .int (nI (0))), (1, .int (v123 b 1)), (0, .ref (fa_B G + (b)))]) hx hb dX3_burnUnmarked_16 rfl hl (by decide) rfl (fun ls hl => ?_)
  refine lv_iconst (v := nI (0)) hx hb dX3_burnUnmarked_17 (by decide) ?_
  refine lv_istore_n (lv' := [(3, .int (nI (0))), (2, .int (nI (0))), (1, .int (v123 b 1)), (0, .ref (fa_B G + (b)))]) hx hb dX3_burnUnmarked_18 rfl hl (by decide) rfl (fun ls hl => ?_)
  refine lv_iload_n hx hb dX3_burnUnmarked_19 rfl (lv_at hl 0 rfl) ?_
  refine lv_iload_n hx hb dX3_burnUnmarked_20 rfl (lv_at hl 2 rfl) ?_
  have ky_21 : v123 b 1 = (0 : Int32) := (by simp [h1, e124, fa_u] <;> rfl)
  refine lv_icmp_ge (tgt := 109) hx hb dX3_burnUnmarked_21 (by decide) (fun c_21 => ?_) (fun c_21 => ?_)
  · refine lv_aload_n hx hb dX3_burnUnmarked_109 rfl (lv_at hl 3 rfl) ?_
    refine lv_iload_n hx hb dX3_burnUnmarked_110 rfl (lv_at hl 1 rfl) ?_
    refine fa_puti (k := b) CX HX125 fl_X3_49 (fa_lt hB 0 (by decide) hn) (fa_s0 hB) rfl rfl rfl dX3_burnUnmarked_111 (fun H locs v126 e127 HX128 => ?_)
    refine lv_iload_n hx hb dX3_burnUnmarked_114 rfl (lv_at hl 2 rfl) ?_
    refine lv_iload_n hx hb dX3_burnUnmarked_115 rfl (lv_at hl 1 rfl) ?_
    refine lv_isub hx hb dX3_burnUnmarked_116 ?_
    exact RET _ _ _ _ _ _ _ HX128 dX3_burnUnmarked_117 (⟨rfl, ⟨⟨by rw [show v123 b 1 = nI 0 from by simp [e124, fa_u, h1]; rfl]; decide, fun i hi => by (show v126 b i = v b i; rw [e127]; by_cases q : i = 1; (rw [q, fa_u_s, h1]; rfl); rw [fa_u_n _ _ (fun z => q z.2), e124, fa_u_n _ _ (fun z => hi z.2)])⟩, (by rw [e127]; exact fa_fr.u (by rw [e124]; exact fa_fr.u fa_fr.rf (by omega)) (by omega))⟩⟩)
  · exact absurd (by rw [ky_21]; try decide) c_21
set_option maxHeartbeats 4000000 in
set_option maxRecDepth 100000 in
theorem p1_passDay (l : Launch) (G : fa_G) (n : Nat) (hn : 397 ≤ n) (v : fa_V) (r : fa_R) (b : Nat) (hB : b ∈ fa_bs) (hr : fa_RS r b) (h1 : v b 1 = 0) (h3 : v (b + 2) 0 = 0) : fa_MI l G n yX3_passDay cX3_passDay 1 (some .int) 3 [.ref (fa_B G + (b))] v r (fa_voi r (fun x v1 => (x = nI 0 ∧ ∀ i, ¬ i = 0 → ¬ i = 7 → v1 b i = v b i) ∧ (fa_fr (b) (b + 1) v v1))) := by
  refine fa_startI (by decide +kernel) (Nat.le_of_ble_eq_true rfl) (fun p e s m args below meth c ls Q CX hl HX RET => ?_)
  have hl : lv_has ls 1 [(0, .ref (fa_B G + (b)))] := hl
  have hx := CX.1.1
  have hb := CX.1.2.1
  refine lv_aload_n hx hb dX3_passDay_0 rfl (lv_at hl 0 rfl) ?_
  refine lv_dup hx hb dX3_passDay_1 rfl ?_
  refine fa_geti (k := b) CX HX fl_X3_45 (fa_lt hB 0 (by decide) hn) (fa_s0 hB) rfl dX3_passDay_2 ?_
  refine lv_iconst (v := nI (1)) hx hb dX3_passDay_5 (by decide) ?_
  refine lv_iadd hx hb dX3_passDay_6 ?_
  refine fa_puti (k := b) CX HX fl_X3_45 (fa_lt hB 0 (by decide) hn) (fa_s0 hB) rfl rfl rfl dX3_passDay_7 (fun H locs v129 e130 HX131 => ?_)
  refine lv_aload_n hx hb dX3_passDay_10 rfl (lv_at hl 0 rfl) ?_
  refine fa_callVvp (As := []) (rest := []) CX HX131 (p1_askReserved l G n hn v129 r b hB hr  (by rw [show v129 (b + 2) 0 = (0 : Int32) by simp [h3, e130, fa_u]]; try rfl)) ln_X3_147 (fa_lt hB 0 (by decide) hn) (fa_s0 hB) rfl rfl rfl (Nat.le_of_ble_eq_true rfl) hl.1 ⟨Nat.le_of_ble_eq_true rfl, Nat.le_of_ble_eq_true rfl⟩ ⟨Nat.le_refl _, Nat.le_refl _⟩ dX3_passDay_11 (fun H locs h132 HX133 => ?_)
  refine lv_aload_n hx hb dX3_passDay_14 rfl (lv_at hl 0 rfl) ?_
  refine fa_geti (k := b) CX HX133 fl_X3_45 (fa_lt hB 0 (by decide) hn) (fa_s0 hB) rfl dX3_passDay_15 ?_
  refine lv_bipush (v := nI (90)) hx hb dX3_passDay_18 (by decide) ?_
  refine lv_irem hx hb dX3_passDay_20 (by decide) ?_
  refine lv_if_eq (tgt := 26) hx hb dX3_passDay_21 (by decide) (fun c_21 => ?_) (fun c_21 => ?_)
  · refine lv_aload_n hx hb dX3_passDay_26 rfl (lv_at hl 0 rfl) ?_
    refine fa_callVvp (As := []) (rest := []) CX HX133 (p1_markReasons l G n hn v129 r b hB hr  (by rw [show v129 b 1 = (0 : Int32) by simp [h1, e130, fa_u]]; try rfl)) ln_X3_150 (fa_lt hB 0 (by decide) hn) (fa_s0 hB) rfl rfl rfl (Nat.le_of_ble_eq_true rfl) hl.1 ⟨Nat.le_of_ble_eq_true rfl, Nat.le_of_ble_eq_true rfl⟩ ⟨Nat.le_refl _, Nat.le_refl _⟩ dX3_passDay_27 (fun H locs h134 HX135 => ?_)
    refine lv_aload_n hx hb dX3_passDay_30 rfl (lv_at hl 0 rfl) ?_
    refine fa_callViu (As := []) (rest := []) CX HX135 (p1_burnUnmarked l G n hn v129 r b hB hr  (by rw [show v129 b 1 = (0 : Int32) by simp [h1, e130, fa_u]]; try rfl)) ln_X3_153 (fa_lt hB 0 (by decide) hn) (fa_s0 hB) rfl rfl rfl (Nat.le_of_ble_eq_true rfl) hl.1 ⟨Nat.le_of_ble_eq_true rfl, Nat.le_of_ble_eq_true rfl⟩ ⟨Nat.le_refl _, Nat.le_refl _⟩ dX3_passDay_31 (fun x137 v138 H locs h136 HX139 => ?_)
    have h_bu := h136.1
    exact RET _ _ _ _ _ _ _ HX139 dX3_passDay_34 (⟨rfl, ⟨⟨h_bu.1, fun i h0 h7 => by (show v138 b i = v b i; rw [h_bu.2 i h7, e130, fa_u_n _ _ (fun z => h0 z.2)])⟩, (fa_fr.tr (by rw [e130]; exact fa_fr.u fa_fr.rf (by omega)) (fa_fr.wide h136.2 (by omega) (by omega)))⟩⟩)
  · refine lv_iconst (v := nI (0)) hx hb dX3_passDay_24 (by decide) ?_
    exact RET _ _ _ _ _ _ _ HX133 dX3_passDay_25 (⟨rfl, ⟨⟨rfl, fun i h0 h7 => by (show v129 b i = v b i; rw [e130, fa_u_n _ _ (fun z => h0 z.2)])⟩, (by rw [e130]; exact fa_fr.u fa_fr.rf (by omega))⟩⟩)
