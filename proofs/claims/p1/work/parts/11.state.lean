set_option maxHeartbeats 4000000 in
set_option maxRecDepth 100000 in
theorem p1_comeAs (l : Launch) (G : fa_G) (n : Nat) (hn : 397 ≤ n) (v : fa_V) (r : fa_R) (b : Nat) (hB : b ∈ fa_bs) (hr : fa_RS r b) (j : Nat) (h_j : j < 24) (a1 a2 a3 a4 : Int32) : fa_MV l G n yX4_comeAs cX4_comeAs 5 2 [.ref (fa_B G + (b + 8 + 2 * j)), .int (a1), .int (a2), .int (a3), .int (a4)] v r (fa_vo r (fun v1 => (fa_fr (b + 8) (b + 56) v v1))) := by
  refine fa_startV (by decide +kernel) (Nat.le_of_ble_eq_true rfl) (fun p e s m args below meth c ls Q CX hl HX RET => ?_)
  have hl : lv_has ls 5 [(0, .ref (fa_B G + (b + 8 + 2 * j))), (1, .int (a1)), (2, .int (a2)), (3, .int (a3)), (4, .int (a4))] := hl
  have hx := CX.1.1
  have hb := CX.1.2.1
  refine lv_aload_n hx hb dX4_comeAs_0 rfl (lv_at hl 0 rfl) ?_
  refine lv_iload_n hx hb dX4_comeAs_1 rfl (lv_at hl 1 rfl) ?_
  refine fa_puti (k := b + 8 + 2 * j) CX HX fl_X4_15 (fa_ltf hB h_j hn) (fa_sf hB h_j) rfl rfl rfl dX4_comeAs_2 (fun H locs v6 e7 HX8 => ?_)
  refine lv_aload_n hx hb dX4_comeAs_5 rfl (lv_at hl 0 rfl) ?_
  refine lv_iload_n hx hb dX4_comeAs_6 rfl (lv_at hl 2 rfl) ?_
  refine fa_puti (k := b + 8 + 2 * j) CX HX8 fl_X4_19 (fa_ltf hB h_j hn) (fa_sf hB h_j) rfl rfl rfl dX4_comeAs_7 (fun H locs v9 e10 HX11 => ?_)
  refine lv_aload_n hx hb dX4_comeAs_10 rfl (lv_at hl 0 rfl) ?_
  refine lv_iload_n hx hb dX4_comeAs_11 rfl (lv_at hl 3 rfl) ?_
  refine fa_puti (k := b + 8 + 2 * j) CX HX11 fl_X4_22 (fa_ltf hB h_j hn) (fa_sf hB h_j) rfl rfl rfl dX4_comeAs_12 (fun H locs v12 e13 HX14 => ?_)
  refine lv_aload_n hx hb dX4_comeAs_15 rfl (lv_at hl 0 rfl) ?_
  refine lv_iload hx hb dX4_comeAs_16 (lv_at hl 4 rfl) ?_
  refine fa_puti (k := b + 8 + 2 * j) CX HX14 fl_X4_25 (fa_ltf hB h_j hn) (fa_sf hB h_j) rfl rfl rfl dX4_comeAs_18 (fun H locs v15 e16 HX17 => ?_)
  refine lv_aload_n hx hb dX4_comeAs_21 rfl (lv_at hl 0 rfl) ?_
  refine lv_bipush (v := (-6 : Int32)) hx hb dX4_comeAs_22 (by decide) ?_
  refine fa_puti (k := b + 8 + 2 * j) CX HX17 fl_X4_28 (fa_ltf hB h_j hn) (fa_sf hB h_j) rfl rfl rfl dX4_comeAs_24 (fun H locs v18 e19 HX20 => ?_)
  refine lv_aload_n hx hb dX4_comeAs_27 rfl (lv_at hl 0 rfl) ?_
  refine lv_iconst (v := nI (0)) hx hb dX4_comeAs_28 (by decide) ?_
  refine fa_puti (k := b + 8 + 2 * j) CX HX20 fl_X4_31 (fa_ltf hB h_j hn) (fa_sf hB h_j) rfl rfl rfl dX4_comeAs_29 (fun H locs v21 e22 HX23 => ?_)
  refine lv_aload_n hx hb dX4_comeAs_32 rfl (lv_at hl 0 rfl) ?_
  refine lv_bipush (v := (-6 : Int32)) hx hb dX4_comeAs_33 (by decide) ?_
  refine fa_puti (k := b + 8 + 2 * j) CX HX23 fl_X4_34 (fa_ltf hB h_j hn) (fa_sf hB h_j) rfl rfl rfl dX4_comeAs_35 (fun H locs v24 e25 HX26 => ?_)
  refine lv_aload_n hx hb dX4_comeAs_38 rfl (lv_at hl 0 rfl) ?_
  refine fa_getr (k := b + 8 + 2 * j) (j := b + 9 + 2 * j) CX HX26 fl_X4_9 (fa_ltf hB h_j hn) (fa_sf hB h_j) rfl (hr.2.2.2.2.2.2.2.2 j h_j) dX4_comeAs_39 ?_
  refine lv_iconst (v := (-1 : Int32)) hx hb dX4_comeAs_42 (by decide) ?_
  refine fa_callSvu (As := [.ref (fa_B G + (b + 9 + 2 * j)), .int ((-1 : Int32))]) (rest := []) CX HX26 (c_J7_fill_53178 l G n v24 r (b + 9 + 2 * j) 8 (fa_lte hB h_j hn) (fa_se hB h_j) (by decide) ((-1 : Int32))) ln_X4_37 rfl rfl (Nat.le_of_ble_eq_true rfl) hl.1 ⟨Nat.le_of_ble_eq_true rfl, Nat.le_of_ble_eq_true rfl⟩ ⟨Nat.le_refl _, Nat.le_refl _⟩ dX4_comeAs_43 (fun v28 H locs h27 HX29 => ?_)
  exact RET _ _ _ _ _ _ HX29 dX4_comeAs_46 (⟨rfl, (fa_fr.tr (by rw [e25]; exact fa_fr.u (by rw [e22]; exact fa_fr.u (by rw [e19]; exact fa_fr.u (by rw [e16]; exact fa_fr.u (by rw [e13]; exact fa_fr.u (by rw [e10]; exact fa_fr.u (by rw [e7]; exact fa_fr.u fa_fr.rf (by omega)) (by omega)) (by omega)) (by omega)) (by omega)) (by omega)) (by omega)) (fa_fr.wide h27.2 (by omega) (by omega)))⟩)
set_option maxHeartbeats 4000000 in
set_option maxRecDepth 100000 in
theorem p1_addFile (l : Launch) (G : fa_G) (n : Nat) (hn : 397 ≤ n) (v : fa_V) (r : fa_R) (b : Nat) (hB : b ∈ fa_bs) (hr : fa_RS r b) (a1 a2 : Int32) (h1 : v b 1 = 0) (h2 : v b 2 = 0) (h4 : v (b + 7) 6 = nI 300) : fa_MI l G n yX3_addFile cX3_addFile 3 (some .int) 3 [.ref (fa_B G + (b)), .int (a1), .int (a2)] v r (fa_voi r (fun x v1 => (x = if a1 < 0 ∨ nI 4 < a1 ∨ a2 < nI 1 ∨ ¬ a2 ≤ nI 50 then (-2 : Int32) else nI 0) ∧ (fa_fr (b) (b + 56) v v1))) := by
  refine fa_startI (by decide +kernel) (Nat.le_of_ble_eq_true rfl) (fun p e s m args below meth c ls Q CX hl HX RET => ?_)
  have hl : lv_has ls 3 [(0, .ref (fa_B G + (b))), (1, .int (a1)), (2, .int (a2))] := hl
  have hx := CX.1.1
  have hb := CX.1.2.1
  refine lv_iload_n hx hb dX3_addFile_0 rfl (lv_at hl 1 rfl) ?_
  refine lv_if_lt (tgt := 20) hx hb dX3_addFile_1 (by decide) (fun c_1 => ?_) (fun c_1 => ?_)
  · refine lv_bipush (v := (-2 : Int32)) hx hb dX3_addFile_20 (by decide) ?_
    exact RET _ _ _ _ _ _ _ HX dX3_addFile_22 (⟨rfl, ⟨(by simp [c_1]), fa_fr.rf⟩⟩)
  · refine lv_iload_n hx hb dX3_addFile_4 rfl (lv_at hl 1 rfl) ?_
    refine lv_iconst (v := nI (4)) hx hb dX3_addFile_5 (by decide) ?_
    refine lv_icmp_gt (tgt := 20) hx hb dX3_addFile_6 (by decide) (fun c_6 => ?_) (fun c_6 => ?_)
    · refine lv_bipush (v := (-2 : Int32)) hx hb dX3_addFile_20 (by decide) ?_
      exact RET _ _ _ _ _ _ _ HX dX3_addFile_22 (⟨rfl, ⟨(by simp [c_1, c_6]), fa_fr.rf⟩⟩)
    · refine lv_iload_n hx hb dX3_addFile_9 rfl (lv_at hl 2 rfl) ?_
      refine lv_iconst (v := nI (1)) hx hb dX3_addFile_10 (by decide) ?_
      refine lv_icmp_lt (tgt := 20) hx hb dX3_addFile_11 (by decide) (fun c_11 => ?_) (fun c_11 => ?_)
      · refine lv_bipush (v := (-2 : Int32)) hx hb dX3_addFile_20 (by decide) ?_
        exact RET _ _ _ _ _ _ _ HX dX3_addFile_22 (⟨rfl, ⟨(by simp [c_1, c_6, c_11]), fa_fr.rf⟩⟩)
      · refine lv_iload_n hx hb dX3_addFile_14 rfl (lv_at hl 2 rfl) ?_
        refine lv_bipush (v := nI (50)) hx hb dX3_addFile_15 (by decide) ?_
        refine lv_icmp_le (tgt := 23) hx hb dX3_addFile_17 (by decide) (fun c_17 => ?_) (fun c_17 => ?_)
        · refine lv_aload_n hx hb dX3_addFile_23 rfl (lv_at hl 0 rfl) ?_
          refine fa_geti (k := b) CX HX fl_X3_49 (fa_lt hB 0 (by decide) hn) (fa_s0 hB) rfl dX3_addFile_24 ?_
          refine lv_bipush (v := nI (24)) hx hb dX3_addFile_27 (by decide) ?_
          have kx_29 : v b 1 = (0 : Int32) := h1
          refine lv_icmp_ge (tgt := 58) hx hb dX3_addFile_29 (by decide) (fun c_29 => ?_) (fun c_29 => ?_)
          · exact absurd c_29 (by rw [kx_29]; try decide)
          · refine lv_aload_n hx hb dX3_addFile_32 rfl (lv_at hl 0 rfl) ?_
            refine fa_geti (k := b) CX HX fl_X3_52 (fa_lt hB 0 (by decide) hn) (fa_s0 hB) rfl dX3_addFile_33 ?_
            refine lv_sipush (v := nI (200)) hx hb dX3_addFile_36 (by decide) ?_
            have kx_39 : v b 2 = (0 : Int32) := h2
            refine lv_icmp_ge (tgt := 58) hx hb dX3_addFile_39 (by decide) (fun c_39 => ?_) (fun c_39 => ?_)
            · exact absurd c_39 (by rw [kx_39]; try decide)
            · refine lv_aload_n hx hb dX3_addFile_42 rfl (lv_at hl 0 rfl) ?_
              refine fa_callVip (As := []) (rest := []) CX HX (p1_storedPages l G n hn v r b hB hr  h1) ln_X3_80 (fa_lt hB 0 (by decide) hn) (fa_s0 hB) rfl rfl rfl (Nat.le_of_ble_eq_true rfl) hl.1 ⟨Nat.le_of_ble_eq_true rfl, Nat.le_of_ble_eq_true rfl⟩ ⟨Nat.le_refl _, Nat.le_refl _⟩ dX3_addFile_43 (fun x31 H locs h30 HX32 => ?_)
              have h_sp := h30
              refine lv_iload_n hx hb dX3_addFile_46 rfl (lv_at hl 2 rfl) ?_
              refine lv_iadd hx hb dX3_addFile_47 ?_
              refine lv_aload_n hx hb dX3_addFile_48 rfl (lv_at hl 0 rfl) ?_
              refine fa_getr (k := b) (j := b + 7) CX HX32 fl_X3_31 (fa_lt hB 0 (by decide) hn) (fa_s0 hB) rfl hr.2.2.2.1 dX3_addFile_49 ?_
              refine lv_bipush (v := nI (6)) hx hb dX3_addFile_52 (by decide) ?_
              refine fa_iald (k := b + 7) (j := 6) CX HX32 (fa_lt hB 7 (by decide) hn) (fa_s7 hB) (by omega) (by first | decide | assumption) dX3_addFile_54 ?_
              refine lv_icmp_le (tgt := 61) hx hb dX3_addFile_55 (by decide) (fun c_55 => ?_) (fun c_55 => ?_)
              · refine lv_aload_n hx hb dX3_addFile_61 rfl (lv_at hl 0 rfl) ?_
                refine fa_getr (k := b) (j := b + 1) CX HX32 fl_X3_11 (fa_lt hB 0 (by decide) hn) (fa_s0 hB) rfl hr.1 dX3_addFile_62 ?_
                refine lv_aload_n hx hb dX3_addFile_65 rfl (lv_at hl 0 rfl) ?_
                refine fa_geti (k := b) CX HX32 fl_X3_49 (fa_lt hB 0 (by decide) hn) (fa_s0 hB) rfl dX3_addFile_66 ?_
                obtain ⟨j0, h_j0, ej0⟩ := hr.2.2.2.2.2.2.2.1 0 (by decide)
                rw [show v b 1 = nI (0) from h1]
                refine fa_aald (k := b + 1) (j := 0) (q := b + 8 + 2 * j0) CX HX32 (fa_lt hB 1 (by decide) hn) (fa_s1 hB) rfl (by decide) (by omega) (by first | decide | assumption) ej0 dX3_addFile_69 ?_
                refine lv_aload_n hx hb dX3_addFile_70 rfl (lv_at hl 0 rfl) ?_
                refine fa_geti (k := b) CX HX32 fl_X3_52 (fa_lt hB 0 (by decide) hn) (fa_s0 hB) rfl dX3_addFile_71 ?_
                refine lv_iload_n hx hb dX3_addFile_74 rfl (lv_at hl 1 rfl) ?_
                refine lv_iload_n hx hb dX3_addFile_75 rfl (lv_at hl 2 rfl) ?_
                refine lv_aload_n hx hb dX3_addFile_76 rfl (lv_at hl 0 rfl) ?_
                refine fa_geti (k := b) CX HX32 fl_X3_45 (fa_lt hB 0 (by decide) hn) (fa_s0 hB) rfl dX3_addFile_77 ?_
                refine fa_callVvu (As := [.int (v b 2), .int (a1), .int (a2), .int (v b 0)]) (rest := []) CX HX32 (p1_comeAs l G n hn v r b hB hr j0 h_j0 (v b 2) (a1) (a2) (v b 0)) ln_X3_84 (fa_ltf hB h_j0 hn) (fa_sf hB h_j0) rfl rfl rfl (Nat.le_of_ble_eq_true rfl) hl.1 ⟨Nat.le_of_ble_eq_true rfl, Nat.le_of_ble_eq_true rfl⟩ ⟨Nat.le_refl _, Nat.le_refl _⟩ dX3_addFile_80 (fun v34 H locs h33 HX35 => ?_)
                refine lv_aload_n hx hb dX3_addFile_83 rfl (lv_at hl 0 rfl) ?_
                refine lv_dup hx hb dX3_addFile_84 rfl ?_
                refine fa_geti (k := b) CX HX35 fl_X3_49 (fa_lt hB 0 (by decide) hn) (fa_s0 hB) rfl dX3_addFile_85 ?_
                refine lv_iconst (v := nI (1)) hx hb dX3_addFile_88 (by decide) ?_
                refine lv_iadd hx hb dX3_addFile_89 ?_
                refine fa_puti (k := b) CX HX35 fl_X3_49 (fa_lt hB 0 (by decide) hn) (fa_s0 hB) rfl rfl rfl dX3_addFile_90 (fun H locs v36 e37 HX38 => ?_)
                refine lv_aload_n hx hb dX3_addFile_93 rfl (lv_at hl 0 rfl) ?_
                refine lv_dup hx hb dX3_addFile_94 rfl ?_
                refine fa_geti (k := b) CX HX38 fl_X3_52 (fa_lt hB 0 (by decide) hn) (fa_s0 hB) rfl dX3_addFile_95 ?_
                refine lv_iconst (v := nI (1)) hx hb dX3_addFile_98 (by decide) ?_
                refine lv_iadd hx hb dX3_addFile_99 ?_
                refine fa_puti (k := b) CX HX38 fl_X3_52 (fa_lt hB 0 (by decide) hn) (fa_s0 hB) rfl rfl rfl dX3_addFile_100 (fun H locs v39 e40 HX41 => ?_)
                refine lv_aload_n hx hb dX3_addFile_103 rfl (lv_at hl 0 rfl) ?_
                refine fa_geti (k := b) CX HX41 fl_X3_52 (fa_lt hB 0 (by decide) hn) (fa_s0 hB) rfl dX3_addFile_104 ?_
                refine lv_iconst (v := nI (1)) hx hb dX3_addFile_107 (by decide) ?_
                refine lv_isub hx hb dX3_addFile_108 ?_
                exact RET _ _ _ _ _ _ _ HX41 dX3_addFile_109 (⟨rfl, ⟨(by (have z : (v39 b 2) - (nI (1)) = nI 0 := (by simp [h2, h33 b (by omega), e37, fa_u, e40, fa_u]; try rfl)); rw [z, if_neg (by simp [c_1, c_6, c_11, c_17])]), (by rw [e40]; exact fa_fr.u (by rw [e37]; exact fa_fr.u (fa_fr.tr fa_fr.rf (fa_fr.wide h33 (by omega) (by omega))) (by omega)) (by omega))⟩⟩)
              · exact absurd (by rw [h_sp, h4]; exact fa_add300 c_17) c_55
        · refine lv_bipush (v := (-2 : Int32)) hx hb dX3_addFile_20 (by decide) ?_
          exact RET _ _ _ _ _ _ _ HX dX3_addFile_22 (⟨rfl, ⟨(by simp [c_1, c_6, c_11, c_17]), fa_fr.rf⟩⟩)
set_option maxHeartbeats 4000000 in
set_option maxRecDepth 100000 in
theorem p1_askFor (l : Launch) (G : fa_G) (n : Nat) (hn : 397 ≤ n) (v : fa_V) (r : fa_R) (b : Nat) (hB : b ∈ fa_bs) (hr : fa_RS r b) (a1 : Int32) (h2 : v b 2 = 0) : fa_MI l G n yX3_askFor cX3_askFor 3 (some .int) 1 [.ref (fa_B G + (b)), .int (a1)] v r (fun x w => w = (v, r) ∧ (x = (-1 : Int32))) := by
  refine fa_startI (by decide +kernel) (Nat.le_of_ble_eq_true rfl) (fun p e s m args below meth c ls Q CX hl HX RET => ?_)
  have hl : lv_has ls 3 [(0, .ref (fa_B G + (b))), (1, .int (a1))] := hl
  have hx := CX.1.1
  have hb := CX.1.2.1
  refine lv_iload_n hx hb dX3_askFor_0 rfl (lv_at hl 1 rfl) ?_
  refine lv_if_lt (tgt := 12) hx hb dX3_askFor_1 (by decide) (fun c_1 => ?_) (fun c_1 => ?_)
  · refine lv_iconst (v := (-1 : Int32)) hx hb dX3_askFor_12 (by decide) ?_
    exact RET _ _ _ _ _ _ _ HX dX3_askFor_13 (⟨rfl, rfl⟩)
  · refine lv_iload_n hx hb dX3_askFor_4 rfl (lv_at hl 1 rfl) ?_
    refine lv_aload_n hx hb dX3_askFor_5 rfl (lv_at hl 0 rfl) ?_
    refine fa_geti (k := b) CX HX fl_X3_52 (fa_lt hB 0 (by decide) hn) (fa_s0 hB) rfl dX3_askFor_6 ?_
    refine lv_icmp_lt (tgt := 14) hx hb dX3_askFor_9 (by decide) (fun c_9 => ?_) (fun c_9 => ?_)
    · rw [h2] at c_9; exact absurd c_9 c_1
    · refine lv_iconst (v := (-1 : Int32)) hx hb dX3_askFor_12 (by decide) ?_
      exact RET _ _ _ _ _ _ _ HX dX3_askFor_13 (⟨rfl, rfl⟩)
set_option maxHeartbeats 4000000 in
set_option maxRecDepth 100000 in
theorem p1_putSeal (l : Launch) (G : fa_G) (n : Nat) (hn : 397 ≤ n) (v : fa_V) (r : fa_R) (b : Nat) (hB : b ∈ fa_bs) (hr : fa_RS r b) (a1 a2 a3 : Int32) (h1 : v b 1 = 0) : fa_MI l G n yX3_putSeal cX3_putSeal 5 (some .int) 2 [.ref (fa_B G + (b)), .int (a1), .int (a2), .int (a3)] v r (fun x w => w = (v, r) ∧ (x = (-1 : Int32))) := by
  refine fa_startI (by decide +kernel) (Nat.le_of_ble_eq_true rfl) (fun p e s m args below meth c ls Q CX hl HX RET => ?_)
  have hl : lv_has ls 5 [(0, .ref (fa_B G + (b))), (1, .int (a1)), (2, .int (a2)), (3, .int (a3))] := hl
  have hx := CX.1.1
  have hb := CX.1.2.1
  refine lv_aload_n hx hb dX3_putSeal_0 rfl (lv_at hl 0 rfl) ?_
  refine lv_iload_n hx hb dX3_putSeal_1 rfl (lv_at hl 2 rfl) ?_
  refine fa_callVrp (As := [.int (a2)]) (rest := []) CX HX (p1_find l G n hn v r b hB hr (a2) h1) ln_X3_88 (fa_lt hB 0 (by decide) hn) (fa_s0 hB) rfl rfl rfl (Nat.le_of_ble_eq_true rfl) hl.1 ⟨Nat.le_of_ble_eq_true rfl, Nat.le_of_ble_eq_true rfl⟩ ⟨Nat.le_refl _, Nat.le_refl _⟩ dX3_putSeal_2 (fun H locs h42 HX43 => ?_) (fun q44 H locs h42 HX43 => ?_)
  · refine lv_astoreN (lv' := [(4, .null), (0, .ref (fa_B G + (b))), (1, .int (a1)), (2, .int (a2)), (3, .int (a3))]) hx hb dX3_putSeal_5 hl (by decide) rfl (fun ls hl => ?_)
    refine lv_iload_n hx hb dX3_putSeal_7 rfl (lv_at hl 2 rfl) ?_
    refine fa_callSNip (As := [.int (a1)]) (rest := []) CX HX43 (c_X6_isNoHolder l G n v r (a1)) (by decide +kernel) ln_X3_98 rfl rfl (Nat.le_of_ble_eq_true rfl) hl.1 ⟨Nat.le_of_ble_eq_true rfl, Nat.le_of_ble_eq_true rfl⟩ ⟨Nat.le_refl _, Nat.le_refl _⟩ dX3_putSeal_8 (fun x46 H locs h45 HX47 => ?_)
    have h_isNoHolder := h45
    refine lv_if_ne (tgt := 19) hx hb dX3_putSeal_11 (by decide) (fun c_11 => ?_) (fun c_11 => ?_)
    · refine lv_iconst (v := (-1 : Int32)) hx hb dX3_putSeal_19 (by decide) ?_
      exact RET _ _ _ _ _ _ _ HX47 dX3_putSeal_20 (⟨rfl, rfl⟩)
    · refine lv_aloadN hx hb dX3_putSeal_14 (lv_at hl 0 rfl) ?_
      refine lv_ifnonnullN hx hb dX3_putSeal_16 ?_
      refine lv_iconst (v := (-1 : Int32)) hx hb dX3_putSeal_19 (by decide) ?_
      exact RET _ _ _ _ _ _ _ HX47 dX3_putSeal_20 (⟨rfl, rfl⟩)
  · cases h42
set_option maxHeartbeats 4000000 in
set_option maxRecDepth 100000 in
theorem p1_takeSeal (l : Launch) (G : fa_G) (n : Nat) (hn : 397 ≤ n) (v : fa_V) (r : fa_R) (b : Nat) (hB : b ∈ fa_bs) (hr : fa_RS r b) (a1 a2 : Int32) (h1 : v b 1 = 0) : fa_MI l G n yX3_takeSeal cX3_takeSeal 4 (some .int) 2 [.ref (fa_B G + (b)), .int (a1), .int (a2)] v r (fun x w => w = (v, r) ∧ (x = (-1 : Int32))) := by
  refine fa_startI (by decide +kernel) (Nat.le_of_ble_eq_true rfl) (fun p e s m args below meth c ls Q CX hl HX RET => ?_)
  have hl : lv_has ls 4 [(0, .ref (fa_B G + (b))), (1, .int (a1)), (2, .int (a2))] := hl
  have hx := CX.1.1
  have hb := CX.1.2.1
  refine lv_aload_n hx hb dX3_takeSeal_0 rfl (lv_at hl 0 rfl) ?_
  refine lv_iload_n hx hb dX3_takeSeal_1 rfl (lv_at hl 2 rfl) ?_
  refine fa_callVrp (As := [.int (a2)]) (rest := []) CX HX (p1_find l G n hn v r b hB hr (a2) h1) ln_X3_88 (fa_lt hB 0 (by decide) hn) (fa_s0 hB) rfl rfl rfl (Nat.le_of_ble_eq_true rfl) hl.1 ⟨Nat.le_of_ble_eq_true rfl, Nat.le_of_ble_eq_true rfl⟩ ⟨Nat.le_refl _, Nat.le_refl _⟩ dX3_takeSeal_2 (fun H locs h48 HX49 => ?_) (fun q50 H locs h48 HX49 => ?_)
  · refine lv_astore_nN (lv' := [(3, .null), (0, .ref (fa_B G + (b))), (1, .int (a1)), (2, .int (a2))]) hx hb dX3_takeSeal_5 rfl hl (by decide) rfl (fun ls hl => ?_)
    refine lv_iload_n hx hb dX3_takeSeal_6 rfl (lv_at hl 2 rfl) ?_
    refine fa_callSNip (As := [.int (a1)]) (rest := []) CX HX49 (c_X6_isNoHolder l G n v r (a1)) (by decide +kernel) ln_X3_98 rfl rfl (Nat.le_of_ble_eq_true rfl) hl.1 ⟨Nat.le_of_ble_eq_true rfl, Nat.le_of_ble_eq_true rfl⟩ ⟨Nat.le_refl _, Nat.le_refl _⟩ dX3_takeSeal_7 (fun x52 H locs h51 HX53 => ?_)
    have h_isNoHolder := h51
    refine lv_if_ne (tgt := 27) hx hb dX3_takeSeal_10 (by decide) (fun c_10 => ?_) (fun c_10 => ?_)
    · refine lv_iconst (v := (-1 : Int32)) hx hb dX3_takeSeal_27 (by decide) ?_
      exact RET _ _ _ _ _ _ _ HX53 dX3_takeSeal_28 (⟨rfl, rfl⟩)
    · refine lv_aload_nN hx hb dX3_takeSeal_13 rfl (lv_at hl 0 rfl) ?_
      refine lv_ifnullN (tgt := 27) hx hb dX3_takeSeal_14 (by decide) ?_
      refine lv_iconst (v := (-1 : Int32)) hx hb dX3_takeSeal_27 (by decide) ?_
      exact RET _ _ _ _ _ _ _ HX53 dX3_takeSeal_28 (⟨rfl, rfl⟩)
  · cases h48
set_option maxHeartbeats 4000000 in
set_option maxRecDepth 100000 in
theorem p1_putReference (l : Launch) (G : fa_G) (n : Nat) (hn : 397 ≤ n) (v : fa_V) (r : fa_R) (b : Nat) (hB : b ∈ fa_bs) (hr : fa_RS r b) (a1 a2 : Int32) (h1 : v b 1 = 0) : fa_MI l G n yX3_putReference cX3_putReference 4 (some .int) 2 [.ref (fa_B G + (b)), .int (a1), .int (a2)] v r (fun x w => w = (v, r) ∧ (x = (-1 : Int32))) := by
  refine fa_startI (by decide +kernel) (Nat.le_of_ble_eq_true rfl) (fun p e s m args below meth c ls Q CX hl HX RET => ?_)
  have hl : lv_has ls 4 [(0, .ref (fa_B G + (b))), (1, .int (a1)), (2, .int (a2))] := hl
  have hx := CX.1.1
  have hb := CX.1.2.1
  refine lv_aload_n hx hb dX3_putReference_0 rfl (lv_at hl 0 rfl) ?_
  refine lv_iload_n hx hb dX3_putReference_1 rfl (lv_at hl 1 rfl) ?_
  refine fa_callVrp (As := [.int (a1)]) (rest := []) CX HX (p1_find l G n hn v r b hB hr (a1) h1) ln_X3_88 (fa_lt hB 0 (by decide) hn) (fa_s0 hB) rfl rfl rfl (Nat.le_of_ble_eq_true rfl) hl.1 ⟨Nat.le_of_ble_eq_true rfl, Nat.le_of_ble_eq_true rfl⟩ ⟨Nat.le_refl _, Nat.le_refl _⟩ dX3_putReference_2 (fun H locs h54 HX55 => ?_) (fun q56 H locs h54 HX55 => ?_)
  · refine lv_astore_nN (lv' := [(3, .null), (0, .ref (fa_B G + (b))), (1, .int (a1)), (2, .int (a2))]) hx hb dX3_putReference_5 rfl hl (by decide) rfl (fun ls hl => ?_)
    refine lv_aload_nN hx hb dX3_putReference_6 rfl (lv_at hl 0 rfl) ?_
    refine lv_ifnullN (tgt := 18) hx hb dX3_putReference_7 (by decide) ?_
    refine lv_iconst (v := (-1 : Int32)) hx hb dX3_putReference_18 (by decide) ?_
    exact RET _ _ _ _ _ _ _ HX55 dX3_putReference_19 (⟨rfl, rfl⟩)
  · cases h54
set_option maxHeartbeats 4000000 in
set_option maxRecDepth 100000 in
theorem p1_putReservation (l : Launch) (G : fa_G) (n : Nat) (hn : 397 ≤ n) (v : fa_V) (r : fa_R) (b : Nat) (hB : b ∈ fa_bs) (hr : fa_RS r b) (a1 a2 : Int32) (h1 : v b 1 = 0) : fa_MI l G n yX3_putReservation cX3_putReservation 3 (some .int) 2 [.ref (fa_B G + (b)), .int (a1), .int (a2)] v r (fun x w => w = (v, r) ∧ (x = (-1 : Int32))) := by
  refine fa_startI (by decide +kernel) (Nat.le_of_ble_eq_true rfl) (fun p e s m args below meth c ls Q CX hl HX RET => ?_)
  have hl : lv_has ls 3 [(0, .ref (fa_B G + (b))), (1, .int (a1)), (2, .int (a2))] := hl
  have hx := CX.1.1
  have hb := CX.1.2.1
  refine lv_aload_n hx hb dX3_putReservation_0 rfl (lv_at hl 0 rfl) ?_
  refine lv_iload_n hx hb dX3_putReservation_1 rfl (lv_at hl 1 rfl) ?_
  refine fa_callVrp (As := [.int (a1)]) (rest := []) CX HX (p1_find l G n hn v r b hB hr (a1) h1) ln_X3_88 (fa_lt hB 0 (by decide) hn) (fa_s0 hB) rfl rfl rfl (Nat.le_of_ble_eq_true rfl) hl.1 ⟨Nat.le_of_ble_eq_true rfl, Nat.le_of_ble_eq_true rfl⟩ ⟨Nat.le_refl _, Nat.le_refl _⟩ dX3_putReservation_2 (fun H locs h57 HX58 => ?_) (fun q59 H locs h57 HX58 => ?_)
  · refine lv_ifnonnullN hx hb dX3_putReservation_5 ?_
    refine lv_iconst (v := (-1 : Int32)) hx hb dX3_putReservation_8 (by decide) ?_
    exact RET _ _ _ _ _ _ _ HX58 dX3_putReservation_9 (⟨rfl, rfl⟩)
  · cases h57
set_option maxHeartbeats 4000000 in
set_option maxRecDepth 100000 in
theorem p1_takeReservation (l : Launch) (G : fa_G) (n : Nat) (hn : 397 ≤ n) (v : fa_V) (r : fa_R) (b : Nat) (hB : b ∈ fa_bs) (hr : fa_RS r b) (a1 a2 : Int32) (h3 : v (b + 2) 0 = 0) : fa_MI l G n yX3_takeReservation cX3_takeReservation 4 (some .int) 2 [.ref (fa_B G + (b)), .int (a1), .int (a2)] v r (fun x w => w = (v, r) ∧ (x = (-1 : Int32))) := by
  refine fa_startI (by decide +kernel) (Nat.le_of_ble_eq_true rfl) (fun p e s m args below meth c ls Q CX hl HX RET => ?_)
  have hl : lv_has ls 4 [(0, .ref (fa_B G + (b))), (1, .int (a1)), (2, .int (a2))] := hl
  have hx := CX.1.1
  have hb := CX.1.2.1
  refine lv_aload_n hx hb dX3_takeReservation_0 rfl (lv_at hl 0 rfl) ?_
  refine fa_getr (k := b) (j := b + 2) CX HX fl_X3_20 (fa_lt hB 0 (by decide) hn) (fa_s0 hB) rfl hr.2.1 dX3_takeReservation_1 ?_
  refine lv_iload_n hx hb dX3_takeReservation_4 rfl (lv_at hl 1 rfl) ?_
  refine lv_iload_n hx hb dX3_takeReservation_5 rfl (lv_at hl 2 rfl) ?_
  refine fa_callVip (As := [.int (a1), .int (a2)]) (rest := []) CX HX (p1_placeOf l G n hn v r b hB hr (a1) (a2) h3) ln_X3_120 (fa_lt hB 2 (by decide) hn) (fa_s2 hB) rfl rfl rfl (Nat.le_of_ble_eq_true rfl) hl.1 ⟨Nat.le_of_ble_eq_true rfl, Nat.le_of_ble_eq_true rfl⟩ ⟨Nat.le_refl _, Nat.le_refl _⟩ dX3_takeReservation_6 (fun x61 H locs h60 HX62 => ?_)
  have hv_placeOf := h60
  refine lv_istore_n (lv' := [(3, .int (x61)), (0, .ref (fa_B G + (b))), (1, .int (a1)), (2, .int (a2))]) hx hb dX3_takeReservation_9 rfl hl (by decide) rfl (fun ls hl => ?_)
  refine lv_iload_n hx hb dX3_takeReservation_10 rfl (lv_at hl 0 rfl) ?_
  have kx_11 : x61 = (-1 : Int32) := h60
  refine lv_if_ge (tgt := 16) hx hb dX3_takeReservation_11 (by decide) (fun c_11 => ?_) (fun c_11 => ?_)
  · exact absurd c_11 (by rw [kx_11]; try decide)
  · refine lv_iconst (v := (-1 : Int32)) hx hb dX3_takeReservation_14 (by decide) ?_
    exact RET _ _ _ _ _ _ _ HX62 dX3_takeReservation_15 (⟨rfl, rfl⟩)
