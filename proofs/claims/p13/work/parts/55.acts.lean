set_option maxHeartbeats 4000000 in
set_option maxRecDepth 100000 in
theorem g_addFile (l : Launch) (G : fa_G) (n : Nat) (hn : 397 ≤ n) (v : fa_V) (r : fa_R) (b : Nat) (hB : b ∈ fa_bs) (hr : fa_RS r b) (hI : fa_IS v b) (a1 : Int32) (a2 : Int32) : fa_MI l G n yX3_addFile cX3_addFile 3 (some .int) 3 [.ref (fa_B G + (b)), .int (a1), .int (a2)] v r (fa_voi r (fun x v1 => (fa_IS v1 b) ∧ (fa_fr (b) (b + 56) v v1))) := by
  refine fa_startI (by decide +kernel) (Nat.le_of_ble_eq_true rfl) (fun p e s m args below meth c ls Q CX hl HX RET => ?_)
  have hl : lv_has ls 3 [(0, .ref (fa_B G + (b))), (1, .int (a1)), (2, .int (a2))] := hl
  have hx := CX.1.1
  have hb := CX.1.2.1
  obtain ⟨n0, en0⟩ : ∃ n0, n0 = fa_N (v b 1) := ⟨_, rfl⟩
  obtain ⟨hn0, h1⟩ := hI.n1 en0
  refine lv_iload_n hx hb dX3_addFile_0 rfl (lv_at hl 1 rfl) ?_
  refine lv_if_lt (tgt := 20) hx hb dX3_addFile_1 (by decide) (fun c_1 => ?_) (fun c_1 => ?_)
  · refine lv_bipush (v := (-2 : Int32)) hx hb dX3_addFile_20 (by decide) ?_
    exact RET _ _ _ _ _ _ _ HX dX3_addFile_22 (⟨rfl, ⟨hI, fa_fr.rf⟩⟩)
  · refine lv_iload_n hx hb dX3_addFile_4 rfl (lv_at hl 1 rfl) ?_
    refine lv_iconst (v := nI (4)) hx hb dX3_addFile_5 (by decide) ?_
    refine lv_icmp_gt (tgt := 20) hx hb dX3_addFile_6 (by decide) (fun c_6 => ?_) (fun c_6 => ?_)
    · refine lv_bipush (v := (-2 : Int32)) hx hb dX3_addFile_20 (by decide) ?_
      exact RET _ _ _ _ _ _ _ HX dX3_addFile_22 (⟨rfl, ⟨hI, fa_fr.rf⟩⟩)
    · refine lv_iload_n hx hb dX3_addFile_9 rfl (lv_at hl 2 rfl) ?_
      refine lv_iconst (v := nI (1)) hx hb dX3_addFile_10 (by decide) ?_
      refine lv_icmp_lt (tgt := 20) hx hb dX3_addFile_11 (by decide) (fun c_11 => ?_) (fun c_11 => ?_)
      · refine lv_bipush (v := (-2 : Int32)) hx hb dX3_addFile_20 (by decide) ?_
        exact RET _ _ _ _ _ _ _ HX dX3_addFile_22 (⟨rfl, ⟨hI, fa_fr.rf⟩⟩)
      · refine lv_iload_n hx hb dX3_addFile_14 rfl (lv_at hl 2 rfl) ?_
        refine lv_bipush (v := nI (50)) hx hb dX3_addFile_15 (by decide) ?_
        refine lv_icmp_le (tgt := 23) hx hb dX3_addFile_17 (by decide) (fun c_17 => ?_) (fun c_17 => ?_)
        · obtain ⟨ka, hka, eka⟩ := fa_natLe (by decide) c_1 c_6
          refine lv_aload_n hx hb dX3_addFile_23 rfl (lv_at hl 0 rfl) ?_
          refine fa_geti (k := b) CX HX fl_X3_49 (fa_lt hB 0 (by decide) hn) (fa_s0 hB) rfl dX3_addFile_24 ?_
          rw [show v b 1 = nI (n0) from h1]
          refine lv_bipush (v := nI (24)) hx hb dX3_addFile_27 (by decide) ?_
          refine lv_icmp_ge (tgt := 58) hx hb dX3_addFile_29 (by decide) (fun c_29 => ?_) (fun c_29 => ?_)
          · refine lv_bipush (v := (-4 : Int32)) hx hb dX3_addFile_58 (by decide) ?_
            exact RET _ _ _ _ _ _ _ HX dX3_addFile_60 (⟨rfl, ⟨hI, fa_fr.rf⟩⟩)
          · have hj := fa_ltN (by omega) (by omega) c_29
            refine lv_aload_n hx hb dX3_addFile_32 rfl (lv_at hl 0 rfl) ?_
            refine fa_geti (k := b) CX HX fl_X3_52 (fa_lt hB 0 (by decide) hn) (fa_s0 hB) rfl dX3_addFile_33 ?_
            refine lv_sipush (v := nI (200)) hx hb dX3_addFile_36 (by decide) ?_
            refine lv_icmp_ge (tgt := 58) hx hb dX3_addFile_39 (by decide) (fun c_39 => ?_) (fun c_39 => ?_)
            · refine lv_bipush (v := (-4 : Int32)) hx hb dX3_addFile_58 (by decide) ?_
              exact RET _ _ _ _ _ _ _ HX dX3_addFile_60 (⟨rfl, ⟨hI, fa_fr.rf⟩⟩)
            · refine lv_aload_n hx hb dX3_addFile_42 rfl (lv_at hl 0 rfl) ?_
              refine fa_callVip (As := []) (rest := []) CX HX (g_storedPages l G n hn v r b hB hr hI  ) ln_X3_80 (fa_lt hB 0 (by decide) hn) (fa_s0 hB) rfl rfl rfl (Nat.le_of_ble_eq_true rfl) hl.1 ⟨Nat.le_of_ble_eq_true rfl, Nat.le_of_ble_eq_true rfl⟩ ⟨Nat.le_refl _, Nat.le_refl _⟩ dX3_addFile_43 (fun x1113 H locs h1112 HX1114 => ?_)
              have h_storedPages := h1112
              refine lv_iload_n hx hb dX3_addFile_46 rfl (lv_at hl 2 rfl) ?_
              refine lv_iadd hx hb dX3_addFile_47 ?_
              refine lv_aload_n hx hb dX3_addFile_48 rfl (lv_at hl 0 rfl) ?_
              refine fa_getr (k := b) (j := b + 7) CX HX1114 fl_X3_31 (fa_lt hB 0 (by decide) hn) (fa_s0 hB) rfl hr.2.2.2.1 dX3_addFile_49 ?_
              refine lv_bipush (v := nI (6)) hx hb dX3_addFile_52 (by decide) ?_
              refine fa_iald (k := b + 7) (j := 6) CX HX1114 (fa_lt hB 7 (by decide) hn) (fa_s7 hB) (by omega) (by first | decide | assumption) dX3_addFile_54 ?_
              refine lv_icmp_le (tgt := 61) hx hb dX3_addFile_55 (by decide) (fun c_55 => ?_) (fun c_55 => ?_)
              · refine lv_aload_n hx hb dX3_addFile_61 rfl (lv_at hl 0 rfl) ?_
                refine fa_getr (k := b) (j := b + 1) CX HX1114 fl_X3_11 (fa_lt hB 0 (by decide) hn) (fa_s0 hB) rfl hr.1 dX3_addFile_62 ?_
                refine lv_aload_n hx hb dX3_addFile_65 rfl (lv_at hl 0 rfl) ?_
                refine fa_geti (k := b) CX HX1114 fl_X3_49 (fa_lt hB 0 (by decide) hn) (fa_s0 hB) rfl dX3_addFile_66 ?_
                rw [show v b 1 = nI (n0) from h1]
                refine fa_aald (k := b + 1) (j := n0) (q := fa_pf r b n0) CX HX1114 (fa_lt hB 1 (by decide) hn) (fa_s1 hB) rfl (by decide) (by omega) (by first | decide | assumption) (fa_pf_at hr (by omega)) dX3_addFile_69 ?_
                refine lv_aload_n hx hb dX3_addFile_70 rfl (lv_at hl 0 rfl) ?_
                refine fa_geti (k := b) CX HX1114 fl_X3_52 (fa_lt hB 0 (by decide) hn) (fa_s0 hB) rfl dX3_addFile_71 ?_
                refine lv_iload_n hx hb dX3_addFile_74 rfl (lv_at hl 1 rfl) ?_
                rw [show a1 = nI (ka) from eka]
                refine lv_iload_n hx hb dX3_addFile_75 rfl (lv_at hl 2 rfl) ?_
                refine lv_aload_n hx hb dX3_addFile_76 rfl (lv_at hl 0 rfl) ?_
                refine fa_geti (k := b) CX HX1114 fl_X3_45 (fa_lt hB 0 (by decide) hn) (fa_s0 hB) rfl dX3_addFile_77 ?_
                refine fa_callVvu (As := [.int (v b 2), .int (nI (ka)), .int (a2), .int (v b 0)]) (rest := []) CX HX1114 (g_comeAs l G n hn v r b hB hr hI (fa_pf r b n0) (v b 2) (ka) (a2) (v b 0) (fa_pf_isF hr (by omega)) (by omega)) ln_X3_84 (fa_isF_lt hB (fa_pf_isF hr (by omega)) hn) (fa_isF_sh hB (fa_pf_isF hr (by omega))) rfl rfl rfl (Nat.le_of_ble_eq_true rfl) hl.1 ⟨Nat.le_of_ble_eq_true rfl, Nat.le_of_ble_eq_true rfl⟩ ⟨Nat.le_refl _, Nat.le_refl _⟩ dX3_addFile_80 (fun v1116 H locs h1115 HX1117 => ?_)
                have h_comeAs := h1115.1
                have hIS_v1116 : fa_IS v1116 b := h1115.1
                refine lv_aload_n hx hb dX3_addFile_83 rfl (lv_at hl 0 rfl) ?_
                refine lv_dup hx hb dX3_addFile_84 rfl ?_
                refine fa_geti (k := b) CX HX1117 fl_X3_49 (fa_lt hB 0 (by decide) hn) (fa_s0 hB) rfl dX3_addFile_85 ?_
                rw [show v1116 b 1 = nI (n0) from (by rw [h1115.2 _ (by omega)]; exact h1)]
                refine lv_iconst (v := nI (1)) hx hb dX3_addFile_88 (by decide) ?_
                refine fa_iaddN hx hb dX3_addFile_89 ?_
                refine fa_puti (k := b) CX HX1117 fl_X3_49 (fa_lt hB 0 (by decide) hn) (fa_s0 hB) rfl rfl rfl dX3_addFile_90 (fun H locs v1118 e1119 HX1120 => ?_)
                refine lv_aload_n hx hb dX3_addFile_93 rfl (lv_at hl 0 rfl) ?_
                refine lv_dup hx hb dX3_addFile_94 rfl ?_
                refine fa_geti (k := b) CX HX1120 fl_X3_52 (fa_lt hB 0 (by decide) hn) (fa_s0 hB) rfl dX3_addFile_95 ?_
                refine lv_iconst (v := nI (1)) hx hb dX3_addFile_98 (by decide) ?_
                refine lv_iadd hx hb dX3_addFile_99 ?_
                refine fa_puti (k := b) CX HX1120 fl_X3_52 (fa_lt hB 0 (by decide) hn) (fa_s0 hB) rfl rfl rfl dX3_addFile_100 (fun H locs v1121 e1122 HX1123 => ?_)
                refine lv_aload_n hx hb dX3_addFile_103 rfl (lv_at hl 0 rfl) ?_
                refine fa_geti (k := b) CX HX1123 fl_X3_52 (fa_lt hB 0 (by decide) hn) (fa_s0 hB) rfl dX3_addFile_104 ?_
                refine lv_iconst (v := nI (1)) hx hb dX3_addFile_107 (by decide) ?_
                refine lv_isub hx hb dX3_addFile_108 ?_
                exact RET _ _ _ _ _ _ _ HX1123 dX3_addFile_109 (⟨rfl, ⟨(by rw [e1122]; exact fa_IS.u (by rw [e1119]; exact fa_IS.set1 hIS_v1116 (by omega)) (Or.inl ⟨rfl, by decide⟩)), (by rw [e1122]; exact fa_fr.u (by rw [e1119]; exact fa_fr.u (fa_fr.tr fa_fr.rf (fa_fr.wide h1115.2 (by omega) (by omega))) (by omega)) (by omega))⟩⟩)
              · refine lv_bipush (v := (-4 : Int32)) hx hb dX3_addFile_58 (by decide) ?_
                exact RET _ _ _ _ _ _ _ HX1114 dX3_addFile_60 (⟨rfl, ⟨hI, fa_fr.rf⟩⟩)
        · refine lv_bipush (v := (-2 : Int32)) hx hb dX3_addFile_20 (by decide) ?_
          exact RET _ _ _ _ _ _ _ HX dX3_addFile_22 (⟨rfl, ⟨hI, fa_fr.rf⟩⟩)
set_option maxHeartbeats 4000000 in
set_option maxRecDepth 100000 in
theorem g_askFor (l : Launch) (G : fa_G) (n : Nat) (hn : 397 ≤ n) (v : fa_V) (r : fa_R) (b : Nat) (hB : b ∈ fa_bs) (hr : fa_RS r b) (hI : fa_IS v b) (a1 : Int32) : fa_MI l G n yX3_askFor cX3_askFor 3 (some .int) 2 [.ref (fa_B G + (b)), .int (a1)] v r (fa_voi r (fun x v1 => (fa_IS v1 b) ∧ (fa_fr (b) (b + 56) v v1))) := by
  refine fa_startI (by decide +kernel) (Nat.le_of_ble_eq_true rfl) (fun p e s m args below meth c ls Q CX hl HX RET => ?_)
  have hl : lv_has ls 3 [(0, .ref (fa_B G + (b))), (1, .int (a1))] := hl
  have hx := CX.1.1
  have hb := CX.1.2.1
  refine lv_iload_n hx hb dX3_askFor_0 rfl (lv_at hl 1 rfl) ?_
  refine lv_if_lt (tgt := 12) hx hb dX3_askFor_1 (by decide) (fun c_1 => ?_) (fun c_1 => ?_)
  · refine lv_iconst (v := (-1 : Int32)) hx hb dX3_askFor_12 (by decide) ?_
    exact RET _ _ _ _ _ _ _ HX dX3_askFor_13 (⟨rfl, ⟨hI, fa_fr.rf⟩⟩)
  · refine lv_iload_n hx hb dX3_askFor_4 rfl (lv_at hl 1 rfl) ?_
    refine lv_aload_n hx hb dX3_askFor_5 rfl (lv_at hl 0 rfl) ?_
    refine fa_geti (k := b) CX HX fl_X3_52 (fa_lt hB 0 (by decide) hn) (fa_s0 hB) rfl dX3_askFor_6 ?_
    refine lv_icmp_lt (tgt := 14) hx hb dX3_askFor_9 (by decide) (fun c_9 => ?_) (fun c_9 => ?_)
    · refine lv_aload_n hx hb dX3_askFor_14 rfl (lv_at hl 0 rfl) ?_
      refine lv_iload_n hx hb dX3_askFor_15 rfl (lv_at hl 1 rfl) ?_
      refine fa_callVrp (As := [.int (a1)]) (rest := []) CX HX (g_find l G n hn v r b hB hr hI (a1) ) ln_X3_88 (fa_lt hB 0 (by decide) hn) (fa_s0 hB) rfl rfl rfl (Nat.le_of_ble_eq_true rfl) hl.1 ⟨Nat.le_of_ble_eq_true rfl, Nat.le_of_ble_eq_true rfl⟩ ⟨Nat.le_refl _, Nat.le_refl _⟩ dX3_askFor_16 (fun H locs h1124 HX1125 => ?_) (fun q1126 H locs h1124 HX1125 => ?_)
      · have hf_none := h1124.2 rfl
        refine lv_astore_nN (lv' := [(2, .null), (0, .ref (fa_B G + (b))), (1, .int (a1))]) hx hb dX3_askFor_19 rfl hl (by decide) rfl (fun ls hl => ?_)
        refine lv_aload_nN hx hb dX3_askFor_20 rfl (lv_at hl 0 rfl) ?_
        refine lv_ifnonnullN hx hb dX3_askFor_21 ?_
        refine lv_aload_n hx hb dX3_askFor_24 rfl (lv_at hl 1 rfl) ?_
        refine lv_dup hx hb dX3_askFor_25 rfl ?_
        refine fa_geti (k := b) CX HX1125 fl_X3_64 (fa_lt hB 0 (by decide) hn) (fa_s0 hB) rfl dX3_askFor_26 ?_
        refine lv_iconst (v := nI (1)) hx hb dX3_askFor_29 (by decide) ?_
        refine lv_iadd hx hb dX3_askFor_30 ?_
        refine fa_puti (k := b) CX HX1125 fl_X3_64 (fa_lt hB 0 (by decide) hn) (fa_s0 hB) rfl rfl rfl dX3_askFor_31 (fun H locs v1127 e1128 HX1129 => ?_)
        refine lv_bipush (v := (-6 : Int32)) hx hb dX3_askFor_34 (by decide) ?_
        exact RET _ _ _ _ _ _ _ HX1129 dX3_askFor_36 (⟨rfl, ⟨(by rw [e1128]; exact fa_IS.u hI (Or.inl ⟨rfl, by decide⟩)), (by rw [e1128]; exact fa_fr.u fa_fr.rf (by omega))⟩⟩)
      · have hf_q1126 := h1124.1 q1126 rfl
        have hq1126 := hf_q1126.1
        have hiq1126 := fa_isF_in hq1126
        refine lv_astore_n (lv' := [(2, .ref (fa_B G + (q1126))), (0, .ref (fa_B G + (b))), (1, .int (a1))]) hx hb dX3_askFor_19 rfl hl (by decide) rfl (fun ls hl => ?_)
        refine lv_aload_n hx hb dX3_askFor_20 rfl (lv_at hl 0 rfl) ?_
        refine lv_ifnonnull (tgt := 37) hx hb dX3_askFor_21 (by decide) ?_
        refine lv_aload_n hx hb dX3_askFor_37 rfl (lv_at hl 1 rfl) ?_
        refine lv_aload_n hx hb dX3_askFor_38 rfl (lv_at hl 0 rfl) ?_
        refine fa_callVvu (As := [.ref (fa_B G + (q1126))]) (rest := []) CX HX1125 (g_askStored l G n hn v r b hB hr hI (q1126) hq1126) ln_X3_92 (fa_lt hB 0 (by decide) hn) (fa_s0 hB) rfl rfl rfl (Nat.le_of_ble_eq_true rfl) hl.1 ⟨Nat.le_of_ble_eq_true rfl, Nat.le_of_ble_eq_true rfl⟩ ⟨Nat.le_refl _, Nat.le_refl _⟩ dX3_askFor_39 (fun v1131 H locs h1130 HX1132 => ?_)
        have h_ask_v1131 := h1130.1
        refine lv_aload_n hx hb dX3_askFor_42 rfl (lv_at hl 0 rfl) ?_
        refine fa_geti (k := q1126) CX HX1132 fl_X3_95 (fa_isF_lt hB hq1126 hn) (fa_isF_sh hB hq1126) rfl dX3_askFor_43 ?_
        exact RET _ _ _ _ _ _ _ HX1132 dX3_askFor_46 (⟨rfl, ⟨(by rw [h_ask_v1131]; exact fa_ask_IS hI hq1126), (fa_fr.tr fa_fr.rf (fa_fr.wide h1130.2 (by omega) (by omega)))⟩⟩)
    · refine lv_iconst (v := (-1 : Int32)) hx hb dX3_askFor_12 (by decide) ?_
      exact RET _ _ _ _ _ _ _ HX dX3_askFor_13 (⟨rfl, ⟨hI, fa_fr.rf⟩⟩)
set_option maxHeartbeats 4000000 in
set_option maxRecDepth 100000 in
theorem g_putSeal (l : Launch) (G : fa_G) (n : Nat) (hn : 397 ≤ n) (v : fa_V) (r : fa_R) (b : Nat) (hB : b ∈ fa_bs) (hr : fa_RS r b) (hI : fa_IS v b) (a1 : Int32) (a2 : Int32) (a3 : Int32) : fa_MI l G n yX3_putSeal cX3_putSeal 5 (some .int) 2 [.ref (fa_B G + (b)), .int (a1), .int (a2), .int (a3)] v r (fa_voi r (fun x v1 => (fa_IS v1 b) ∧ (fa_fr (b) (b + 56) v v1))) := by
  refine fa_startI (by decide +kernel) (Nat.le_of_ble_eq_true rfl) (fun p e s m args below meth c ls Q CX hl HX RET => ?_)
  have hl : lv_has ls 5 [(0, .ref (fa_B G + (b))), (1, .int (a1)), (2, .int (a2)), (3, .int (a3))] := hl
  have hx := CX.1.1
  have hb := CX.1.2.1
  refine lv_aload_n hx hb dX3_putSeal_0 rfl (lv_at hl 0 rfl) ?_
  refine lv_iload_n hx hb dX3_putSeal_1 rfl (lv_at hl 2 rfl) ?_
  refine fa_callVrp (As := [.int (a2)]) (rest := []) CX HX (g_find l G n hn v r b hB hr hI (a2) ) ln_X3_88 (fa_lt hB 0 (by decide) hn) (fa_s0 hB) rfl rfl rfl (Nat.le_of_ble_eq_true rfl) hl.1 ⟨Nat.le_of_ble_eq_true rfl, Nat.le_of_ble_eq_true rfl⟩ ⟨Nat.le_refl _, Nat.le_refl _⟩ dX3_putSeal_2 (fun H locs h1133 HX1134 => ?_) (fun q1135 H locs h1133 HX1134 => ?_)
  · have hf_none := h1133.2 rfl
    refine lv_astoreN (lv' := [(4, .null), (0, .ref (fa_B G + (b))), (1, .int (a1)), (2, .int (a2)), (3, .int (a3))]) hx hb dX3_putSeal_5 hl (by decide) rfl (fun ls hl => ?_)
    refine lv_iload_n hx hb dX3_putSeal_7 rfl (lv_at hl 2 rfl) ?_
    refine fa_callSNip (As := [.int (a1)]) (rest := []) CX HX1134 (c_X6_isNoHolder l G n v r (a1)) (by decide +kernel) ln_X3_98 rfl rfl (Nat.le_of_ble_eq_true rfl) hl.1 ⟨Nat.le_of_ble_eq_true rfl, Nat.le_of_ble_eq_true rfl⟩ ⟨Nat.le_refl _, Nat.le_refl _⟩ dX3_putSeal_8 (fun x1137 H locs h1136 HX1138 => ?_)
    have h_ns := h1136
    refine lv_if_ne (tgt := 19) hx hb dX3_putSeal_11 (by decide) (fun c_11 => ?_) (fun c_11 => ?_)
    · refine lv_iconst (v := (-1 : Int32)) hx hb dX3_putSeal_19 (by decide) ?_
      exact RET _ _ _ _ _ _ _ HX1138 dX3_putSeal_20 (⟨rfl, ⟨hI, fa_fr.rf⟩⟩)
    · obtain ⟨jh, hjh, ejh⟩ := fa_ix7 (by decide) (fa_ifn h_ns (by first | exact c_11 | exact Decidable.not_not.mp c_11))
      refine lv_aloadN hx hb dX3_putSeal_14 (lv_at hl 0 rfl) ?_
      refine lv_ifnonnullN hx hb dX3_putSeal_16 ?_
      refine lv_iconst (v := (-1 : Int32)) hx hb dX3_putSeal_19 (by decide) ?_
      exact RET _ _ _ _ _ _ _ HX1138 dX3_putSeal_20 (⟨rfl, ⟨hI, fa_fr.rf⟩⟩)
  · have hf_q1135 := h1133.1 q1135 rfl
    have hq1135 := hf_q1135.1
    have hiq1135 := fa_isF_in hq1135
    refine lv_astore (lv' := [(4, .ref (fa_B G + (q1135))), (0, .ref (fa_B G + (b))), (1, .int (a1)), (2, .int (a2)), (3, .int (a3))]) hx hb dX3_putSeal_5 hl (by decide) rfl (fun ls hl => ?_)
    refine lv_iload_n hx hb dX3_putSeal_7 rfl (lv_at hl 2 rfl) ?_
    refine fa_callSNip (As := [.int (a1)]) (rest := []) CX HX1134 (c_X6_isNoHolder l G n v r (a1)) (by decide +kernel) ln_X3_98 rfl rfl (Nat.le_of_ble_eq_true rfl) hl.1 ⟨Nat.le_of_ble_eq_true rfl, Nat.le_of_ble_eq_true rfl⟩ ⟨Nat.le_refl _, Nat.le_refl _⟩ dX3_putSeal_8 (fun x1140 H locs h1139 HX1141 => ?_)
    have h_ns := h1139
    refine lv_if_ne (tgt := 19) hx hb dX3_putSeal_11 (by decide) (fun c_11 => ?_) (fun c_11 => ?_)
    · refine lv_iconst (v := (-1 : Int32)) hx hb dX3_putSeal_19 (by decide) ?_
      exact RET _ _ _ _ _ _ _ HX1141 dX3_putSeal_20 (⟨rfl, ⟨hI, fa_fr.rf⟩⟩)
    · obtain ⟨jh, hjh, ejh⟩ := fa_ix7 (by decide) (fa_ifn h_ns (by first | exact c_11 | exact Decidable.not_not.mp c_11))
      refine lv_aload hx hb dX3_putSeal_14 (lv_at hl 0 rfl) ?_
      refine lv_ifnonnull (tgt := 21) hx hb dX3_putSeal_16 (by decide) ?_
      refine lv_iload_n hx hb dX3_putSeal_21 rfl (lv_at hl 4 rfl) ?_
      refine lv_iconst (v := (-1 : Int32)) hx hb dX3_putSeal_22 (by decide) ?_
      refine lv_icmp_eq (tgt := 44) hx hb dX3_putSeal_23 (by decide) (fun c_23 => ?_) (fun c_23 => ?_)
      · refine lv_aload hx hb dX3_putSeal_44 (lv_at hl 0 rfl) ?_
        refine fa_getr (k := q1135) (j := q1135 + 1) CX HX1141 fl_X3_102 (fa_isF_lt hB hq1135 hn) (fa_isF_sh hB hq1135) rfl (fa_isF_ref hr hq1135) dX3_putSeal_46 ?_
        refine lv_iload_n hx hb dX3_putSeal_49 rfl (lv_at hl 2 rfl) ?_
        rw [show a1 = nI (jh) from ejh]
        refine lv_iload_n hx hb dX3_putSeal_50 rfl (lv_at hl 4 rfl) ?_
        refine lv_iconst (v := (-1 : Int32)) hx hb dX3_putSeal_51 (by decide) ?_
        refine lv_icmp_ne (tgt := 61) hx hb dX3_putSeal_52 (by decide) (fun c_52 => ?_) (fun c_52 => ?_)
        · refine lv_iload_n hx hb dX3_putSeal_61 rfl (lv_at hl 4 rfl) ?_
          refine fa_iast (k := q1135 + 1) (j := jh) CX HX1141 (fa_isF_lt1 hB hq1135 hn) (fa_isF_sh1 hB hq1135) (by omega) (by first | decide | assumption) dX3_putSeal_62 (fun H locs v1142 e1143 HX1144 => ?_)
          refine lv_aload hx hb dX3_putSeal_63 (lv_at hl 0 rfl) ?_
          refine lv_aload_n hx hb dX3_putSeal_65 rfl (lv_at hl 1 rfl) ?_
          refine fa_geti (k := b) CX HX1144 fl_X3_45 (fa_lt hB 0 (by decide) hn) (fa_s0 hB) rfl dX3_putSeal_66 ?_
          refine fa_callVip (As := [.int (v1142 b 0)]) (rest := []) CX HX1144 (g_holdersOn l G n hn v1142 r b hB hr (by rw [e1143]; exact fa_IS.u hI (Or.inr (Or.inr (Or.inl (fa_isF.seal hq1135))))) q1135 (v1142 b 0) hq1135 ) ln_X3_105 (fa_isF_lt hB hq1135 hn) (fa_isF_sh hB hq1135) rfl rfl rfl (Nat.le_of_ble_eq_true rfl) hl.1 ⟨Nat.le_of_ble_eq_true rfl, Nat.le_of_ble_eq_true rfl⟩ ⟨Nat.le_refl _, Nat.le_refl _⟩ dX3_putSeal_69 (fun x1146 H locs h1145 HX1147 => ?_)
          have h_holdersOn := h1145
          refine fa_callSip (As := [.int (x1146)]) (rest := []) CX HX1147 (g_bitCount l G n v1142 r (x1146)) ln_X3_109 rfl rfl (Nat.le_of_ble_eq_true rfl) hl.1 ⟨Nat.le_of_ble_eq_true rfl, Nat.le_of_ble_eq_true rfl⟩ ⟨Nat.le_refl _, Nat.le_refl _⟩ dX3_putSeal_72 (fun x1149 H locs h1148 HX1150 => ?_)
          have h_bitCount := h1148
          exact RET _ _ _ _ _ _ _ HX1150 dX3_putSeal_75 (⟨rfl, ⟨(by rw [e1143]; exact fa_IS.u hI (Or.inr (Or.inr (Or.inl (fa_isF.seal hq1135))))), (by rw [e1143]; exact fa_fr.u fa_fr.rf (by omega))⟩⟩)
        · refine lv_sipush (v := nI (10000)) hx hb dX3_putSeal_55 (by decide) ?_
          refine lv_goto (tgt := 62) hx hb dX3_putSeal_58 (by decide) ?_
          refine fa_iast (k := q1135 + 1) (j := jh) CX HX1141 (fa_isF_lt1 hB hq1135 hn) (fa_isF_sh1 hB hq1135) (by omega) (by first | decide | assumption) dX3_putSeal_62 (fun H locs v1151 e1152 HX1153 => ?_)
          refine lv_aload hx hb dX3_putSeal_63 (lv_at hl 0 rfl) ?_
          refine lv_aload_n hx hb dX3_putSeal_65 rfl (lv_at hl 1 rfl) ?_
          refine fa_geti (k := b) CX HX1153 fl_X3_45 (fa_lt hB 0 (by decide) hn) (fa_s0 hB) rfl dX3_putSeal_66 ?_
          refine fa_callVip (As := [.int (v1151 b 0)]) (rest := []) CX HX1153 (g_holdersOn l G n hn v1151 r b hB hr (by rw [e1152]; exact fa_IS.u hI (Or.inr (Or.inr (Or.inl (fa_isF.seal hq1135))))) q1135 (v1151 b 0) hq1135 ) ln_X3_105 (fa_isF_lt hB hq1135 hn) (fa_isF_sh hB hq1135) rfl rfl rfl (Nat.le_of_ble_eq_true rfl) hl.1 ⟨Nat.le_of_ble_eq_true rfl, Nat.le_of_ble_eq_true rfl⟩ ⟨Nat.le_refl _, Nat.le_refl _⟩ dX3_putSeal_69 (fun x1155 H locs h1154 HX1156 => ?_)
          have h_holdersOn := h1154
          refine fa_callSip (As := [.int (x1155)]) (rest := []) CX HX1156 (g_bitCount l G n v1151 r (x1155)) ln_X3_109 rfl rfl (Nat.le_of_ble_eq_true rfl) hl.1 ⟨Nat.le_of_ble_eq_true rfl, Nat.le_of_ble_eq_true rfl⟩ ⟨Nat.le_refl _, Nat.le_refl _⟩ dX3_putSeal_72 (fun x1158 H locs h1157 HX1159 => ?_)
          have h_bitCount := h1157
          exact RET _ _ _ _ _ _ _ HX1159 dX3_putSeal_75 (⟨rfl, ⟨(by rw [e1152]; exact fa_IS.u hI (Or.inr (Or.inr (Or.inl (fa_isF.seal hq1135))))), (by rw [e1152]; exact fa_fr.u fa_fr.rf (by omega))⟩⟩)
      · refine lv_iload_n hx hb dX3_putSeal_26 rfl (lv_at hl 4 rfl) ?_
        refine lv_aload_n hx hb dX3_putSeal_27 rfl (lv_at hl 1 rfl) ?_
        refine fa_geti (k := b) CX HX1141 fl_X3_45 (fa_lt hB 0 (by decide) hn) (fa_s0 hB) rfl dX3_putSeal_28 ?_
        refine lv_icmp_lt (tgt := 41) hx hb dX3_putSeal_31 (by decide) (fun c_31 => ?_) (fun c_31 => ?_)
        · refine lv_bipush (v := (-2 : Int32)) hx hb dX3_putSeal_41 (by decide) ?_
          exact RET _ _ _ _ _ _ _ HX1141 dX3_putSeal_43 (⟨rfl, ⟨hI, fa_fr.rf⟩⟩)
        · refine lv_iload_n hx hb dX3_putSeal_34 rfl (lv_at hl 4 rfl) ?_
          refine lv_sipush (v := nI (9999)) hx hb dX3_putSeal_35 (by decide) ?_
          refine lv_icmp_le (tgt := 44) hx hb dX3_putSeal_38 (by decide) (fun c_38 => ?_) (fun c_38 => ?_)
          · refine lv_aload hx hb dX3_putSeal_44 (lv_at hl 0 rfl) ?_
            refine fa_getr (k := q1135) (j := q1135 + 1) CX HX1141 fl_X3_102 (fa_isF_lt hB hq1135 hn) (fa_isF_sh hB hq1135) rfl (fa_isF_ref hr hq1135) dX3_putSeal_46 ?_
            refine lv_iload_n hx hb dX3_putSeal_49 rfl (lv_at hl 2 rfl) ?_
            rw [show a1 = nI (jh) from ejh]
            refine lv_iload_n hx hb dX3_putSeal_50 rfl (lv_at hl 4 rfl) ?_
            refine lv_iconst (v := (-1 : Int32)) hx hb dX3_putSeal_51 (by decide) ?_
            refine lv_icmp_ne (tgt := 61) hx hb dX3_putSeal_52 (by decide) (fun c_52 => ?_) (fun c_52 => ?_)
            · refine lv_iload_n hx hb dX3_putSeal_61 rfl (lv_at hl 4 rfl) ?_
              refine fa_iast (k := q1135 + 1) (j := jh) CX HX1141 (fa_isF_lt1 hB hq1135 hn) (fa_isF_sh1 hB hq1135) (by omega) (by first | decide | assumption) dX3_putSeal_62 (fun H locs v1160 e1161 HX1162 => ?_)
              refine lv_aload hx hb dX3_putSeal_63 (lv_at hl 0 rfl) ?_
              refine lv_aload_n hx hb dX3_putSeal_65 rfl (lv_at hl 1 rfl) ?_
              refine fa_geti (k := b) CX HX1162 fl_X3_45 (fa_lt hB 0 (by decide) hn) (fa_s0 hB) rfl dX3_putSeal_66 ?_
              refine fa_callVip (As := [.int (v1160 b 0)]) (rest := []) CX HX1162 (g_holdersOn l G n hn v1160 r b hB hr (by rw [e1161]; exact fa_IS.u hI (Or.inr (Or.inr (Or.inl (fa_isF.seal hq1135))))) q1135 (v1160 b 0) hq1135 ) ln_X3_105 (fa_isF_lt hB hq1135 hn) (fa_isF_sh hB hq1135) rfl rfl rfl (Nat.le_of_ble_eq_true rfl) hl.1 ⟨Nat.le_of_ble_eq_true rfl, Nat.le_of_ble_eq_true rfl⟩ ⟨Nat.le_refl _, Nat.le_refl _⟩ dX3_putSeal_69 (fun x1164 H locs h1163 HX1165 => ?_)
              have h_holdersOn := h1163
              refine fa_callSip (As := [.int (x1164)]) (rest := []) CX HX1165 (g_bitCount l G n v1160 r (x1164)) ln_X3_109 rfl rfl (Nat.le_of_ble_eq_true rfl) hl.1 ⟨Nat.le_of_ble_eq_true rfl, Nat.le_of_ble_eq_true rfl⟩ ⟨Nat.le_refl _, Nat.le_refl _⟩ dX3_putSeal_72 (fun x1167 H locs h1166 HX1168 => ?_)
              have h_bitCount := h1166
              exact RET _ _ _ _ _ _ _ HX1168 dX3_putSeal_75 (⟨rfl, ⟨(by rw [e1161]; exact fa_IS.u hI (Or.inr (Or.inr (Or.inl (fa_isF.seal hq1135))))), (by rw [e1161]; exact fa_fr.u fa_fr.rf (by omega))⟩⟩)
            · refine lv_sipush (v := nI (10000)) hx hb dX3_putSeal_55 (by decide) ?_
              refine lv_goto (tgt := 62) hx hb dX3_putSeal_58 (by decide) ?_
              refine fa_iast (k := q1135 + 1) (j := jh) CX HX1141 (fa_isF_lt1 hB hq1135 hn) (fa_isF_sh1 hB hq1135) (by omega) (by first | decide | assumption) dX3_putSeal_62 (fun H locs v1169 e1170 HX1171 => ?_)
              refine lv_aload hx hb dX3_putSeal_63 (lv_at hl 0 rfl) ?_
              refine lv_aload_n hx hb dX3_putSeal_65 rfl (lv_at hl 1 rfl) ?_
              refine fa_geti (k := b) CX HX1171 fl_X3_45 (fa_lt hB 0 (by decide) hn) (fa_s0 hB) rfl dX3_putSeal_66 ?_
              refine fa_callVip (As := [.int (v1169 b 0)]) (rest := []) CX HX1171 (g_holdersOn l G n hn v1169 r b hB hr (by rw [e1170]; exact fa_IS.u hI (Or.inr (Or.inr (Or.inl (fa_isF.seal hq1135))))) q1135 (v1169 b 0) hq1135 ) ln_X3_105 (fa_isF_lt hB hq1135 hn) (fa_isF_sh hB hq1135) rfl rfl rfl (Nat.le_of_ble_eq_true rfl) hl.1 ⟨Nat.le_of_ble_eq_true rfl, Nat.le_of_ble_eq_true rfl⟩ ⟨Nat.le_refl _, Nat.le_refl _⟩ dX3_putSeal_69 (fun x1173 H locs h1172 HX1174 => ?_)
              have h_holdersOn := h1172
              refine fa_callSip (As := [.int (x1173)]) (rest := []) CX HX1174 (g_bitCount l G n v1169 r (x1173)) ln_X3_109 rfl rfl (Nat.le_of_ble_eq_true rfl) hl.1 ⟨Nat.le_of_ble_eq_true rfl, Nat.le_of_ble_eq_true rfl⟩ ⟨Nat.le_refl _, Nat.le_refl _⟩ dX3_putSeal_72 (fun x1176 H locs h1175 HX1177 => ?_)
              have h_bitCount := h1175
              exact RET _ _ _ _ _ _ _ HX1177 dX3_putSeal_75 (⟨rfl, ⟨(by rw [e1170]; exact fa_IS.u hI (Or.inr (Or.inr (Or.inl (fa_isF.seal hq1135))))), (by rw [e1170]; exact fa_fr.u fa_fr.rf (by omega))⟩⟩)
          · refine lv_bipush (v := (-2 : Int32)) hx hb dX3_putSeal_41 (by decide) ?_
            exact RET _ _ _ _ _ _ _ HX1141 dX3_putSeal_43 (⟨rfl, ⟨hI, fa_fr.rf⟩⟩)
set_option maxHeartbeats 4000000 in
set_option maxRecDepth 100000 in
theorem g_takeSeal (l : Launch) (G : fa_G) (n : Nat) (hn : 397 ≤ n) (v : fa_V) (r : fa_R) (b : Nat) (hB : b ∈ fa_bs) (hr : fa_RS r b) (hI : fa_IS v b) (a1 : Int32) (a2 : Int32) : fa_MI l G n yX3_takeSeal cX3_takeSeal 4 (some .int) 2 [.ref (fa_B G + (b)), .int (a1), .int (a2)] v r (fa_voi r (fun x v1 => (fa_IS v1 b) ∧ (fa_fr (b) (b + 56) v v1))) := by
  refine fa_startI (by decide +kernel) (Nat.le_of_ble_eq_true rfl) (fun p e s m args below meth c ls Q CX hl HX RET => ?_)
  have hl : lv_has ls 4 [(0, .ref (fa_B G + (b))), (1, .int (a1)), (2, .int (a2))] := hl
  have hx := CX.1.1
  have hb := CX.1.2.1
  refine lv_aload_n hx hb dX3_takeSeal_0 rfl (lv_at hl 0 rfl) ?_
  refine lv_iload_n hx hb dX3_takeSeal_1 rfl (lv_at hl 2 rfl) ?_
  refine fa_callVrp (As := [.int (a2)]) (rest := []) CX HX (g_find l G n hn v r b hB hr hI (a2) ) ln_X3_88 (fa_lt hB 0 (by decide) hn) (fa_s0 hB) rfl rfl rfl (Nat.le_of_ble_eq_true rfl) hl.1 ⟨Nat.le_of_ble_eq_true rfl, Nat.le_of_ble_eq_true rfl⟩ ⟨Nat.le_refl _, Nat.le_refl _⟩ dX3_takeSeal_2 (fun H locs h1178 HX1179 => ?_) (fun q1180 H locs h1178 HX1179 => ?_)
  · have hf_none := h1178.2 rfl
    refine lv_astore_nN (lv' := [(3, .null), (0, .ref (fa_B G + (b))), (1, .int (a1)), (2, .int (a2))]) hx hb dX3_takeSeal_5 rfl hl (by decide) rfl (fun ls hl => ?_)
    refine lv_iload_n hx hb dX3_takeSeal_6 rfl (lv_at hl 2 rfl) ?_
    refine fa_callSNip (As := [.int (a1)]) (rest := []) CX HX1179 (c_X6_isNoHolder l G n v r (a1)) (by decide +kernel) ln_X3_98 rfl rfl (Nat.le_of_ble_eq_true rfl) hl.1 ⟨Nat.le_of_ble_eq_true rfl, Nat.le_of_ble_eq_true rfl⟩ ⟨Nat.le_refl _, Nat.le_refl _⟩ dX3_takeSeal_7 (fun x1182 H locs h1181 HX1183 => ?_)
    have h_ns := h1181
    refine lv_if_ne (tgt := 27) hx hb dX3_takeSeal_10 (by decide) (fun c_10 => ?_) (fun c_10 => ?_)
    · refine lv_iconst (v := (-1 : Int32)) hx hb dX3_takeSeal_27 (by decide) ?_
      exact RET _ _ _ _ _ _ _ HX1183 dX3_takeSeal_28 (⟨rfl, ⟨hI, fa_fr.rf⟩⟩)
    · obtain ⟨jh, hjh, ejh⟩ := fa_ix7 (by decide) (fa_ifn h_ns (by first | exact c_10 | exact Decidable.not_not.mp c_10))
      refine lv_aload_nN hx hb dX3_takeSeal_13 rfl (lv_at hl 0 rfl) ?_
      refine lv_ifnullN (tgt := 27) hx hb dX3_takeSeal_14 (by decide) ?_
      refine lv_iconst (v := (-1 : Int32)) hx hb dX3_takeSeal_27 (by decide) ?_
      exact RET _ _ _ _ _ _ _ HX1183 dX3_takeSeal_28 (⟨rfl, ⟨hI, fa_fr.rf⟩⟩)
  · have hf_q1180 := h1178.1 q1180 rfl
    have hq1180 := hf_q1180.1
    have hiq1180 := fa_isF_in hq1180
    refine lv_astore_n (lv' := [(3, .ref (fa_B G + (q1180))), (0, .ref (fa_B G + (b))), (1, .int (a1)), (2, .int (a2))]) hx hb dX3_takeSeal_5 rfl hl (by decide) rfl (fun ls hl => ?_)
    refine lv_iload_n hx hb dX3_takeSeal_6 rfl (lv_at hl 2 rfl) ?_
    refine fa_callSNip (As := [.int (a1)]) (rest := []) CX HX1179 (c_X6_isNoHolder l G n v r (a1)) (by decide +kernel) ln_X3_98 rfl rfl (Nat.le_of_ble_eq_true rfl) hl.1 ⟨Nat.le_of_ble_eq_true rfl, Nat.le_of_ble_eq_true rfl⟩ ⟨Nat.le_refl _, Nat.le_refl _⟩ dX3_takeSeal_7 (fun x1185 H locs h1184 HX1186 => ?_)
    have h_ns := h1184
    refine lv_if_ne (tgt := 27) hx hb dX3_takeSeal_10 (by decide) (fun c_10 => ?_) (fun c_10 => ?_)
    · refine lv_iconst (v := (-1 : Int32)) hx hb dX3_takeSeal_27 (by decide) ?_
      exact RET _ _ _ _ _ _ _ HX1186 dX3_takeSeal_28 (⟨rfl, ⟨hI, fa_fr.rf⟩⟩)
    · obtain ⟨jh, hjh, ejh⟩ := fa_ix7 (by decide) (fa_ifn h_ns (by first | exact c_10 | exact Decidable.not_not.mp c_10))
      refine lv_aload_n hx hb dX3_takeSeal_13 rfl (lv_at hl 0 rfl) ?_
      refine lv_ifnull hx hb dX3_takeSeal_14 ?_
      refine lv_aload_n hx hb dX3_takeSeal_17 rfl (lv_at hl 0 rfl) ?_
      refine fa_getr (k := q1180) (j := q1180 + 1) CX HX1186 fl_X3_102 (fa_isF_lt hB hq1180 hn) (fa_isF_sh hB hq1180) rfl (fa_isF_ref hr hq1180) dX3_takeSeal_18 ?_
      refine lv_iload_n hx hb dX3_takeSeal_21 rfl (lv_at hl 2 rfl) ?_
      rw [show a1 = nI (jh) from ejh]
      refine fa_iald (k := q1180 + 1) (j := jh) CX HX1186 (fa_isF_lt1 hB hq1180 hn) (fa_isF_sh1 hB hq1180) (by omega) (by first | decide | assumption) dX3_takeSeal_22 ?_
      refine lv_iconst (v := (-1 : Int32)) hx hb dX3_takeSeal_23 (by decide) ?_
      refine lv_icmp_ne (tgt := 29) hx hb dX3_takeSeal_24 (by decide) (fun c_24 => ?_) (fun c_24 => ?_)
      · refine lv_aload_n hx hb dX3_takeSeal_29 rfl (lv_at hl 0 rfl) ?_
        refine fa_getr (k := q1180) (j := q1180 + 1) CX HX1186 fl_X3_102 (fa_isF_lt hB hq1180 hn) (fa_isF_sh hB hq1180) rfl (fa_isF_ref hr hq1180) dX3_takeSeal_30 ?_
        refine lv_iload_n hx hb dX3_takeSeal_33 rfl (lv_at hl 2 rfl) ?_
        rw [show a1 = nI (jh) from ejh]
        refine lv_iconst (v := (-1 : Int32)) hx hb dX3_takeSeal_34 (by decide) ?_
        refine fa_iast (k := q1180 + 1) (j := jh) CX HX1186 (fa_isF_lt1 hB hq1180 hn) (fa_isF_sh1 hB hq1180) (by omega) (by first | decide | assumption) dX3_takeSeal_35 (fun H locs v1187 e1188 HX1189 => ?_)
        refine lv_aload_n hx hb dX3_takeSeal_36 rfl (lv_at hl 0 rfl) ?_
        refine lv_aload_n hx hb dX3_takeSeal_37 rfl (lv_at hl 1 rfl) ?_
        refine fa_geti (k := b) CX HX1189 fl_X3_45 (fa_lt hB 0 (by decide) hn) (fa_s0 hB) rfl dX3_takeSeal_38 ?_
        refine fa_callVip (As := [.int (v1187 b 0)]) (rest := []) CX HX1189 (g_holdersOn l G n hn v1187 r b hB hr (by rw [e1188]; exact fa_IS.u hI (Or.inr (Or.inr (Or.inl (fa_isF.seal hq1180))))) q1180 (v1187 b 0) hq1180 ) ln_X3_105 (fa_isF_lt hB hq1180 hn) (fa_isF_sh hB hq1180) rfl rfl rfl (Nat.le_of_ble_eq_true rfl) hl.1 ⟨Nat.le_of_ble_eq_true rfl, Nat.le_of_ble_eq_true rfl⟩ ⟨Nat.le_refl _, Nat.le_refl _⟩ dX3_takeSeal_41 (fun x1191 H locs h1190 HX1192 => ?_)
        have h_holdersOn := h1190
        refine fa_callSip (As := [.int (x1191)]) (rest := []) CX HX1192 (g_bitCount l G n v1187 r (x1191)) ln_X3_109 rfl rfl (Nat.le_of_ble_eq_true rfl) hl.1 ⟨Nat.le_of_ble_eq_true rfl, Nat.le_of_ble_eq_true rfl⟩ ⟨Nat.le_refl _, Nat.le_refl _⟩ dX3_takeSeal_44 (fun x1194 H locs h1193 HX1195 => ?_)
        have h_bitCount := h1193
        exact RET _ _ _ _ _ _ _ HX1195 dX3_takeSeal_47 (⟨rfl, ⟨(by rw [e1188]; exact fa_IS.u hI (Or.inr (Or.inr (Or.inl (fa_isF.seal hq1180))))), (by rw [e1188]; exact fa_fr.u fa_fr.rf (by omega))⟩⟩)
      · refine lv_iconst (v := (-1 : Int32)) hx hb dX3_takeSeal_27 (by decide) ?_
        exact RET _ _ _ _ _ _ _ HX1186 dX3_takeSeal_28 (⟨rfl, ⟨hI, fa_fr.rf⟩⟩)
set_option maxHeartbeats 4000000 in
set_option maxRecDepth 100000 in
theorem g_putReference (l : Launch) (G : fa_G) (n : Nat) (hn : 397 ≤ n) (v : fa_V) (r : fa_R) (b : Nat) (hB : b ∈ fa_bs) (hr : fa_RS r b) (hI : fa_IS v b) (a1 : Int32) (a2 : Int32) : fa_MI l G n yX3_putReference cX3_putReference 4 (some .int) 2 [.ref (fa_B G + (b)), .int (a1), .int (a2)] v r (fa_voi r (fun x v1 => (fa_IS v1 b) ∧ (fa_fr (b) (b + 56) v v1))) := by
  refine fa_startI (by decide +kernel) (Nat.le_of_ble_eq_true rfl) (fun p e s m args below meth c ls Q CX hl HX RET => ?_)
  have hl : lv_has ls 4 [(0, .ref (fa_B G + (b))), (1, .int (a1)), (2, .int (a2))] := hl
  have hx := CX.1.1
  have hb := CX.1.2.1
  refine lv_aload_n hx hb dX3_putReference_0 rfl (lv_at hl 0 rfl) ?_
  refine lv_iload_n hx hb dX3_putReference_1 rfl (lv_at hl 1 rfl) ?_
  refine fa_callVrp (As := [.int (a1)]) (rest := []) CX HX (g_find l G n hn v r b hB hr hI (a1) ) ln_X3_88 (fa_lt hB 0 (by decide) hn) (fa_s0 hB) rfl rfl rfl (Nat.le_of_ble_eq_true rfl) hl.1 ⟨Nat.le_of_ble_eq_true rfl, Nat.le_of_ble_eq_true rfl⟩ ⟨Nat.le_refl _, Nat.le_refl _⟩ dX3_putReference_2 (fun H locs h1196 HX1197 => ?_) (fun q1198 H locs h1196 HX1197 => ?_)
  · have hf_none := h1196.2 rfl
    refine lv_astore_nN (lv' := [(3, .null), (0, .ref (fa_B G + (b))), (1, .int (a1)), (2, .int (a2))]) hx hb dX3_putReference_5 rfl hl (by decide) rfl (fun ls hl => ?_)
    refine lv_aload_nN hx hb dX3_putReference_6 rfl (lv_at hl 0 rfl) ?_
    refine lv_ifnullN (tgt := 18) hx hb dX3_putReference_7 (by decide) ?_
    refine lv_iconst (v := (-1 : Int32)) hx hb dX3_putReference_18 (by decide) ?_
    exact RET _ _ _ _ _ _ _ HX1197 dX3_putReference_19 (⟨rfl, ⟨hI, fa_fr.rf⟩⟩)
  · have hf_q1198 := h1196.1 q1198 rfl
    have hq1198 := hf_q1198.1
    have hiq1198 := fa_isF_in hq1198
    refine lv_astore_n (lv' := [(3, .ref (fa_B G + (q1198))), (0, .ref (fa_B G + (b))), (1, .int (a1)), (2, .int (a2))]) hx hb dX3_putReference_5 rfl hl (by decide) rfl (fun ls hl => ?_)
    refine lv_aload_n hx hb dX3_putReference_6 rfl (lv_at hl 0 rfl) ?_
    refine lv_ifnull hx hb dX3_putReference_7 ?_
    refine lv_aload_n hx hb dX3_putReference_10 rfl (lv_at hl 1 rfl) ?_
    refine lv_iload_n hx hb dX3_putReference_11 rfl (lv_at hl 3 rfl) ?_
    refine fa_callVrp (As := [.int (a2)]) (rest := []) CX HX1197 (g_find l G n hn v r b hB hr hI (a2) ) ln_X3_88 (fa_lt hB 0 (by decide) hn) (fa_s0 hB) rfl rfl rfl (Nat.le_of_ble_eq_true rfl) hl.1 ⟨Nat.le_of_ble_eq_true rfl, Nat.le_of_ble_eq_true rfl⟩ ⟨Nat.le_refl _, Nat.le_refl _⟩ dX3_putReference_12 (fun H locs h1199 HX1200 => ?_) (fun q1201 H locs h1199 HX1200 => ?_)
    · have hf_none := h1199.2 rfl
      refine lv_ifnonnullN hx hb dX3_putReference_15 ?_
      refine lv_iconst (v := (-1 : Int32)) hx hb dX3_putReference_18 (by decide) ?_
      exact RET _ _ _ _ _ _ _ HX1200 dX3_putReference_19 (⟨rfl, ⟨hI, fa_fr.rf⟩⟩)
    · have hf_q1201 := h1199.1 q1201 rfl
      have hq1201 := hf_q1201.1
      have hiq1201 := fa_isF_in hq1201
      refine lv_ifnonnull (tgt := 20) hx hb dX3_putReference_15 (by decide) ?_
      refine lv_aload_n hx hb dX3_putReference_20 rfl (lv_at hl 0 rfl) ?_
      refine lv_iload_n hx hb dX3_putReference_21 rfl (lv_at hl 3 rfl) ?_
      refine fa_puti (k := q1198) CX HX1200 fl_X3_114 (fa_isF_lt hB hq1198 hn) (fa_isF_sh hB hq1198) rfl rfl rfl dX3_putReference_22 (fun H locs v1202 e1203 HX1204 => ?_)
      refine lv_aload_n hx hb dX3_putReference_25 rfl (lv_at hl 1 rfl) ?_
      refine lv_iload_n hx hb dX3_putReference_26 rfl (lv_at hl 3 rfl) ?_
      refine fa_callVip (As := [.int (a2)]) (rest := []) CX HX1204 (g_referrersOf l G n hn v1202 r b hB hr (by rw [e1203]; exact fa_IS.u hI (Or.inr (Or.inl ⟨hq1198, by decide⟩))) (a2) ) ln_X3_117 (fa_lt hB 0 (by decide) hn) (fa_s0 hB) rfl rfl rfl (Nat.le_of_ble_eq_true rfl) hl.1 ⟨Nat.le_of_ble_eq_true rfl, Nat.le_of_ble_eq_true rfl⟩ ⟨Nat.le_refl _, Nat.le_refl _⟩ dX3_putReference_27 (fun x1206 H locs h1205 HX1207 => ?_)
      have h_referrersOf := h1205
      exact RET _ _ _ _ _ _ _ HX1207 dX3_putReference_30 (⟨rfl, ⟨(by rw [e1203]; exact fa_IS.u hI (Or.inr (Or.inl ⟨hq1198, by decide⟩))), (by rw [e1203]; exact fa_fr.u fa_fr.rf (by omega))⟩⟩)
set_option maxHeartbeats 4000000 in
set_option maxRecDepth 100000 in
theorem g_putReservation (l : Launch) (G : fa_G) (n : Nat) (hn : 397 ≤ n) (v : fa_V) (r : fa_R) (b : Nat) (hB : b ∈ fa_bs) (hr : fa_RS r b) (hI : fa_IS v b) (a1 : Int32) (a2 : Int32) : fa_MI l G n yX3_putReservation cX3_putReservation 3 (some .int) 3 [.ref (fa_B G + (b)), .int (a1), .int (a2)] v r (fa_voi r (fun x v1 => (fa_IS v1 b) ∧ (fa_fr (b) (b + 56) v v1))) := by
  refine fa_startI (by decide +kernel) (Nat.le_of_ble_eq_true rfl) (fun p e s m args below meth c ls Q CX hl HX RET => ?_)
  have hl : lv_has ls 3 [(0, .ref (fa_B G + (b))), (1, .int (a1)), (2, .int (a2))] := hl
  have hx := CX.1.1
  have hb := CX.1.2.1
  refine lv_aload_n hx hb dX3_putReservation_0 rfl (lv_at hl 0 rfl) ?_
  refine lv_iload_n hx hb dX3_putReservation_1 rfl (lv_at hl 1 rfl) ?_
  refine fa_callVrp (As := [.int (a1)]) (rest := []) CX HX (g_find l G n hn v r b hB hr hI (a1) ) ln_X3_88 (fa_lt hB 0 (by decide) hn) (fa_s0 hB) rfl rfl rfl (Nat.le_of_ble_eq_true rfl) hl.1 ⟨Nat.le_of_ble_eq_true rfl, Nat.le_of_ble_eq_true rfl⟩ ⟨Nat.le_refl _, Nat.le_refl _⟩ dX3_putReservation_2 (fun H locs h1208 HX1209 => ?_) (fun q1210 H locs h1208 HX1209 => ?_)
  · have hf_none := h1208.2 rfl
    refine lv_ifnonnullN hx hb dX3_putReservation_5 ?_
    refine lv_iconst (v := (-1 : Int32)) hx hb dX3_putReservation_8 (by decide) ?_
    exact RET _ _ _ _ _ _ _ HX1209 dX3_putReservation_9 (⟨rfl, ⟨hI, fa_fr.rf⟩⟩)
  · have hf_q1210 := h1208.1 q1210 rfl
    have hq1210 := hf_q1210.1
    have hiq1210 := fa_isF_in hq1210
    refine lv_ifnonnull (tgt := 10) hx hb dX3_putReservation_5 (by decide) ?_
    refine lv_iload_n hx hb dX3_putReservation_10 rfl (lv_at hl 2 rfl) ?_
    refine lv_aload_n hx hb dX3_putReservation_11 rfl (lv_at hl 0 rfl) ?_
    refine fa_geti (k := b) CX HX1209 fl_X3_45 (fa_lt hB 0 (by decide) hn) (fa_s0 hB) rfl dX3_putReservation_12 ?_
    refine lv_icmp_le (tgt := 25) hx hb dX3_putReservation_15 (by decide) (fun c_15 => ?_) (fun c_15 => ?_)
    · refine lv_bipush (v := (-2 : Int32)) hx hb dX3_putReservation_25 (by decide) ?_
      exact RET _ _ _ _ _ _ _ HX1209 dX3_putReservation_27 (⟨rfl, ⟨hI, fa_fr.rf⟩⟩)
    · refine lv_iload_n hx hb dX3_putReservation_18 rfl (lv_at hl 2 rfl) ?_
      refine lv_sipush (v := nI (9999)) hx hb dX3_putReservation_19 (by decide) ?_
      refine lv_icmp_le (tgt := 28) hx hb dX3_putReservation_22 (by decide) (fun c_22 => ?_) (fun c_22 => ?_)
      · refine lv_aload_n hx hb dX3_putReservation_28 rfl (lv_at hl 0 rfl) ?_
        refine fa_getr (k := b) (j := b + 2) CX HX1209 fl_X3_20 (fa_lt hB 0 (by decide) hn) (fa_s0 hB) rfl hr.2.1 dX3_putReservation_29 ?_
        refine lv_iload_n hx hb dX3_putReservation_32 rfl (lv_at hl 1 rfl) ?_
        refine lv_iload_n hx hb dX3_putReservation_33 rfl (lv_at hl 2 rfl) ?_
        refine fa_callVip (As := [.int (a1), .int (a2)]) (rest := []) CX HX1209 (g_placeOf l G n hn v r b hB hr hI (a1) (a2) ) ln_X3_120 (fa_lt hB 2 (by decide) hn) (fa_s2 hB) rfl rfl rfl (Nat.le_of_ble_eq_true rfl) hl.1 ⟨Nat.le_of_ble_eq_true rfl, Nat.le_of_ble_eq_true rfl⟩ ⟨Nat.le_refl _, Nat.le_refl _⟩ dX3_putReservation_34 (fun x1212 H locs h1211 HX1213 => ?_)
        have h_placeOf := h1211
        refine lv_if_lt (tgt := 43) hx hb dX3_putReservation_37 (by decide) (fun c_37 => ?_) (fun c_37 => ?_)
        · refine lv_aload_n hx hb dX3_putReservation_43 rfl (lv_at hl 0 rfl) ?_
          refine fa_getr (k := b) (j := b + 2) CX HX1213 fl_X3_20 (fa_lt hB 0 (by decide) hn) (fa_s0 hB) rfl hr.2.1 dX3_putReservation_44 ?_
          refine fa_geti (k := b + 2) CX HX1213 fl_X3_124 (fa_lt hB 2 (by decide) hn) (fa_s2 hB) rfl dX3_putReservation_47 ?_
          refine lv_bipush (v := nI (8)) hx hb dX3_putReservation_50 (by decide) ?_
          refine lv_icmp_lt (tgt := 58) hx hb dX3_putReservation_52 (by decide) (fun c_52 => ?_) (fun c_52 => ?_)
          · refine lv_aload_n hx hb dX3_putReservation_58 rfl (lv_at hl 0 rfl) ?_
            refine fa_getr (k := b) (j := b + 2) CX HX1213 fl_X3_20 (fa_lt hB 0 (by decide) hn) (fa_s0 hB) rfl hr.2.1 dX3_putReservation_59 ?_
            refine lv_iload_n hx hb dX3_putReservation_62 rfl (lv_at hl 1 rfl) ?_
            refine lv_iload_n hx hb dX3_putReservation_63 rfl (lv_at hl 2 rfl) ?_
            refine fa_callVvu (As := [.int (a1), .int (a2)]) (rest := []) CX HX1213 (g_insert l G n hn v r b hB hr hI (a1) (a2) ) ln_X3_127 (fa_lt hB 2 (by decide) hn) (fa_s2 hB) rfl rfl rfl (Nat.le_of_ble_eq_true rfl) hl.1 ⟨Nat.le_of_ble_eq_true rfl, Nat.le_of_ble_eq_true rfl⟩ ⟨Nat.le_refl _, Nat.le_refl _⟩ dX3_putReservation_64 (fun v1215 H locs h1214 HX1216 => ?_)
            have h_insert := h1214.1
            have hIS_v1215 : fa_IS v1215 b := h1214.1
            refine lv_aload_n hx hb dX3_putReservation_67 rfl (lv_at hl 0 rfl) ?_
            refine fa_getr (k := b) (j := b + 2) CX HX1216 fl_X3_20 (fa_lt hB 0 (by decide) hn) (fa_s0 hB) rfl hr.2.1 dX3_putReservation_68 ?_
            refine fa_geti (k := b + 2) CX HX1216 fl_X3_124 (fa_lt hB 2 (by decide) hn) (fa_s2 hB) rfl dX3_putReservation_71 ?_
            exact RET _ _ _ _ _ _ _ HX1216 dX3_putReservation_74 (⟨rfl, ⟨hIS_v1215, (fa_fr.tr fa_fr.rf (fa_fr.wide h1214.2 (by omega) (by omega)))⟩⟩)
          · refine lv_bipush (v := (-4 : Int32)) hx hb dX3_putReservation_55 (by decide) ?_
            exact RET _ _ _ _ _ _ _ HX1213 dX3_putReservation_57 (⟨rfl, ⟨hI, fa_fr.rf⟩⟩)
        · refine lv_bipush (v := (-5 : Int32)) hx hb dX3_putReservation_40 (by decide) ?_
          exact RET _ _ _ _ _ _ _ HX1213 dX3_putReservation_42 (⟨rfl, ⟨hI, fa_fr.rf⟩⟩)
      · refine lv_bipush (v := (-2 : Int32)) hx hb dX3_putReservation_25 (by decide) ?_
        exact RET _ _ _ _ _ _ _ HX1209 dX3_putReservation_27 (⟨rfl, ⟨hI, fa_fr.rf⟩⟩)
set_option maxHeartbeats 4000000 in
set_option maxRecDepth 100000 in
theorem g_takeReservation (l : Launch) (G : fa_G) (n : Nat) (hn : 397 ≤ n) (v : fa_V) (r : fa_R) (b : Nat) (hB : b ∈ fa_bs) (hr : fa_RS r b) (hI : fa_IS v b) (a1 : Int32) (a2 : Int32) : fa_MI l G n yX3_takeReservation cX3_takeReservation 4 (some .int) 2 [.ref (fa_B G + (b)), .int (a1), .int (a2)] v r (fa_voi r (fun x v1 => (fa_IS v1 b) ∧ (fa_fr (b) (b + 56) v v1))) := by
  refine fa_startI (by decide +kernel) (Nat.le_of_ble_eq_true rfl) (fun p e s m args below meth c ls Q CX hl HX RET => ?_)
  have hl : lv_has ls 4 [(0, .ref (fa_B G + (b))), (1, .int (a1)), (2, .int (a2))] := hl
  have hx := CX.1.1
  have hb := CX.1.2.1
  refine lv_aload_n hx hb dX3_takeReservation_0 rfl (lv_at hl 0 rfl) ?_
  refine fa_getr (k := b) (j := b + 2) CX HX fl_X3_20 (fa_lt hB 0 (by decide) hn) (fa_s0 hB) rfl hr.2.1 dX3_takeReservation_1 ?_
  refine lv_iload_n hx hb dX3_takeReservation_4 rfl (lv_at hl 1 rfl) ?_
  refine lv_iload_n hx hb dX3_takeReservation_5 rfl (lv_at hl 2 rfl) ?_
  refine fa_callVip (As := [.int (a1), .int (a2)]) (rest := []) CX HX (g_placeOf l G n hn v r b hB hr hI (a1) (a2) ) ln_X3_120 (fa_lt hB 2 (by decide) hn) (fa_s2 hB) rfl rfl rfl (Nat.le_of_ble_eq_true rfl) hl.1 ⟨Nat.le_of_ble_eq_true rfl, Nat.le_of_ble_eq_true rfl⟩ ⟨Nat.le_refl _, Nat.le_refl _⟩ dX3_takeReservation_6 (fun x1218 H locs h1217 HX1219 => ?_)
  have h_placeOf := h1217
  refine lv_istore_n (lv' := [(3, .int (x1218)), (0, .ref (fa_B G + (b))), (1, .int (a1)), (2, .int (a2))]) hx hb dX3_takeReservation_9 rfl hl (by decide) rfl (fun ls hl => ?_)
  refine lv_iload_n hx hb dX3_takeReservation_10 rfl (lv_at hl 0 rfl) ?_
  refine lv_if_ge (tgt := 16) hx hb dX3_takeReservation_11 (by decide) (fun c_11 => ?_) (fun c_11 => ?_)
  · refine lv_aload_n hx hb dX3_takeReservation_16 rfl (lv_at hl 1 rfl) ?_
    refine fa_getr (k := b) (j := b + 2) CX HX1219 fl_X3_20 (fa_lt hB 0 (by decide) hn) (fa_s0 hB) rfl hr.2.1 dX3_takeReservation_17 ?_
    refine lv_iload_n hx hb dX3_takeReservation_20 rfl (lv_at hl 0 rfl) ?_
    refine fa_callVvu (As := [.int (x1218)]) (rest := []) CX HX1219 (g_removeAt l G n hn v r b hB hr hI (x1218) ) ln_X3_131 (fa_lt hB 2 (by decide) hn) (fa_s2 hB) rfl rfl rfl (Nat.le_of_ble_eq_true rfl) hl.1 ⟨Nat.le_of_ble_eq_true rfl, Nat.le_of_ble_eq_true rfl⟩ ⟨Nat.le_refl _, Nat.le_refl _⟩ dX3_takeReservation_21 (fun v1221 H locs h1220 HX1222 => ?_)
    have h_removeAt := h1220.1
    have hIS_v1221 : fa_IS v1221 b := h1220.1
    refine lv_aload_n hx hb dX3_takeReservation_24 rfl (lv_at hl 1 rfl) ?_
    refine fa_getr (k := b) (j := b + 2) CX HX1222 fl_X3_20 (fa_lt hB 0 (by decide) hn) (fa_s0 hB) rfl hr.2.1 dX3_takeReservation_25 ?_
    refine fa_geti (k := b + 2) CX HX1222 fl_X3_124 (fa_lt hB 2 (by decide) hn) (fa_s2 hB) rfl dX3_takeReservation_28 ?_
    exact RET _ _ _ _ _ _ _ HX1222 dX3_takeReservation_31 (⟨rfl, ⟨hIS_v1221, (fa_fr.tr fa_fr.rf (fa_fr.wide h1220.2 (by omega) (by omega)))⟩⟩)
  · refine lv_iconst (v := (-1 : Int32)) hx hb dX3_takeReservation_14 (by decide) ?_
    exact RET _ _ _ _ _ _ _ HX1219 dX3_takeReservation_15 (⟨rfl, ⟨hI, fa_fr.rf⟩⟩)
set_option maxHeartbeats 4000000 in
set_option maxRecDepth 100000 in
theorem g_changeSetting (l : Launch) (G : fa_G) (n : Nat) (hn : 397 ≤ n) (v : fa_V) (r : fa_R) (b : Nat) (hB : b ∈ fa_bs) (hr : fa_RS r b) (hI : fa_IS v b) (a1 : Int32) (a2 : Int32) : fa_MI l G n yX3_changeSetting cX3_changeSetting 4 (some .int) 2 [.ref (fa_B G + (b)), .int (a1), .int (a2)] v r (fa_voi r (fun x v1 => (fa_IS v1 b) ∧ (fa_fr (b) (b + 56) v v1))) := by
  refine fa_startI (by decide +kernel) (Nat.le_of_ble_eq_true rfl) (fun p e s m args below meth c ls Q CX hl HX RET => ?_)
  have hl : lv_has ls 4 [(0, .ref (fa_B G + (b))), (1, .int (a1)), (2, .int (a2))] := hl
  have hx := CX.1.1
  have hb := CX.1.2.1
  refine lv_iload_n hx hb dX3_changeSetting_0 rfl (lv_at hl 1 rfl) ?_
  refine fa_callSNip (As := [.int (a1)]) (rest := []) CX HX (c_X6_isNoSetting l G n v r (a1)) (by decide +kernel) ln_X3_138 rfl rfl (Nat.le_of_ble_eq_true rfl) hl.1 ⟨Nat.le_of_ble_eq_true rfl, Nat.le_of_ble_eq_true rfl⟩ ⟨Nat.le_refl _, Nat.le_refl _⟩ dX3_changeSetting_1 (fun x1224 H locs h1223 HX1225 => ?_)
  have h_ns := h1223
  refine lv_if_eq (tgt := 9) hx hb dX3_changeSetting_4 (by decide) (fun c_4 => ?_) (fun c_4 => ?_)
  · obtain ⟨jh, hjh, ejh⟩ := fa_ix7 (by decide) (fa_ifn h_ns c_4)
    refine lv_iload_n hx hb dX3_changeSetting_9 rfl (lv_at hl 2 rfl) ?_
    refine fa_getst (j := 1) CX HX1225 (by decide) (by decide +kernel) dX3_changeSetting_10 ?_
    refine lv_iload_n hx hb dX3_changeSetting_13 rfl (lv_at hl 1 rfl) ?_
    rw [show a1 = nI (jh) from ejh]
    refine fa_sald (j := 1) (i := jh) CX HX1225 (by decide) (by omega) dX3_changeSetting_14 ?_
    refine lv_icmp_lt (tgt := 27) hx hb dX3_changeSetting_15 (by decide) (fun c_15 => ?_) (fun c_15 => ?_)
    · refine lv_bipush (v := (-2 : Int32)) hx hb dX3_changeSetting_27 (by decide) ?_
      exact RET _ _ _ _ _ _ _ HX1225 dX3_changeSetting_29 (⟨rfl, ⟨hI, fa_fr.rf⟩⟩)
    · refine lv_iload_n hx hb dX3_changeSetting_18 rfl (lv_at hl 2 rfl) ?_
      refine fa_getst (j := 2) CX HX1225 (by decide) (by decide +kernel) dX3_changeSetting_19 ?_
      refine lv_iload_n hx hb dX3_changeSetting_22 rfl (lv_at hl 1 rfl) ?_
      rw [show a1 = nI (jh) from ejh]
      refine fa_sald (j := 2) (i := jh) CX HX1225 (by decide) (by omega) dX3_changeSetting_23 ?_
      refine lv_icmp_le (tgt := 30) hx hb dX3_changeSetting_24 (by decide) (fun c_24 => ?_) (fun c_24 => ?_)
      · refine lv_aload_n hx hb dX3_changeSetting_30 rfl (lv_at hl 0 rfl) ?_
        refine fa_getr (k := b) (j := b + 7) CX HX1225 fl_X3_31 (fa_lt hB 0 (by decide) hn) (fa_s0 hB) rfl hr.2.2.2.1 dX3_changeSetting_31 ?_
        refine lv_iload_n hx hb dX3_changeSetting_34 rfl (lv_at hl 1 rfl) ?_
        rw [show a1 = nI (jh) from ejh]
        refine fa_iald (k := b + 7) (j := jh) CX HX1225 (fa_lt hB 7 (by decide) hn) (fa_s7 hB) (by omega) (by first | decide | assumption) dX3_changeSetting_35 ?_
        refine lv_istore_n (lv' := [(3, .int (v (b + 7) jh)), (0, .ref (fa_B G + (b))), (1, .int (a1)), (2, .int (a2))]) hx hb dX3_changeSetting_36 rfl hl (by decide) rfl (fun ls hl => ?_)
        refine lv_aload_n hx hb dX3_changeSetting_37 rfl (lv_at hl 1 rfl) ?_
        refine fa_getr (k := b) (j := b + 7) CX HX1225 fl_X3_31 (fa_lt hB 0 (by decide) hn) (fa_s0 hB) rfl hr.2.2.2.1 dX3_changeSetting_38 ?_
        refine lv_iload_n hx hb dX3_changeSetting_41 rfl (lv_at hl 2 rfl) ?_
        rw [show a1 = nI (jh) from ejh]
        refine lv_iload_n hx hb dX3_changeSetting_42 rfl (lv_at hl 3 rfl) ?_
        refine fa_iast (k := b + 7) (j := jh) CX HX1225 (fa_lt hB 7 (by decide) hn) (fa_s7 hB) (by omega) (by first | decide | assumption) dX3_changeSetting_43 (fun H locs v1226 e1227 HX1228 => ?_)
        refine lv_iload_n hx hb dX3_changeSetting_44 rfl (lv_at hl 0 rfl) ?_
        exact RET _ _ _ _ _ _ _ HX1228 dX3_changeSetting_45 (⟨rfl, ⟨(by rw [e1227]; exact fa_IS.u hI (Or.inr (Or.inr (Or.inr (Or.inr (Or.inr (Or.inr (Or.inr (Or.inl rfl))))))))), (by rw [e1227]; exact fa_fr.u fa_fr.rf (by omega))⟩⟩)
      · refine lv_bipush (v := (-2 : Int32)) hx hb dX3_changeSetting_27 (by decide) ?_
        exact RET _ _ _ _ _ _ _ HX1225 dX3_changeSetting_29 (⟨rfl, ⟨hI, fa_fr.rf⟩⟩)
  · refine lv_iconst (v := (-1 : Int32)) hx hb dX3_changeSetting_7 (by decide) ?_
    exact RET _ _ _ _ _ _ _ HX1225 dX3_changeSetting_8 (⟨rfl, ⟨hI, fa_fr.rf⟩⟩)
