set_option maxHeartbeats 4000000 in
set_option maxRecDepth 100000 in
theorem g_addFile (l : Launch) (G : fa_G) (n : Nat) (hn : 397 ≤ n) (v : fa_V) (r : fa_R) (b : Nat) (hB : b ∈ fa_bs) (hr : fa_RS r b) (hI : fa_IS v b) (a1 : Int32) (a2 : Int32) : fa_MI l G n yX3_addFile cX3_addFile 3 (some .int) 3 [.ref (fa_B G + (b)), .int (a1), .int (a2)] v r (fa_voi r (fun x v1 => ((∀ A, fb_okA A → fb_cA v r b A → x = (fb_addA A a1 a2).1 ∧ fb_cA v1 r b (fb_addA A a1 a2).2) ∧ fa_IS v1 b) ∧ (fa_fr (b) (b + 56) v v1))) := by
  refine fa_startI (by decide +kernel) (Nat.le_of_ble_eq_true rfl) (fun p e s m args below meth c ls Q CX hl HX RET => ?_)
  have hl : lv_has ls 3 [(0, .ref (fa_B G + (b))), (1, .int (a1)), (2, .int (a2))] := hl
  have hx := CX.1.1
  have hb := CX.1.2.1
  obtain ⟨n0, en0⟩ : ∃ n0, n0 = fa_N (v b 1) := ⟨_, rfl⟩
  obtain ⟨hn0, h1⟩ := hI.n1 en0
  refine lv_iload_n hx hb dX3_addFile_0 rfl (lv_at hl 1 rfl) ?_
  refine lv_if_lt (tgt := 20) hx hb dX3_addFile_1 (by decide) (fun c_1 => ?_) (fun c_1 => ?_)
  · refine lv_bipush (v := (-2 : Int32)) hx hb dX3_addFile_20 (by decide) ?_
    exact RET _ _ _ _ _ _ _ HX dX3_addFile_22 (⟨rfl, ⟨⟨(fun A hok hc => fb_rs (fb_addA_1 (Or.inl c_1)) rfl hc), hI⟩, fa_fr.rf⟩⟩)
  · refine lv_iload_n hx hb dX3_addFile_4 rfl (lv_at hl 1 rfl) ?_
    refine lv_iconst (v := nI (4)) hx hb dX3_addFile_5 (by decide) ?_
    refine lv_icmp_gt (tgt := 20) hx hb dX3_addFile_6 (by decide) (fun c_6 => ?_) (fun c_6 => ?_)
    · refine lv_bipush (v := (-2 : Int32)) hx hb dX3_addFile_20 (by decide) ?_
      exact RET _ _ _ _ _ _ _ HX dX3_addFile_22 (⟨rfl, ⟨⟨(fun A hok hc => fb_rs (fb_addA_1 (Or.inr (Or.inl c_6))) rfl hc), hI⟩, fa_fr.rf⟩⟩)
    · refine lv_iload_n hx hb dX3_addFile_9 rfl (lv_at hl 2 rfl) ?_
      refine lv_iconst (v := nI (1)) hx hb dX3_addFile_10 (by decide) ?_
      refine lv_icmp_lt (tgt := 20) hx hb dX3_addFile_11 (by decide) (fun c_11 => ?_) (fun c_11 => ?_)
      · refine lv_bipush (v := (-2 : Int32)) hx hb dX3_addFile_20 (by decide) ?_
        exact RET _ _ _ _ _ _ _ HX dX3_addFile_22 (⟨rfl, ⟨⟨(fun A hok hc => fb_rs (fb_addA_1 (Or.inr (Or.inr (Or.inl c_11)))) rfl hc), hI⟩, fa_fr.rf⟩⟩)
      · refine lv_iload_n hx hb dX3_addFile_14 rfl (lv_at hl 2 rfl) ?_
        refine lv_bipush (v := nI (50)) hx hb dX3_addFile_15 (by decide) ?_
        refine lv_icmp_le (tgt := 23) hx hb dX3_addFile_17 (by decide) (fun c_17 => ?_) (fun c_17 => ?_)
        · obtain ⟨ka, hka, eka⟩ := fa_natLe (by decide) c_1 c_6
          refine lv_aload_n hx hb dX3_addFile_23 rfl (lv_at hl 0 rfl) ?_
          refine fa_geti (k := b) CX HX fl_X3_49 (fa_lt hB 0 (by decide) hn) (fa_s0 hB) rfl dX3_addFile_24 ?_
          rw [show v b 1 = nI (n0) from h1]
          refine lv_bipush (v := nI (24)) hx hb dX3_addFile_27 (by decide) ?_
          refine lv_icmp_ge (tgt := 58) hx hb dX3_addFile_29 (by decide) (fun c_29 => ?_) (fun c_29 => ?_)
          · refine lv_bipush (v := (-4 : Int32)) hx hb dX3_addFile_58 (by decide) ?_
            exact RET _ _ _ _ _ _ _ HX dX3_addFile_60 (⟨rfl, ⟨⟨(fun A hok hc => fb_rs (fb_addA_2 (fun z => z.elim c_1 (fun z => z.elim c_6 (fun z => z.elim c_11 (fun z => z c_17)))) (Or.inl ((by rw [← hc.n, ← en0]; exact fa_leN (by omega) (by omega) c_29)))) rfl hc), hI⟩, fa_fr.rf⟩⟩)
          · have hj := fa_ltN (by omega) (by omega) c_29
            refine lv_aload_n hx hb dX3_addFile_32 rfl (lv_at hl 0 rfl) ?_
            refine fa_geti (k := b) CX HX fl_X3_52 (fa_lt hB 0 (by decide) hn) (fa_s0 hB) rfl dX3_addFile_33 ?_
            refine lv_sipush (v := nI (200)) hx hb dX3_addFile_36 (by decide) ?_
            refine lv_icmp_ge (tgt := 58) hx hb dX3_addFile_39 (by decide) (fun c_39 => ?_) (fun c_39 => ?_)
            · refine lv_bipush (v := (-4 : Int32)) hx hb dX3_addFile_58 (by decide) ?_
              exact RET _ _ _ _ _ _ _ HX dX3_addFile_60 (⟨rfl, ⟨⟨(fun A hok hc => fb_rs (fb_addA_2 (fun z => z.elim c_1 (fun z => z.elim c_6 (fun z => z.elim c_11 (fun z => z c_17)))) (Or.inr (Or.inl ((by rw [← hc.gk 8 (by decide) (by decide)]; exact c_39))))) rfl hc), hI⟩, fa_fr.rf⟩⟩)
            · refine lv_aload_n hx hb dX3_addFile_42 rfl (lv_at hl 0 rfl) ?_
              refine fa_callVip (As := []) (rest := []) CX HX (g_storedPages l G n hn v r b hB hr hI  ) ln_X3_80 (fa_lt hB 0 (by decide) hn) (fa_s0 hB) rfl rfl rfl (Nat.le_of_ble_eq_true rfl) hl.1 ⟨Nat.le_of_ble_eq_true rfl, Nat.le_of_ble_eq_true rfl⟩ ⟨Nat.le_refl _, Nat.le_refl _⟩ dX3_addFile_43 (fun x1108 H locs h1107 HX1109 => ?_)
              have h_storedPages := h1107
              refine lv_iload_n hx hb dX3_addFile_46 rfl (lv_at hl 2 rfl) ?_
              refine lv_iadd hx hb dX3_addFile_47 ?_
              refine lv_aload_n hx hb dX3_addFile_48 rfl (lv_at hl 0 rfl) ?_
              refine fa_getr (k := b) (j := b + 7) CX HX1109 fl_X3_31 (fa_lt hB 0 (by decide) hn) (fa_s0 hB) rfl hr.2.2.2.1 dX3_addFile_49 ?_
              refine lv_bipush (v := nI (6)) hx hb dX3_addFile_52 (by decide) ?_
              refine fa_iald (k := b + 7) (j := 6) CX HX1109 (fa_lt hB 7 (by decide) hn) (fa_s7 hB) (by omega) (by first | decide | assumption) dX3_addFile_54 ?_
              refine lv_icmp_le (tgt := 61) hx hb dX3_addFile_55 (by decide) (fun c_55 => ?_) (fun c_55 => ?_)
              · refine lv_aload_n hx hb dX3_addFile_61 rfl (lv_at hl 0 rfl) ?_
                refine fa_getr (k := b) (j := b + 1) CX HX1109 fl_X3_11 (fa_lt hB 0 (by decide) hn) (fa_s0 hB) rfl hr.1 dX3_addFile_62 ?_
                refine lv_aload_n hx hb dX3_addFile_65 rfl (lv_at hl 0 rfl) ?_
                refine fa_geti (k := b) CX HX1109 fl_X3_49 (fa_lt hB 0 (by decide) hn) (fa_s0 hB) rfl dX3_addFile_66 ?_
                rw [show v b 1 = nI (n0) from h1]
                refine fa_aald (k := b + 1) (j := n0) (q := fa_pf r b n0) CX HX1109 (fa_lt hB 1 (by decide) hn) (fa_s1 hB) rfl (by decide) (by omega) (by first | decide | assumption) (fa_pf_at hr (by omega)) dX3_addFile_69 ?_
                refine lv_aload_n hx hb dX3_addFile_70 rfl (lv_at hl 0 rfl) ?_
                refine fa_geti (k := b) CX HX1109 fl_X3_52 (fa_lt hB 0 (by decide) hn) (fa_s0 hB) rfl dX3_addFile_71 ?_
                refine lv_iload_n hx hb dX3_addFile_74 rfl (lv_at hl 1 rfl) ?_
                rw [show a1 = nI (ka) from eka]
                refine lv_iload_n hx hb dX3_addFile_75 rfl (lv_at hl 2 rfl) ?_
                refine lv_aload_n hx hb dX3_addFile_76 rfl (lv_at hl 0 rfl) ?_
                refine fa_geti (k := b) CX HX1109 fl_X3_45 (fa_lt hB 0 (by decide) hn) (fa_s0 hB) rfl dX3_addFile_77 ?_
                refine fa_callVvu (As := [.int (v b 2), .int (nI (ka)), .int (a2), .int (v b 0)]) (rest := []) CX HX1109 (g_comeAs l G n hn v r b hB hr hI (fa_pf r b n0) (v b 2) (ka) (a2) (v b 0) (fa_pf_isF hr (by omega)) (by omega)) ln_X3_84 (fa_isF_lt hB (fa_pf_isF hr (by omega)) hn) (fa_isF_sh hB (fa_pf_isF hr (by omega))) rfl rfl rfl (Nat.le_of_ble_eq_true rfl) hl.1 ⟨Nat.le_of_ble_eq_true rfl, Nat.le_of_ble_eq_true rfl⟩ ⟨Nat.le_refl _, Nat.le_refl _⟩ dX3_addFile_80 (fun v1111 H locs h1110 HX1112 => ?_)
                have h_comeAs := h1110.1.2
                have hIS_v1111 : fa_IS v1111 b := h1110.1.1
                refine lv_aload_n hx hb dX3_addFile_83 rfl (lv_at hl 0 rfl) ?_
                refine lv_dup hx hb dX3_addFile_84 rfl ?_
                refine fa_geti (k := b) CX HX1112 fl_X3_49 (fa_lt hB 0 (by decide) hn) (fa_s0 hB) rfl dX3_addFile_85 ?_
                rw [show v1111 b 1 = nI (n0) from (by rw [h1110.2 _ (by omega)]; exact h1)]
                refine lv_iconst (v := nI (1)) hx hb dX3_addFile_88 (by decide) ?_
                refine fa_iaddN hx hb dX3_addFile_89 ?_
                refine fa_puti (k := b) CX HX1112 fl_X3_49 (fa_lt hB 0 (by decide) hn) (fa_s0 hB) rfl rfl rfl dX3_addFile_90 (fun H locs v1113 e1114 HX1115 => ?_)
                refine lv_aload_n hx hb dX3_addFile_93 rfl (lv_at hl 0 rfl) ?_
                refine lv_dup hx hb dX3_addFile_94 rfl ?_
                refine fa_geti (k := b) CX HX1115 fl_X3_52 (fa_lt hB 0 (by decide) hn) (fa_s0 hB) rfl dX3_addFile_95 ?_
                refine lv_iconst (v := nI (1)) hx hb dX3_addFile_98 (by decide) ?_
                refine lv_iadd hx hb dX3_addFile_99 ?_
                refine fa_puti (k := b) CX HX1115 fl_X3_52 (fa_lt hB 0 (by decide) hn) (fa_s0 hB) rfl rfl rfl dX3_addFile_100 (fun H locs v1116 e1117 HX1118 => ?_)
                refine lv_aload_n hx hb dX3_addFile_103 rfl (lv_at hl 0 rfl) ?_
                refine fa_geti (k := b) CX HX1118 fl_X3_52 (fa_lt hB 0 (by decide) hn) (fa_s0 hB) rfl dX3_addFile_104 ?_
                refine lv_iconst (v := nI (1)) hx hb dX3_addFile_107 (by decide) ?_
                refine lv_isub hx hb dX3_addFile_108 ?_
                exact RET _ _ _ _ _ _ _ HX1118 dX3_addFile_109 (⟨rfl, ⟨⟨(fun A hok hc => fb_rs (fb_addA_3 (fun z => z.elim c_1 (fun z => z.elim c_6 (fun z => z.elim c_11 (fun z => z c_17)))) (fun z => z.elim (fun z => by rw [← hc.n, ← en0] at z; omega) (fun z => z.elim (fun z => c_39 (by rw [← hc.gk 8 (by decide) (by decide)] at z; exact z)) (fun z => z (by rw [← hc.pgs, ← hc.set (k := 6) (by decide), ← h_storedPages]; exact c_55))))) (fb_c_newx (k := a1) (p := a2) hc (by rw [← hc.n, ← en0]; exact hj) (by rw [← hc.n, ← en0]) (by rw [eka]; exact h_comeAs) e1114 e1117) (fb_c_new (k := a1) (p := a2) hc (by rw [← hc.n, ← en0]; exact hj) (by rw [← hc.n, ← en0]) (by rw [eka]; exact h_comeAs) e1114 e1117)), (by rw [e1117]; exact fa_IS.u (by rw [e1114]; exact fa_IS.set1 hIS_v1111 (by omega)) (Or.inl ⟨rfl, by decide⟩))⟩, (by rw [e1117]; exact fa_fr.u (by rw [e1114]; exact fa_fr.u (fa_fr.tr fa_fr.rf (fa_fr.wide h1110.2 (by omega) (by omega))) (by omega)) (by omega))⟩⟩)
              · refine lv_bipush (v := (-4 : Int32)) hx hb dX3_addFile_58 (by decide) ?_
                exact RET _ _ _ _ _ _ _ HX1109 dX3_addFile_60 (⟨rfl, ⟨⟨(fun A hok hc => fb_rs (fb_addA_2 (fun z => z.elim c_1 (fun z => z.elim c_6 (fun z => z.elim c_11 (fun z => z c_17)))) (Or.inr (Or.inr ((by rw [← hc.pgs, ← hc.set (k := 6) (by decide), ← h_storedPages]; exact c_55))))) rfl hc), hI⟩, fa_fr.rf⟩⟩)
        · refine lv_bipush (v := (-2 : Int32)) hx hb dX3_addFile_20 (by decide) ?_
          exact RET _ _ _ _ _ _ _ HX dX3_addFile_22 (⟨rfl, ⟨⟨(fun A hok hc => fb_rs (fb_addA_1 (Or.inr (Or.inr (Or.inr (c_17))))) rfl hc), hI⟩, fa_fr.rf⟩⟩)
set_option maxHeartbeats 4000000 in
set_option maxRecDepth 100000 in
theorem g_askFor (l : Launch) (G : fa_G) (n : Nat) (hn : 397 ≤ n) (v : fa_V) (r : fa_R) (b : Nat) (hB : b ∈ fa_bs) (hr : fa_RS r b) (hI : fa_IS v b) (a1 : Int32) : fa_MI l G n yX3_askFor cX3_askFor 3 (some .int) 2 [.ref (fa_B G + (b)), .int (a1)] v r (fa_voi r (fun x v1 => ((∀ A, fb_okA A → fb_cA v r b A → x = (fb_askA A a1).1 ∧ fb_cA v1 r b (fb_askA A a1).2) ∧ fa_IS v1 b) ∧ (fa_fr (b) (b + 56) v v1))) := by
  refine fa_startI (by decide +kernel) (Nat.le_of_ble_eq_true rfl) (fun p e s m args below meth c ls Q CX hl HX RET => ?_)
  have hl : lv_has ls 3 [(0, .ref (fa_B G + (b))), (1, .int (a1))] := hl
  have hx := CX.1.1
  have hb := CX.1.2.1
  refine lv_iload_n hx hb dX3_askFor_0 rfl (lv_at hl 1 rfl) ?_
  refine lv_if_lt (tgt := 12) hx hb dX3_askFor_1 (by decide) (fun c_1 => ?_) (fun c_1 => ?_)
  · refine lv_iconst (v := (-1 : Int32)) hx hb dX3_askFor_12 (by decide) ?_
    exact RET _ _ _ _ _ _ _ HX dX3_askFor_13 (⟨rfl, ⟨⟨(fun A hok hc => fb_rs (fb_askA_0 (Or.inl c_1)) rfl hc), hI⟩, fa_fr.rf⟩⟩)
  · refine lv_iload_n hx hb dX3_askFor_4 rfl (lv_at hl 1 rfl) ?_
    refine lv_aload_n hx hb dX3_askFor_5 rfl (lv_at hl 0 rfl) ?_
    refine fa_geti (k := b) CX HX fl_X3_52 (fa_lt hB 0 (by decide) hn) (fa_s0 hB) rfl dX3_askFor_6 ?_
    refine lv_icmp_lt (tgt := 14) hx hb dX3_askFor_9 (by decide) (fun c_9 => ?_) (fun c_9 => ?_)
    · refine lv_aload_n hx hb dX3_askFor_14 rfl (lv_at hl 0 rfl) ?_
      refine lv_iload_n hx hb dX3_askFor_15 rfl (lv_at hl 1 rfl) ?_
      refine fa_callVrp (As := [.int (a1)]) (rest := []) CX HX (g_find l G n hn v r b hB hr hI (a1) ) ln_X3_88 (fa_lt hB 0 (by decide) hn) (fa_s0 hB) rfl rfl rfl (Nat.le_of_ble_eq_true rfl) hl.1 ⟨Nat.le_of_ble_eq_true rfl, Nat.le_of_ble_eq_true rfl⟩ ⟨Nat.le_refl _, Nat.le_refl _⟩ dX3_askFor_16 (fun H locs h1119 HX1120 => ?_) (fun q1121 H locs h1119 HX1120 => ?_)
      · have hf_none := h1119.2 rfl
        refine lv_astore_nN (lv' := [(2, .null), (0, .ref (fa_B G + (b))), (1, .int (a1))]) hx hb dX3_askFor_19 rfl hl (by decide) rfl (fun ls hl => ?_)
        refine lv_aload_nN hx hb dX3_askFor_20 rfl (lv_at hl 0 rfl) ?_
        refine lv_ifnonnullN hx hb dX3_askFor_21 ?_
        refine lv_aload_n hx hb dX3_askFor_24 rfl (lv_at hl 1 rfl) ?_
        refine lv_dup hx hb dX3_askFor_25 rfl ?_
        refine fa_geti (k := b) CX HX1120 fl_X3_64 (fa_lt hB 0 (by decide) hn) (fa_s0 hB) rfl dX3_askFor_26 ?_
        refine lv_iconst (v := nI (1)) hx hb dX3_askFor_29 (by decide) ?_
        refine lv_iadd hx hb dX3_askFor_30 ?_
        refine fa_puti (k := b) CX HX1120 fl_X3_64 (fa_lt hB 0 (by decide) hn) (fa_s0 hB) rfl rfl rfl dX3_askFor_31 (fun H locs v1122 e1123 HX1124 => ?_)
        refine lv_bipush (v := (-6 : Int32)) hx hb dX3_askFor_34 (by decide) ?_
        exact RET _ _ _ _ _ _ _ HX1124 dX3_askFor_36 (⟨rfl, ⟨⟨(fun A hok hc => fb_rs (fb_askA_n (fun z => z.elim c_1 (fun z => z (by rw [← hc.gk 8 (by decide) (by decide)]; exact c_9))) (hc.find0 hf_none)) rfl (fb_c_regret hc e1123)), (by rw [e1123]; exact fa_IS.u hI (Or.inl ⟨rfl, by decide⟩))⟩, (by rw [e1123]; exact fa_fr.u fa_fr.rf (by omega))⟩⟩)
      · have hf_q1121 := h1119.1 q1121 rfl
        have hq1121 := hf_q1121.1
        have hiq1121 := fa_isF_in hq1121
        refine lv_astore_n (lv' := [(2, .ref (fa_B G + (q1121))), (0, .ref (fa_B G + (b))), (1, .int (a1))]) hx hb dX3_askFor_19 rfl hl (by decide) rfl (fun ls hl => ?_)
        refine lv_aload_n hx hb dX3_askFor_20 rfl (lv_at hl 0 rfl) ?_
        refine lv_ifnonnull (tgt := 37) hx hb dX3_askFor_21 (by decide) ?_
        refine lv_aload_n hx hb dX3_askFor_37 rfl (lv_at hl 1 rfl) ?_
        refine lv_aload_n hx hb dX3_askFor_38 rfl (lv_at hl 0 rfl) ?_
        refine fa_callVvu (As := [.ref (fa_B G + (q1121))]) (rest := []) CX HX1120 (g_askStored l G n hn v r b hB hr hI (q1121) hq1121) ln_X3_92 (fa_lt hB 0 (by decide) hn) (fa_s0 hB) rfl rfl rfl (Nat.le_of_ble_eq_true rfl) hl.1 ⟨Nat.le_of_ble_eq_true rfl, Nat.le_of_ble_eq_true rfl⟩ ⟨Nat.le_refl _, Nat.le_refl _⟩ dX3_askFor_39 (fun v1126 H locs h1125 HX1127 => ?_)
        have h_ask_v1126 := h1125.1
        refine lv_aload_n hx hb dX3_askFor_42 rfl (lv_at hl 0 rfl) ?_
        refine fa_geti (k := q1121) CX HX1127 fl_X3_95 (fa_isF_lt hB hq1121 hn) (fa_isF_sh hB hq1121) rfl dX3_askFor_43 ?_
        exact RET _ _ _ _ _ _ _ HX1127 dX3_askFor_46 (⟨rfl, ⟨⟨(fun A hok hc => by (obtain ⟨p, hp, eq, ix, -⟩ := hc.find1 hf_q1121; rw [eq] at h_ask_v1126; have z := fb_c_ask hok.nowpos hc hp h_ask_v1126; rw [eq]; exact fb_rs (fb_askA_s (fun z => z.elim c_1 (fun z => z (by rw [← hc.gk 8 (by decide) (by decide)]; exact c_9))) ix) z.2 z.1)), (by rw [h_ask_v1126]; exact fa_ask_IS hI hq1121)⟩, (fa_fr.tr fa_fr.rf (fa_fr.wide h1125.2 (by omega) (by omega)))⟩⟩)
    · refine lv_iconst (v := (-1 : Int32)) hx hb dX3_askFor_12 (by decide) ?_
      exact RET _ _ _ _ _ _ _ HX dX3_askFor_13 (⟨rfl, ⟨⟨(fun A hok hc => fb_rs (fb_askA_0 (Or.inr (fun z => c_9 (by rw [← hc.gk 8 (by decide) (by decide)] at z; exact z)))) rfl hc), hI⟩, fa_fr.rf⟩⟩)
set_option maxHeartbeats 4000000 in
set_option maxRecDepth 100000 in
theorem g_putSeal (l : Launch) (G : fa_G) (n : Nat) (hn : 397 ≤ n) (v : fa_V) (r : fa_R) (b : Nat) (hB : b ∈ fa_bs) (hr : fa_RS r b) (hI : fa_IS v b) (a1 : Int32) (a2 : Int32) (a3 : Int32) : fa_MI l G n yX3_putSeal cX3_putSeal 5 (some .int) 2 [.ref (fa_B G + (b)), .int (a1), .int (a2), .int (a3)] v r (fa_voi r (fun x v1 => ((∀ A, fb_okA A → fb_cA v r b A → x = (fb_sealA A a1 a2 a3).1 ∧ fb_cA v1 r b (fb_sealA A a1 a2 a3).2) ∧ fa_IS v1 b) ∧ (fa_fr (b) (b + 56) v v1))) := by
  refine fa_startI (by decide +kernel) (Nat.le_of_ble_eq_true rfl) (fun p e s m args below meth c ls Q CX hl HX RET => ?_)
  have hl : lv_has ls 5 [(0, .ref (fa_B G + (b))), (1, .int (a1)), (2, .int (a2)), (3, .int (a3))] := hl
  have hx := CX.1.1
  have hb := CX.1.2.1
  refine lv_aload_n hx hb dX3_putSeal_0 rfl (lv_at hl 0 rfl) ?_
  refine lv_iload_n hx hb dX3_putSeal_1 rfl (lv_at hl 2 rfl) ?_
  refine fa_callVrp (As := [.int (a2)]) (rest := []) CX HX (g_find l G n hn v r b hB hr hI (a2) ) ln_X3_88 (fa_lt hB 0 (by decide) hn) (fa_s0 hB) rfl rfl rfl (Nat.le_of_ble_eq_true rfl) hl.1 ⟨Nat.le_of_ble_eq_true rfl, Nat.le_of_ble_eq_true rfl⟩ ⟨Nat.le_refl _, Nat.le_refl _⟩ dX3_putSeal_2 (fun H locs h1128 HX1129 => ?_) (fun q1130 H locs h1128 HX1129 => ?_)
  · have hf_none := h1128.2 rfl
    refine lv_astoreN (lv' := [(4, .null), (0, .ref (fa_B G + (b))), (1, .int (a1)), (2, .int (a2)), (3, .int (a3))]) hx hb dX3_putSeal_5 hl (by decide) rfl (fun ls hl => ?_)
    refine lv_iload_n hx hb dX3_putSeal_7 rfl (lv_at hl 2 rfl) ?_
    refine fa_callSNip (As := [.int (a1)]) (rest := []) CX HX1129 (c_X6_isNoHolder l G n v r (a1)) (by decide +kernel) ln_X3_98 rfl rfl (Nat.le_of_ble_eq_true rfl) hl.1 ⟨Nat.le_of_ble_eq_true rfl, Nat.le_of_ble_eq_true rfl⟩ ⟨Nat.le_refl _, Nat.le_refl _⟩ dX3_putSeal_8 (fun x1132 H locs h1131 HX1133 => ?_)
    have h_ns := h1131
    refine lv_if_ne (tgt := 19) hx hb dX3_putSeal_11 (by decide) (fun c_11 => ?_) (fun c_11 => ?_)
    · refine lv_iconst (v := (-1 : Int32)) hx hb dX3_putSeal_19 (by decide) ?_
      exact RET _ _ _ _ _ _ _ HX1133 dX3_putSeal_20 (⟨rfl, ⟨⟨(fun A hok hc => fb_rs (fb_sealA_n (hc.find0 hf_none)) rfl hc), hI⟩, fa_fr.rf⟩⟩)
    · obtain ⟨jh, hjh, ejh⟩ := fa_ix7 (by decide) (fa_ifn h_ns (by first | exact c_11 | exact Decidable.not_not.mp c_11))
      refine lv_aloadN hx hb dX3_putSeal_14 (lv_at hl 0 rfl) ?_
      refine lv_ifnonnullN hx hb dX3_putSeal_16 ?_
      refine lv_iconst (v := (-1 : Int32)) hx hb dX3_putSeal_19 (by decide) ?_
      exact RET _ _ _ _ _ _ _ HX1133 dX3_putSeal_20 (⟨rfl, ⟨⟨(fun A hok hc => fb_rs (fb_sealA_n (hc.find0 hf_none)) rfl hc), hI⟩, fa_fr.rf⟩⟩)
  · have hf_q1130 := h1128.1 q1130 rfl
    have hq1130 := hf_q1130.1
    have hiq1130 := fa_isF_in hq1130
    refine lv_astore (lv' := [(4, .ref (fa_B G + (q1130))), (0, .ref (fa_B G + (b))), (1, .int (a1)), (2, .int (a2)), (3, .int (a3))]) hx hb dX3_putSeal_5 hl (by decide) rfl (fun ls hl => ?_)
    refine lv_iload_n hx hb dX3_putSeal_7 rfl (lv_at hl 2 rfl) ?_
    refine fa_callSNip (As := [.int (a1)]) (rest := []) CX HX1129 (c_X6_isNoHolder l G n v r (a1)) (by decide +kernel) ln_X3_98 rfl rfl (Nat.le_of_ble_eq_true rfl) hl.1 ⟨Nat.le_of_ble_eq_true rfl, Nat.le_of_ble_eq_true rfl⟩ ⟨Nat.le_refl _, Nat.le_refl _⟩ dX3_putSeal_8 (fun x1135 H locs h1134 HX1136 => ?_)
    have h_ns := h1134
    refine lv_if_ne (tgt := 19) hx hb dX3_putSeal_11 (by decide) (fun c_11 => ?_) (fun c_11 => ?_)
    · refine lv_iconst (v := (-1 : Int32)) hx hb dX3_putSeal_19 (by decide) ?_
      exact RET _ _ _ _ _ _ _ HX1136 dX3_putSeal_20 (⟨rfl, ⟨⟨(fun A hok hc => by (obtain ⟨p, hp, eq, ix, -⟩ := hc.find1 hf_q1130; exact fb_rs (fb_sealA_h ix (fa_ift h_ns (by first | exact c_11 | exact Decidable.not_not.mp c_11))) rfl hc)), hI⟩, fa_fr.rf⟩⟩)
    · obtain ⟨jh, hjh, ejh⟩ := fa_ix7 (by decide) (fa_ifn h_ns (by first | exact c_11 | exact Decidable.not_not.mp c_11))
      refine lv_aload hx hb dX3_putSeal_14 (lv_at hl 0 rfl) ?_
      refine lv_ifnonnull (tgt := 21) hx hb dX3_putSeal_16 (by decide) ?_
      refine lv_iload_n hx hb dX3_putSeal_21 rfl (lv_at hl 4 rfl) ?_
      refine lv_iconst (v := (-1 : Int32)) hx hb dX3_putSeal_22 (by decide) ?_
      refine lv_icmp_eq (tgt := 44) hx hb dX3_putSeal_23 (by decide) (fun c_23 => ?_) (fun c_23 => ?_)
      · refine lv_aload hx hb dX3_putSeal_44 (lv_at hl 0 rfl) ?_
        refine fa_getr (k := q1130) (j := q1130 + 1) CX HX1136 fl_X3_102 (fa_isF_lt hB hq1130 hn) (fa_isF_sh hB hq1130) rfl (fa_isF_ref hr hq1130) dX3_putSeal_46 ?_
        refine lv_iload_n hx hb dX3_putSeal_49 rfl (lv_at hl 2 rfl) ?_
        rw [show a1 = nI (jh) from ejh]
        refine lv_iload_n hx hb dX3_putSeal_50 rfl (lv_at hl 4 rfl) ?_
        refine lv_iconst (v := (-1 : Int32)) hx hb dX3_putSeal_51 (by decide) ?_
        refine lv_icmp_ne (tgt := 61) hx hb dX3_putSeal_52 (by decide) (fun c_52 => ?_) (fun c_52 => ?_)
        · refine lv_iload_n hx hb dX3_putSeal_61 rfl (lv_at hl 4 rfl) ?_
          refine fa_iast (k := q1130 + 1) (j := jh) CX HX1136 (fa_isF_lt1 hB hq1130 hn) (fa_isF_sh1 hB hq1130) (by omega) (by first | decide | assumption) dX3_putSeal_62 (fun H locs v1137 e1138 HX1139 => ?_)
          refine lv_aload hx hb dX3_putSeal_63 (lv_at hl 0 rfl) ?_
          refine lv_aload_n hx hb dX3_putSeal_65 rfl (lv_at hl 1 rfl) ?_
          refine fa_geti (k := b) CX HX1139 fl_X3_45 (fa_lt hB 0 (by decide) hn) (fa_s0 hB) rfl dX3_putSeal_66 ?_
          refine fa_callVip (As := [.int (v1137 b 0)]) (rest := []) CX HX1139 (g_holdersOn l G n hn v1137 r b hB hr (by rw [e1138]; exact fa_IS.u hI (Or.inr (Or.inr (Or.inl (fa_isF.seal hq1130))))) q1130 (v1137 b 0) hq1130 ) ln_X3_105 (fa_isF_lt hB hq1130 hn) (fa_isF_sh hB hq1130) rfl rfl rfl (Nat.le_of_ble_eq_true rfl) hl.1 ⟨Nat.le_of_ble_eq_true rfl, Nat.le_of_ble_eq_true rfl⟩ ⟨Nat.le_refl _, Nat.le_refl _⟩ dX3_putSeal_69 (fun x1141 H locs h1140 HX1142 => ?_)
          have h_holdersOn := h1140
          refine fa_callSip (As := [.int (x1141)]) (rest := []) CX HX1142 (g_bitCount l G n v1137 r (x1141)) ln_X3_109 rfl rfl (Nat.le_of_ble_eq_true rfl) hl.1 ⟨Nat.le_of_ble_eq_true rfl, Nat.le_of_ble_eq_true rfl⟩ ⟨Nat.le_refl _, Nat.le_refl _⟩ dX3_putSeal_72 (fun x1144 H locs h1143 HX1145 => ?_)
          have h_bitCount := h1143
          exact RET _ _ _ _ _ _ _ HX1145 dX3_putSeal_75 (⟨rfl, ⟨⟨(fun A hok hc => by (obtain ⟨p, hp, eq, ix, -⟩ := hc.find1 hf_q1130; exact absurd c_23 c_52)), (by rw [e1138]; exact fa_IS.u hI (Or.inr (Or.inr (Or.inl (fa_isF.seal hq1130)))))⟩, (by rw [e1138]; exact fa_fr.u fa_fr.rf (by omega))⟩⟩)
        · refine lv_sipush (v := nI (10000)) hx hb dX3_putSeal_55 (by decide) ?_
          refine lv_goto (tgt := 62) hx hb dX3_putSeal_58 (by decide) ?_
          refine fa_iast (k := q1130 + 1) (j := jh) CX HX1136 (fa_isF_lt1 hB hq1130 hn) (fa_isF_sh1 hB hq1130) (by omega) (by first | decide | assumption) dX3_putSeal_62 (fun H locs v1146 e1147 HX1148 => ?_)
          refine lv_aload hx hb dX3_putSeal_63 (lv_at hl 0 rfl) ?_
          refine lv_aload_n hx hb dX3_putSeal_65 rfl (lv_at hl 1 rfl) ?_
          refine fa_geti (k := b) CX HX1148 fl_X3_45 (fa_lt hB 0 (by decide) hn) (fa_s0 hB) rfl dX3_putSeal_66 ?_
          refine fa_callVip (As := [.int (v1146 b 0)]) (rest := []) CX HX1148 (g_holdersOn l G n hn v1146 r b hB hr (by rw [e1147]; exact fa_IS.u hI (Or.inr (Or.inr (Or.inl (fa_isF.seal hq1130))))) q1130 (v1146 b 0) hq1130 ) ln_X3_105 (fa_isF_lt hB hq1130 hn) (fa_isF_sh hB hq1130) rfl rfl rfl (Nat.le_of_ble_eq_true rfl) hl.1 ⟨Nat.le_of_ble_eq_true rfl, Nat.le_of_ble_eq_true rfl⟩ ⟨Nat.le_refl _, Nat.le_refl _⟩ dX3_putSeal_69 (fun x1150 H locs h1149 HX1151 => ?_)
          have h_holdersOn := h1149
          refine fa_callSip (As := [.int (x1150)]) (rest := []) CX HX1151 (g_bitCount l G n v1146 r (x1150)) ln_X3_109 rfl rfl (Nat.le_of_ble_eq_true rfl) hl.1 ⟨Nat.le_of_ble_eq_true rfl, Nat.le_of_ble_eq_true rfl⟩ ⟨Nat.le_refl _, Nat.le_refl _⟩ dX3_putSeal_72 (fun x1153 H locs h1152 HX1154 => ?_)
          have h_bitCount := h1152
          exact RET _ _ _ _ _ _ _ HX1154 dX3_putSeal_75 (⟨rfl, ⟨⟨(fun A hok hc => by (obtain ⟨p, hp, eq, ix, -⟩ := hc.find1 hf_q1130; have hw : (nI 10000 : Int32) + 1 = nI 10001 := (by decide); have z := fb_c_seal (v1 := v1146) hok hc hp hjh (by decide) hw (by rw [← eq]; exact e1147) (by rw [← eq]; exact h_holdersOn) h_bitCount; exact fb_rs (fb_sealA_s ix (fa_ifn h_ns (by first | exact c_11 | exact Decidable.not_not.mp c_11)) (fun z => z.1 c_23) ejh hjh (hw.trans (if_pos (by first | exact c_52 | exact Decidable.not_not.mp c_52 | exact c_23)).symm)) z.1 z.2)), (by rw [e1147]; exact fa_IS.u hI (Or.inr (Or.inr (Or.inl (fa_isF.seal hq1130)))))⟩, (by rw [e1147]; exact fa_fr.u fa_fr.rf (by omega))⟩⟩)
      · refine lv_iload_n hx hb dX3_putSeal_26 rfl (lv_at hl 4 rfl) ?_
        refine lv_aload_n hx hb dX3_putSeal_27 rfl (lv_at hl 1 rfl) ?_
        refine fa_geti (k := b) CX HX1136 fl_X3_45 (fa_lt hB 0 (by decide) hn) (fa_s0 hB) rfl dX3_putSeal_28 ?_
        refine lv_icmp_lt (tgt := 41) hx hb dX3_putSeal_31 (by decide) (fun c_31 => ?_) (fun c_31 => ?_)
        · refine lv_bipush (v := (-2 : Int32)) hx hb dX3_putSeal_41 (by decide) ?_
          exact RET _ _ _ _ _ _ _ HX1136 dX3_putSeal_43 (⟨rfl, ⟨⟨(fun A hok hc => by (obtain ⟨p, hp, eq, ix, -⟩ := hc.find1 hf_q1130; exact fb_rs (fb_sealA_b ix (fa_ifn h_ns (by first | exact c_11 | exact Decidable.not_not.mp c_11)) ⟨c_23, Or.inl (by rw [← hc.now]; exact c_31)⟩) rfl hc)), hI⟩, fa_fr.rf⟩⟩)
        · refine lv_iload_n hx hb dX3_putSeal_34 rfl (lv_at hl 4 rfl) ?_
          refine lv_sipush (v := nI (9999)) hx hb dX3_putSeal_35 (by decide) ?_
          refine lv_icmp_le (tgt := 44) hx hb dX3_putSeal_38 (by decide) (fun c_38 => ?_) (fun c_38 => ?_)
          · refine lv_aload hx hb dX3_putSeal_44 (lv_at hl 0 rfl) ?_
            refine fa_getr (k := q1130) (j := q1130 + 1) CX HX1136 fl_X3_102 (fa_isF_lt hB hq1130 hn) (fa_isF_sh hB hq1130) rfl (fa_isF_ref hr hq1130) dX3_putSeal_46 ?_
            refine lv_iload_n hx hb dX3_putSeal_49 rfl (lv_at hl 2 rfl) ?_
            rw [show a1 = nI (jh) from ejh]
            refine lv_iload_n hx hb dX3_putSeal_50 rfl (lv_at hl 4 rfl) ?_
            refine lv_iconst (v := (-1 : Int32)) hx hb dX3_putSeal_51 (by decide) ?_
            refine lv_icmp_ne (tgt := 61) hx hb dX3_putSeal_52 (by decide) (fun c_52 => ?_) (fun c_52 => ?_)
            · refine lv_iload_n hx hb dX3_putSeal_61 rfl (lv_at hl 4 rfl) ?_
              refine fa_iast (k := q1130 + 1) (j := jh) CX HX1136 (fa_isF_lt1 hB hq1130 hn) (fa_isF_sh1 hB hq1130) (by omega) (by first | decide | assumption) dX3_putSeal_62 (fun H locs v1155 e1156 HX1157 => ?_)
              refine lv_aload hx hb dX3_putSeal_63 (lv_at hl 0 rfl) ?_
              refine lv_aload_n hx hb dX3_putSeal_65 rfl (lv_at hl 1 rfl) ?_
              refine fa_geti (k := b) CX HX1157 fl_X3_45 (fa_lt hB 0 (by decide) hn) (fa_s0 hB) rfl dX3_putSeal_66 ?_
              refine fa_callVip (As := [.int (v1155 b 0)]) (rest := []) CX HX1157 (g_holdersOn l G n hn v1155 r b hB hr (by rw [e1156]; exact fa_IS.u hI (Or.inr (Or.inr (Or.inl (fa_isF.seal hq1130))))) q1130 (v1155 b 0) hq1130 ) ln_X3_105 (fa_isF_lt hB hq1130 hn) (fa_isF_sh hB hq1130) rfl rfl rfl (Nat.le_of_ble_eq_true rfl) hl.1 ⟨Nat.le_of_ble_eq_true rfl, Nat.le_of_ble_eq_true rfl⟩ ⟨Nat.le_refl _, Nat.le_refl _⟩ dX3_putSeal_69 (fun x1159 H locs h1158 HX1160 => ?_)
              have h_holdersOn := h1158
              refine fa_callSip (As := [.int (x1159)]) (rest := []) CX HX1160 (g_bitCount l G n v1155 r (x1159)) ln_X3_109 rfl rfl (Nat.le_of_ble_eq_true rfl) hl.1 ⟨Nat.le_of_ble_eq_true rfl, Nat.le_of_ble_eq_true rfl⟩ ⟨Nat.le_refl _, Nat.le_refl _⟩ dX3_putSeal_72 (fun x1162 H locs h1161 HX1163 => ?_)
              have h_bitCount := h1161
              exact RET _ _ _ _ _ _ _ HX1163 dX3_putSeal_75 (⟨rfl, ⟨⟨(fun A hok hc => by (obtain ⟨p, hp, eq, ix, -⟩ := hc.find1 hf_q1130; obtain ⟨e, he, hw⟩ := fb_last_ok hok.1.2.1 (by rw [← hc.now]; exact c_31) c_38; have z := fb_c_seal (v1 := v1155) hok hc hp hjh (by omega) hw (by rw [← eq]; exact e1156) (by rw [← eq]; exact h_holdersOn) h_bitCount; exact fb_rs (fb_sealA_s ix (fa_ifn h_ns (by first | exact c_11 | exact Decidable.not_not.mp c_11)) (fun z => z.2.elim (fun z => c_31 (by rw [hc.now]; exact z)) (fun z => Int32.not_lt.mpr c_38 z)) ejh hjh (if_neg c_52).symm) z.1 z.2)), (by rw [e1156]; exact fa_IS.u hI (Or.inr (Or.inr (Or.inl (fa_isF.seal hq1130)))))⟩, (by rw [e1156]; exact fa_fr.u fa_fr.rf (by omega))⟩⟩)
            · refine lv_sipush (v := nI (10000)) hx hb dX3_putSeal_55 (by decide) ?_
              refine lv_goto (tgt := 62) hx hb dX3_putSeal_58 (by decide) ?_
              refine fa_iast (k := q1130 + 1) (j := jh) CX HX1136 (fa_isF_lt1 hB hq1130 hn) (fa_isF_sh1 hB hq1130) (by omega) (by first | decide | assumption) dX3_putSeal_62 (fun H locs v1164 e1165 HX1166 => ?_)
              refine lv_aload hx hb dX3_putSeal_63 (lv_at hl 0 rfl) ?_
              refine lv_aload_n hx hb dX3_putSeal_65 rfl (lv_at hl 1 rfl) ?_
              refine fa_geti (k := b) CX HX1166 fl_X3_45 (fa_lt hB 0 (by decide) hn) (fa_s0 hB) rfl dX3_putSeal_66 ?_
              refine fa_callVip (As := [.int (v1164 b 0)]) (rest := []) CX HX1166 (g_holdersOn l G n hn v1164 r b hB hr (by rw [e1165]; exact fa_IS.u hI (Or.inr (Or.inr (Or.inl (fa_isF.seal hq1130))))) q1130 (v1164 b 0) hq1130 ) ln_X3_105 (fa_isF_lt hB hq1130 hn) (fa_isF_sh hB hq1130) rfl rfl rfl (Nat.le_of_ble_eq_true rfl) hl.1 ⟨Nat.le_of_ble_eq_true rfl, Nat.le_of_ble_eq_true rfl⟩ ⟨Nat.le_refl _, Nat.le_refl _⟩ dX3_putSeal_69 (fun x1168 H locs h1167 HX1169 => ?_)
              have h_holdersOn := h1167
              refine fa_callSip (As := [.int (x1168)]) (rest := []) CX HX1169 (g_bitCount l G n v1164 r (x1168)) ln_X3_109 rfl rfl (Nat.le_of_ble_eq_true rfl) hl.1 ⟨Nat.le_of_ble_eq_true rfl, Nat.le_of_ble_eq_true rfl⟩ ⟨Nat.le_refl _, Nat.le_refl _⟩ dX3_putSeal_72 (fun x1171 H locs h1170 HX1172 => ?_)
              have h_bitCount := h1170
              exact RET _ _ _ _ _ _ _ HX1172 dX3_putSeal_75 (⟨rfl, ⟨⟨(fun A hok hc => by (obtain ⟨p, hp, eq, ix, -⟩ := hc.find1 hf_q1130; exact absurd (by first | exact c_52 | exact Decidable.not_not.mp c_52) c_23)), (by rw [e1165]; exact fa_IS.u hI (Or.inr (Or.inr (Or.inl (fa_isF.seal hq1130)))))⟩, (by rw [e1165]; exact fa_fr.u fa_fr.rf (by omega))⟩⟩)
          · refine lv_bipush (v := (-2 : Int32)) hx hb dX3_putSeal_41 (by decide) ?_
            exact RET _ _ _ _ _ _ _ HX1136 dX3_putSeal_43 (⟨rfl, ⟨⟨(fun A hok hc => by (obtain ⟨p, hp, eq, ix, -⟩ := hc.find1 hf_q1130; exact fb_rs (fb_sealA_b ix (fa_ifn h_ns (by first | exact c_11 | exact Decidable.not_not.mp c_11)) ⟨c_23, Or.inr (Int32.not_le.mp c_38)⟩) rfl hc)), hI⟩, fa_fr.rf⟩⟩)
set_option maxHeartbeats 4000000 in
set_option maxRecDepth 100000 in
theorem g_takeSeal (l : Launch) (G : fa_G) (n : Nat) (hn : 397 ≤ n) (v : fa_V) (r : fa_R) (b : Nat) (hB : b ∈ fa_bs) (hr : fa_RS r b) (hI : fa_IS v b) (a1 : Int32) (a2 : Int32) : fa_MI l G n yX3_takeSeal cX3_takeSeal 4 (some .int) 2 [.ref (fa_B G + (b)), .int (a1), .int (a2)] v r (fa_voi r (fun x v1 => ((∀ A, fb_okA A → fb_cA v r b A → x = (fb_liftA A a1 a2).1 ∧ fb_cA v1 r b (fb_liftA A a1 a2).2) ∧ fa_IS v1 b) ∧ (fa_fr (b) (b + 56) v v1))) := by
  refine fa_startI (by decide +kernel) (Nat.le_of_ble_eq_true rfl) (fun p e s m args below meth c ls Q CX hl HX RET => ?_)
  have hl : lv_has ls 4 [(0, .ref (fa_B G + (b))), (1, .int (a1)), (2, .int (a2))] := hl
  have hx := CX.1.1
  have hb := CX.1.2.1
  refine lv_aload_n hx hb dX3_takeSeal_0 rfl (lv_at hl 0 rfl) ?_
  refine lv_iload_n hx hb dX3_takeSeal_1 rfl (lv_at hl 2 rfl) ?_
  refine fa_callVrp (As := [.int (a2)]) (rest := []) CX HX (g_find l G n hn v r b hB hr hI (a2) ) ln_X3_88 (fa_lt hB 0 (by decide) hn) (fa_s0 hB) rfl rfl rfl (Nat.le_of_ble_eq_true rfl) hl.1 ⟨Nat.le_of_ble_eq_true rfl, Nat.le_of_ble_eq_true rfl⟩ ⟨Nat.le_refl _, Nat.le_refl _⟩ dX3_takeSeal_2 (fun H locs h1173 HX1174 => ?_) (fun q1175 H locs h1173 HX1174 => ?_)
  · have hf_none := h1173.2 rfl
    refine lv_astore_nN (lv' := [(3, .null), (0, .ref (fa_B G + (b))), (1, .int (a1)), (2, .int (a2))]) hx hb dX3_takeSeal_5 rfl hl (by decide) rfl (fun ls hl => ?_)
    refine lv_iload_n hx hb dX3_takeSeal_6 rfl (lv_at hl 2 rfl) ?_
    refine fa_callSNip (As := [.int (a1)]) (rest := []) CX HX1174 (c_X6_isNoHolder l G n v r (a1)) (by decide +kernel) ln_X3_98 rfl rfl (Nat.le_of_ble_eq_true rfl) hl.1 ⟨Nat.le_of_ble_eq_true rfl, Nat.le_of_ble_eq_true rfl⟩ ⟨Nat.le_refl _, Nat.le_refl _⟩ dX3_takeSeal_7 (fun x1177 H locs h1176 HX1178 => ?_)
    have h_ns := h1176
    refine lv_if_ne (tgt := 27) hx hb dX3_takeSeal_10 (by decide) (fun c_10 => ?_) (fun c_10 => ?_)
    · refine lv_iconst (v := (-1 : Int32)) hx hb dX3_takeSeal_27 (by decide) ?_
      exact RET _ _ _ _ _ _ _ HX1178 dX3_takeSeal_28 (⟨rfl, ⟨⟨(fun A hok hc => fb_rs (fb_liftA_n (hc.find0 hf_none)) rfl hc), hI⟩, fa_fr.rf⟩⟩)
    · obtain ⟨jh, hjh, ejh⟩ := fa_ix7 (by decide) (fa_ifn h_ns (by first | exact c_10 | exact Decidable.not_not.mp c_10))
      refine lv_aload_nN hx hb dX3_takeSeal_13 rfl (lv_at hl 0 rfl) ?_
      refine lv_ifnullN (tgt := 27) hx hb dX3_takeSeal_14 (by decide) ?_
      refine lv_iconst (v := (-1 : Int32)) hx hb dX3_takeSeal_27 (by decide) ?_
      exact RET _ _ _ _ _ _ _ HX1178 dX3_takeSeal_28 (⟨rfl, ⟨⟨(fun A hok hc => fb_rs (fb_liftA_n (hc.find0 hf_none)) rfl hc), hI⟩, fa_fr.rf⟩⟩)
  · have hf_q1175 := h1173.1 q1175 rfl
    have hq1175 := hf_q1175.1
    have hiq1175 := fa_isF_in hq1175
    refine lv_astore_n (lv' := [(3, .ref (fa_B G + (q1175))), (0, .ref (fa_B G + (b))), (1, .int (a1)), (2, .int (a2))]) hx hb dX3_takeSeal_5 rfl hl (by decide) rfl (fun ls hl => ?_)
    refine lv_iload_n hx hb dX3_takeSeal_6 rfl (lv_at hl 2 rfl) ?_
    refine fa_callSNip (As := [.int (a1)]) (rest := []) CX HX1174 (c_X6_isNoHolder l G n v r (a1)) (by decide +kernel) ln_X3_98 rfl rfl (Nat.le_of_ble_eq_true rfl) hl.1 ⟨Nat.le_of_ble_eq_true rfl, Nat.le_of_ble_eq_true rfl⟩ ⟨Nat.le_refl _, Nat.le_refl _⟩ dX3_takeSeal_7 (fun x1180 H locs h1179 HX1181 => ?_)
    have h_ns := h1179
    refine lv_if_ne (tgt := 27) hx hb dX3_takeSeal_10 (by decide) (fun c_10 => ?_) (fun c_10 => ?_)
    · refine lv_iconst (v := (-1 : Int32)) hx hb dX3_takeSeal_27 (by decide) ?_
      exact RET _ _ _ _ _ _ _ HX1181 dX3_takeSeal_28 (⟨rfl, ⟨⟨(fun A hok hc => by (obtain ⟨p, hp, eq, ix, -⟩ := hc.find1 hf_q1175; exact fb_rs (fb_liftA_h ix (fa_ift h_ns (by first | exact c_10 | exact Decidable.not_not.mp c_10))) rfl hc)), hI⟩, fa_fr.rf⟩⟩)
    · obtain ⟨jh, hjh, ejh⟩ := fa_ix7 (by decide) (fa_ifn h_ns (by first | exact c_10 | exact Decidable.not_not.mp c_10))
      refine lv_aload_n hx hb dX3_takeSeal_13 rfl (lv_at hl 0 rfl) ?_
      refine lv_ifnull hx hb dX3_takeSeal_14 ?_
      refine lv_aload_n hx hb dX3_takeSeal_17 rfl (lv_at hl 0 rfl) ?_
      refine fa_getr (k := q1175) (j := q1175 + 1) CX HX1181 fl_X3_102 (fa_isF_lt hB hq1175 hn) (fa_isF_sh hB hq1175) rfl (fa_isF_ref hr hq1175) dX3_takeSeal_18 ?_
      refine lv_iload_n hx hb dX3_takeSeal_21 rfl (lv_at hl 2 rfl) ?_
      rw [show a1 = nI (jh) from ejh]
      refine fa_iald (k := q1175 + 1) (j := jh) CX HX1181 (fa_isF_lt1 hB hq1175 hn) (fa_isF_sh1 hB hq1175) (by omega) (by first | decide | assumption) dX3_takeSeal_22 ?_
      refine lv_iconst (v := (-1 : Int32)) hx hb dX3_takeSeal_23 (by decide) ?_
      refine lv_icmp_ne (tgt := 29) hx hb dX3_takeSeal_24 (by decide) (fun c_24 => ?_) (fun c_24 => ?_)
      · refine lv_aload_n hx hb dX3_takeSeal_29 rfl (lv_at hl 0 rfl) ?_
        refine fa_getr (k := q1175) (j := q1175 + 1) CX HX1181 fl_X3_102 (fa_isF_lt hB hq1175 hn) (fa_isF_sh hB hq1175) rfl (fa_isF_ref hr hq1175) dX3_takeSeal_30 ?_
        refine lv_iload_n hx hb dX3_takeSeal_33 rfl (lv_at hl 2 rfl) ?_
        rw [show a1 = nI (jh) from ejh]
        refine lv_iconst (v := (-1 : Int32)) hx hb dX3_takeSeal_34 (by decide) ?_
        refine fa_iast (k := q1175 + 1) (j := jh) CX HX1181 (fa_isF_lt1 hB hq1175 hn) (fa_isF_sh1 hB hq1175) (by omega) (by first | decide | assumption) dX3_takeSeal_35 (fun H locs v1182 e1183 HX1184 => ?_)
        refine lv_aload_n hx hb dX3_takeSeal_36 rfl (lv_at hl 0 rfl) ?_
        refine lv_aload_n hx hb dX3_takeSeal_37 rfl (lv_at hl 1 rfl) ?_
        refine fa_geti (k := b) CX HX1184 fl_X3_45 (fa_lt hB 0 (by decide) hn) (fa_s0 hB) rfl dX3_takeSeal_38 ?_
        refine fa_callVip (As := [.int (v1182 b 0)]) (rest := []) CX HX1184 (g_holdersOn l G n hn v1182 r b hB hr (by rw [e1183]; exact fa_IS.u hI (Or.inr (Or.inr (Or.inl (fa_isF.seal hq1175))))) q1175 (v1182 b 0) hq1175 ) ln_X3_105 (fa_isF_lt hB hq1175 hn) (fa_isF_sh hB hq1175) rfl rfl rfl (Nat.le_of_ble_eq_true rfl) hl.1 ⟨Nat.le_of_ble_eq_true rfl, Nat.le_of_ble_eq_true rfl⟩ ⟨Nat.le_refl _, Nat.le_refl _⟩ dX3_takeSeal_41 (fun x1186 H locs h1185 HX1187 => ?_)
        have h_holdersOn := h1185
        refine fa_callSip (As := [.int (x1186)]) (rest := []) CX HX1187 (g_bitCount l G n v1182 r (x1186)) ln_X3_109 rfl rfl (Nat.le_of_ble_eq_true rfl) hl.1 ⟨Nat.le_of_ble_eq_true rfl, Nat.le_of_ble_eq_true rfl⟩ ⟨Nat.le_refl _, Nat.le_refl _⟩ dX3_takeSeal_44 (fun x1189 H locs h1188 HX1190 => ?_)
        have h_bitCount := h1188
        exact RET _ _ _ _ _ _ _ HX1190 dX3_takeSeal_47 (⟨rfl, ⟨⟨(fun A hok hc => by (obtain ⟨p, hp, eq, ix, -⟩ := hc.find1 hf_q1175; have z := fb_c_seal (v1 := v1182) (w := (-1 : Int32)) hok hc hp hjh (e := 0) (by decide) (by decide) (by rw [← eq]; exact e1183) (by rw [← eq]; exact h_holdersOn) h_bitCount; rw [show (-1 : Int32) + 1 = 0 by decide] at z; exact fb_rs (fb_liftA_s ix (fa_ifn h_ns (by first | exact c_10 | exact Decidable.not_not.mp c_10)) ejh hjh (fun y => c_24 (by rw [← hc.s hp hjh, ← eq] at y; exact fb_m1 y))) z.1 z.2)), (by rw [e1183]; exact fa_IS.u hI (Or.inr (Or.inr (Or.inl (fa_isF.seal hq1175)))))⟩, (by rw [e1183]; exact fa_fr.u fa_fr.rf (by omega))⟩⟩)
      · refine lv_iconst (v := (-1 : Int32)) hx hb dX3_takeSeal_27 (by decide) ?_
        exact RET _ _ _ _ _ _ _ HX1181 dX3_takeSeal_28 (⟨rfl, ⟨⟨(fun A hok hc => by (obtain ⟨p, hp, eq, ix, -⟩ := hc.find1 hf_q1175; exact fb_rs (fb_liftA_0 ix (fa_ifn h_ns (by first | exact c_10 | exact Decidable.not_not.mp c_10)) ejh hjh (by rw [← hc.s hp hjh, ← eq, show v (_ + 1) jh = (-1 : Int32) from (by first | exact c_24 | exact Decidable.not_not.mp c_24)]; decide)) rfl hc)), hI⟩, fa_fr.rf⟩⟩)
set_option maxHeartbeats 4000000 in
set_option maxRecDepth 100000 in
theorem g_putReference (l : Launch) (G : fa_G) (n : Nat) (hn : 397 ≤ n) (v : fa_V) (r : fa_R) (b : Nat) (hB : b ∈ fa_bs) (hr : fa_RS r b) (hI : fa_IS v b) (a1 : Int32) (a2 : Int32) : fa_MI l G n yX3_putReference cX3_putReference 4 (some .int) 2 [.ref (fa_B G + (b)), .int (a1), .int (a2)] v r (fa_voi r (fun x v1 => ((∀ A, fb_okA A → fb_cA v r b A → x = (fb_refA A a1 a2).1 ∧ fb_cA v1 r b (fb_refA A a1 a2).2) ∧ fa_IS v1 b) ∧ (fa_fr (b) (b + 56) v v1))) := by
  refine fa_startI (by decide +kernel) (Nat.le_of_ble_eq_true rfl) (fun p e s m args below meth c ls Q CX hl HX RET => ?_)
  have hl : lv_has ls 4 [(0, .ref (fa_B G + (b))), (1, .int (a1)), (2, .int (a2))] := hl
  have hx := CX.1.1
  have hb := CX.1.2.1
  refine lv_aload_n hx hb dX3_putReference_0 rfl (lv_at hl 0 rfl) ?_
  refine lv_iload_n hx hb dX3_putReference_1 rfl (lv_at hl 1 rfl) ?_
  refine fa_callVrp (As := [.int (a1)]) (rest := []) CX HX (g_find l G n hn v r b hB hr hI (a1) ) ln_X3_88 (fa_lt hB 0 (by decide) hn) (fa_s0 hB) rfl rfl rfl (Nat.le_of_ble_eq_true rfl) hl.1 ⟨Nat.le_of_ble_eq_true rfl, Nat.le_of_ble_eq_true rfl⟩ ⟨Nat.le_refl _, Nat.le_refl _⟩ dX3_putReference_2 (fun H locs h1191 HX1192 => ?_) (fun q1193 H locs h1191 HX1192 => ?_)
  · have hf_none := h1191.2 rfl
    refine lv_astore_nN (lv' := [(3, .null), (0, .ref (fa_B G + (b))), (1, .int (a1)), (2, .int (a2))]) hx hb dX3_putReference_5 rfl hl (by decide) rfl (fun ls hl => ?_)
    refine lv_aload_nN hx hb dX3_putReference_6 rfl (lv_at hl 0 rfl) ?_
    refine lv_ifnullN (tgt := 18) hx hb dX3_putReference_7 (by decide) ?_
    refine lv_iconst (v := (-1 : Int32)) hx hb dX3_putReference_18 (by decide) ?_
    exact RET _ _ _ _ _ _ _ HX1192 dX3_putReference_19 (⟨rfl, ⟨⟨(fun A hok hc => fb_rs (fb_refA_n (hc.find0 hf_none)) rfl hc), hI⟩, fa_fr.rf⟩⟩)
  · have hf_q1193 := h1191.1 q1193 rfl
    have hq1193 := hf_q1193.1
    have hiq1193 := fa_isF_in hq1193
    refine lv_astore_n (lv' := [(3, .ref (fa_B G + (q1193))), (0, .ref (fa_B G + (b))), (1, .int (a1)), (2, .int (a2))]) hx hb dX3_putReference_5 rfl hl (by decide) rfl (fun ls hl => ?_)
    refine lv_aload_n hx hb dX3_putReference_6 rfl (lv_at hl 0 rfl) ?_
    refine lv_ifnull hx hb dX3_putReference_7 ?_
    refine lv_aload_n hx hb dX3_putReference_10 rfl (lv_at hl 1 rfl) ?_
    refine lv_iload_n hx hb dX3_putReference_11 rfl (lv_at hl 3 rfl) ?_
    refine fa_callVrp (As := [.int (a2)]) (rest := []) CX HX1192 (g_find l G n hn v r b hB hr hI (a2) ) ln_X3_88 (fa_lt hB 0 (by decide) hn) (fa_s0 hB) rfl rfl rfl (Nat.le_of_ble_eq_true rfl) hl.1 ⟨Nat.le_of_ble_eq_true rfl, Nat.le_of_ble_eq_true rfl⟩ ⟨Nat.le_refl _, Nat.le_refl _⟩ dX3_putReference_12 (fun H locs h1194 HX1195 => ?_) (fun q1196 H locs h1194 HX1195 => ?_)
    · have hf_none := h1194.2 rfl
      refine lv_ifnonnullN hx hb dX3_putReference_15 ?_
      refine lv_iconst (v := (-1 : Int32)) hx hb dX3_putReference_18 (by decide) ?_
      exact RET _ _ _ _ _ _ _ HX1195 dX3_putReference_19 (⟨rfl, ⟨⟨(fun A hok hc => by (obtain ⟨p, hp, eq, ix, -⟩ := hc.find1 hf_q1193; exact fb_rs (fb_refA_m ix (hc.find0 hf_none)) rfl hc)), hI⟩, fa_fr.rf⟩⟩)
    · have hf_q1196 := h1194.1 q1196 rfl
      have hq1196 := hf_q1196.1
      have hiq1196 := fa_isF_in hq1196
      refine lv_ifnonnull (tgt := 20) hx hb dX3_putReference_15 (by decide) ?_
      refine lv_aload_n hx hb dX3_putReference_20 rfl (lv_at hl 0 rfl) ?_
      refine lv_iload_n hx hb dX3_putReference_21 rfl (lv_at hl 3 rfl) ?_
      refine fa_puti (k := q1193) CX HX1195 fl_X3_114 (fa_isF_lt hB hq1193 hn) (fa_isF_sh hB hq1193) rfl rfl rfl dX3_putReference_22 (fun H locs v1197 e1198 HX1199 => ?_)
      refine lv_aload_n hx hb dX3_putReference_25 rfl (lv_at hl 1 rfl) ?_
      refine lv_iload_n hx hb dX3_putReference_26 rfl (lv_at hl 3 rfl) ?_
      refine fa_callVip (As := [.int (a2)]) (rest := []) CX HX1199 (g_referrersOf l G n hn v1197 r b hB hr (by rw [e1198]; exact fa_IS.u hI (Or.inr (Or.inl ⟨hq1193, by decide⟩))) (a2) ) ln_X3_117 (fa_lt hB 0 (by decide) hn) (fa_s0 hB) rfl rfl rfl (Nat.le_of_ble_eq_true rfl) hl.1 ⟨Nat.le_of_ble_eq_true rfl, Nat.le_of_ble_eq_true rfl⟩ ⟨Nat.le_refl _, Nat.le_refl _⟩ dX3_putReference_27 (fun x1201 H locs h1200 HX1202 => ?_)
      have h_referrersOf := h1200
      exact RET _ _ _ _ _ _ _ HX1202 dX3_putReference_30 (⟨rfl, ⟨⟨(fun A hok hc => by (obtain ⟨p, hp, eq, ix, -⟩ := hc.find1 hf_q1193; obtain ⟨k, hk, -, ix2, ek⟩ := hc.find1 hf_q1196; have z := fb_c_ref (v1 := v1197) hok hc hp hk ek (by rw [← eq]; exact e1198); exact fb_rs (fb_refA_s ix ix2) (h_referrersOf.trans (z.1.refs z.2)) z.1)), (by rw [e1198]; exact fa_IS.u hI (Or.inr (Or.inl ⟨hq1193, by decide⟩)))⟩, (by rw [e1198]; exact fa_fr.u fa_fr.rf (by omega))⟩⟩)
set_option maxHeartbeats 4000000 in
set_option maxRecDepth 100000 in
theorem g_putReservation (l : Launch) (G : fa_G) (n : Nat) (hn : 397 ≤ n) (v : fa_V) (r : fa_R) (b : Nat) (hB : b ∈ fa_bs) (hr : fa_RS r b) (hI : fa_IS v b) (a1 : Int32) (a2 : Int32) : fa_MI l G n yX3_putReservation cX3_putReservation 3 (some .int) 3 [.ref (fa_B G + (b)), .int (a1), .int (a2)] v r (fa_voi r (fun x v1 => ((∀ A, fb_okA A → fb_cA v r b A → x = (fb_resA A a1 a2).1 ∧ fb_cA v1 r b (fb_resA A a1 a2).2) ∧ fa_IS v1 b) ∧ (fa_fr (b) (b + 56) v v1))) := by
  refine fa_startI (by decide +kernel) (Nat.le_of_ble_eq_true rfl) (fun p e s m args below meth c ls Q CX hl HX RET => ?_)
  have hl : lv_has ls 3 [(0, .ref (fa_B G + (b))), (1, .int (a1)), (2, .int (a2))] := hl
  have hx := CX.1.1
  have hb := CX.1.2.1
  refine lv_aload_n hx hb dX3_putReservation_0 rfl (lv_at hl 0 rfl) ?_
  refine lv_iload_n hx hb dX3_putReservation_1 rfl (lv_at hl 1 rfl) ?_
  refine fa_callVrp (As := [.int (a1)]) (rest := []) CX HX (g_find l G n hn v r b hB hr hI (a1) ) ln_X3_88 (fa_lt hB 0 (by decide) hn) (fa_s0 hB) rfl rfl rfl (Nat.le_of_ble_eq_true rfl) hl.1 ⟨Nat.le_of_ble_eq_true rfl, Nat.le_of_ble_eq_true rfl⟩ ⟨Nat.le_refl _, Nat.le_refl _⟩ dX3_putReservation_2 (fun H locs h1203 HX1204 => ?_) (fun q1205 H locs h1203 HX1204 => ?_)
  · have hf_none := h1203.2 rfl
    refine lv_ifnonnullN hx hb dX3_putReservation_5 ?_
    refine lv_iconst (v := (-1 : Int32)) hx hb dX3_putReservation_8 (by decide) ?_
    exact RET _ _ _ _ _ _ _ HX1204 dX3_putReservation_9 (⟨rfl, ⟨⟨(fun A hok hc => fb_rs (fb_resA_n (hc.find0 hf_none)) rfl hc), hI⟩, fa_fr.rf⟩⟩)
  · have hf_q1205 := h1203.1 q1205 rfl
    have hq1205 := hf_q1205.1
    have hiq1205 := fa_isF_in hq1205
    refine lv_ifnonnull (tgt := 10) hx hb dX3_putReservation_5 (by decide) ?_
    refine lv_iload_n hx hb dX3_putReservation_10 rfl (lv_at hl 2 rfl) ?_
    refine lv_aload_n hx hb dX3_putReservation_11 rfl (lv_at hl 0 rfl) ?_
    refine fa_geti (k := b) CX HX1204 fl_X3_45 (fa_lt hB 0 (by decide) hn) (fa_s0 hB) rfl dX3_putReservation_12 ?_
    refine lv_icmp_le (tgt := 25) hx hb dX3_putReservation_15 (by decide) (fun c_15 => ?_) (fun c_15 => ?_)
    · refine lv_bipush (v := (-2 : Int32)) hx hb dX3_putReservation_25 (by decide) ?_
      exact RET _ _ _ _ _ _ _ HX1204 dX3_putReservation_27 (⟨rfl, ⟨⟨(fun A hok hc => by (obtain ⟨p, hp, eq, ix, -⟩ := hc.find1 hf_q1205; exact fb_rs (fb_resA_b ix (Or.inl (by rw [← hc.now]; exact c_15))) rfl hc)), hI⟩, fa_fr.rf⟩⟩)
    · refine lv_iload_n hx hb dX3_putReservation_18 rfl (lv_at hl 2 rfl) ?_
      refine lv_sipush (v := nI (9999)) hx hb dX3_putReservation_19 (by decide) ?_
      refine lv_icmp_le (tgt := 28) hx hb dX3_putReservation_22 (by decide) (fun c_22 => ?_) (fun c_22 => ?_)
      · refine lv_aload_n hx hb dX3_putReservation_28 rfl (lv_at hl 0 rfl) ?_
        refine fa_getr (k := b) (j := b + 2) CX HX1204 fl_X3_20 (fa_lt hB 0 (by decide) hn) (fa_s0 hB) rfl hr.2.1 dX3_putReservation_29 ?_
        refine lv_iload_n hx hb dX3_putReservation_32 rfl (lv_at hl 1 rfl) ?_
        refine lv_iload_n hx hb dX3_putReservation_33 rfl (lv_at hl 2 rfl) ?_
        refine fa_callVip (As := [.int (a1), .int (a2)]) (rest := []) CX HX1204 (g_placeOf l G n hn v r b hB hr hI (a1) (a2) ) ln_X3_120 (fa_lt hB 2 (by decide) hn) (fa_s2 hB) rfl rfl rfl (Nat.le_of_ble_eq_true rfl) hl.1 ⟨Nat.le_of_ble_eq_true rfl, Nat.le_of_ble_eq_true rfl⟩ ⟨Nat.le_refl _, Nat.le_refl _⟩ dX3_putReservation_34 (fun x1207 H locs h1206 HX1208 => ?_)
        have h_placeOf := h1206
        refine lv_if_lt (tgt := 43) hx hb dX3_putReservation_37 (by decide) (fun c_37 => ?_) (fun c_37 => ?_)
        · refine lv_aload_n hx hb dX3_putReservation_43 rfl (lv_at hl 0 rfl) ?_
          refine fa_getr (k := b) (j := b + 2) CX HX1208 fl_X3_20 (fa_lt hB 0 (by decide) hn) (fa_s0 hB) rfl hr.2.1 dX3_putReservation_44 ?_
          refine fa_geti (k := b + 2) CX HX1208 fl_X3_124 (fa_lt hB 2 (by decide) hn) (fa_s2 hB) rfl dX3_putReservation_47 ?_
          refine lv_bipush (v := nI (8)) hx hb dX3_putReservation_50 (by decide) ?_
          refine lv_icmp_lt (tgt := 58) hx hb dX3_putReservation_52 (by decide) (fun c_52 => ?_) (fun c_52 => ?_)
          · refine lv_aload_n hx hb dX3_putReservation_58 rfl (lv_at hl 0 rfl) ?_
            refine fa_getr (k := b) (j := b + 2) CX HX1208 fl_X3_20 (fa_lt hB 0 (by decide) hn) (fa_s0 hB) rfl hr.2.1 dX3_putReservation_59 ?_
            refine lv_iload_n hx hb dX3_putReservation_62 rfl (lv_at hl 1 rfl) ?_
            refine lv_iload_n hx hb dX3_putReservation_63 rfl (lv_at hl 2 rfl) ?_
            refine fa_callVvu (As := [.int (a1), .int (a2)]) (rest := []) CX HX1208 (g_insert l G n hn v r b hB hr hI (a1) (a2) ) ln_X3_127 (fa_lt hB 2 (by decide) hn) (fa_s2 hB) rfl rfl rfl (Nat.le_of_ble_eq_true rfl) hl.1 ⟨Nat.le_of_ble_eq_true rfl, Nat.le_of_ble_eq_true rfl⟩ ⟨Nat.le_refl _, Nat.le_refl _⟩ dX3_putReservation_64 (fun v1210 H locs h1209 HX1211 => ?_)
            have h_insert := h1209.1
            have hIS_v1210 : fa_IS v1210 b := h1209.1.2
            refine lv_aload_n hx hb dX3_putReservation_67 rfl (lv_at hl 0 rfl) ?_
            refine fa_getr (k := b) (j := b + 2) CX HX1211 fl_X3_20 (fa_lt hB 0 (by decide) hn) (fa_s0 hB) rfl hr.2.1 dX3_putReservation_68 ?_
            refine fa_geti (k := b + 2) CX HX1211 fl_X3_124 (fa_lt hB 2 (by decide) hn) (fa_s2 hB) rfl dX3_putReservation_71 ?_
            exact RET _ _ _ _ _ _ _ HX1211 dX3_putReservation_74 (⟨rfl, ⟨⟨(fun A hok hc => by (obtain ⟨p, hp, eq, ix, -⟩ := hc.find1 hf_q1205; have hp := fb_c_plc hc.2.2.2.2.1 h_placeOf; have h8 := fb_res7 hI c_52; obtain ⟨pl, hpl⟩ := h_insert.1 h8; have z := hc.2.2.2.2.1.len; rw [z.2.2] at h8 hpl; obtain ⟨L, hL, hP, hS⟩ := id hc.2.2.2.2.1; exact fb_rs (fb_resA_s ix (fun z => z.elim (fun z => c_15 (by rw [hc.now]; exact z)) (fun z => z c_22)) (hp.resolve_right (fun z => z.1 c_37)).2 (by omega)) (by rw [hpl.2.1]) (hc.res h1209.2 (fb_c_ins hL hP hS hP.length_eq.symm h8 (hp.resolve_right (fun z => z.1 c_37)).2 hpl)))), hIS_v1210⟩, (fa_fr.tr fa_fr.rf (fa_fr.wide h1209.2 (by omega) (by omega)))⟩⟩)
          · refine lv_bipush (v := (-4 : Int32)) hx hb dX3_putReservation_55 (by decide) ?_
            exact RET _ _ _ _ _ _ _ HX1208 dX3_putReservation_57 (⟨rfl, ⟨⟨(fun A hok hc => by (obtain ⟨p, hp, eq, ix, -⟩ := hc.find1 hf_q1205; have hp := fb_c_plc hc.2.2.2.2.1 h_placeOf; exact fb_rs (fb_resA_m ix (fun z => z.elim (fun z => c_15 (by rw [hc.now]; exact z)) (fun z => z c_22)) (hp.resolve_right (fun z => z.1 c_37)).2 (by rw [← hc.2.2.2.2.1.len.2.2]; exact fb_res8 hI c_52)) rfl hc)), hI⟩, fa_fr.rf⟩⟩)
        · refine lv_bipush (v := (-5 : Int32)) hx hb dX3_putReservation_40 (by decide) ?_
          exact RET _ _ _ _ _ _ _ HX1208 dX3_putReservation_42 (⟨rfl, ⟨⟨(fun A hok hc => by (obtain ⟨p, hp, eq, ix, -⟩ := hc.find1 hf_q1205; have hp := fb_c_plc hc.2.2.2.2.1 h_placeOf; exact fb_rs (fb_resA_p ix (fun z => z.elim (fun z => c_15 (by rw [hc.now]; exact z)) (fun z => z c_22)) (hp.resolve_left (fun z => c_37 z.1)).2.1) rfl hc)), hI⟩, fa_fr.rf⟩⟩)
      · refine lv_bipush (v := (-2 : Int32)) hx hb dX3_putReservation_25 (by decide) ?_
        exact RET _ _ _ _ _ _ _ HX1204 dX3_putReservation_27 (⟨rfl, ⟨⟨(fun A hok hc => by (obtain ⟨p, hp, eq, ix, -⟩ := hc.find1 hf_q1205; exact fb_rs (fb_resA_b ix (Or.inr c_22)) rfl hc)), hI⟩, fa_fr.rf⟩⟩)
set_option maxHeartbeats 4000000 in
set_option maxRecDepth 100000 in
theorem g_takeReservation (l : Launch) (G : fa_G) (n : Nat) (hn : 397 ≤ n) (v : fa_V) (r : fa_R) (b : Nat) (hB : b ∈ fa_bs) (hr : fa_RS r b) (hI : fa_IS v b) (a1 : Int32) (a2 : Int32) : fa_MI l G n yX3_takeReservation cX3_takeReservation 4 (some .int) 2 [.ref (fa_B G + (b)), .int (a1), .int (a2)] v r (fa_voi r (fun x v1 => ((∀ A, fb_okA A → fb_cA v r b A → x = (fb_canA A a1 a2).1 ∧ fb_cA v1 r b (fb_canA A a1 a2).2) ∧ fa_IS v1 b) ∧ (fa_fr (b) (b + 56) v v1))) := by
  refine fa_startI (by decide +kernel) (Nat.le_of_ble_eq_true rfl) (fun p e s m args below meth c ls Q CX hl HX RET => ?_)
  have hl : lv_has ls 4 [(0, .ref (fa_B G + (b))), (1, .int (a1)), (2, .int (a2))] := hl
  have hx := CX.1.1
  have hb := CX.1.2.1
  refine lv_aload_n hx hb dX3_takeReservation_0 rfl (lv_at hl 0 rfl) ?_
  refine fa_getr (k := b) (j := b + 2) CX HX fl_X3_20 (fa_lt hB 0 (by decide) hn) (fa_s0 hB) rfl hr.2.1 dX3_takeReservation_1 ?_
  refine lv_iload_n hx hb dX3_takeReservation_4 rfl (lv_at hl 1 rfl) ?_
  refine lv_iload_n hx hb dX3_takeReservation_5 rfl (lv_at hl 2 rfl) ?_
  refine fa_callVip (As := [.int (a1), .int (a2)]) (rest := []) CX HX (g_placeOf l G n hn v r b hB hr hI (a1) (a2) ) ln_X3_120 (fa_lt hB 2 (by decide) hn) (fa_s2 hB) rfl rfl rfl (Nat.le_of_ble_eq_true rfl) hl.1 ⟨Nat.le_of_ble_eq_true rfl, Nat.le_of_ble_eq_true rfl⟩ ⟨Nat.le_refl _, Nat.le_refl _⟩ dX3_takeReservation_6 (fun x1213 H locs h1212 HX1214 => ?_)
  have h_placeOf := h1212
  refine lv_istore_n (lv' := [(3, .int (x1213)), (0, .ref (fa_B G + (b))), (1, .int (a1)), (2, .int (a2))]) hx hb dX3_takeReservation_9 rfl hl (by decide) rfl (fun ls hl => ?_)
  refine lv_iload_n hx hb dX3_takeReservation_10 rfl (lv_at hl 0 rfl) ?_
  refine lv_if_ge (tgt := 16) hx hb dX3_takeReservation_11 (by decide) (fun c_11 => ?_) (fun c_11 => ?_)
  · refine lv_aload_n hx hb dX3_takeReservation_16 rfl (lv_at hl 1 rfl) ?_
    refine fa_getr (k := b) (j := b + 2) CX HX1214 fl_X3_20 (fa_lt hB 0 (by decide) hn) (fa_s0 hB) rfl hr.2.1 dX3_takeReservation_17 ?_
    refine lv_iload_n hx hb dX3_takeReservation_20 rfl (lv_at hl 0 rfl) ?_
    refine fa_callVvu (As := [.int (x1213)]) (rest := []) CX HX1214 (g_removeAt l G n hn v r b hB hr hI (x1213) ) ln_X3_131 (fa_lt hB 2 (by decide) hn) (fa_s2 hB) rfl rfl rfl (Nat.le_of_ble_eq_true rfl) hl.1 ⟨Nat.le_of_ble_eq_true rfl, Nat.le_of_ble_eq_true rfl⟩ ⟨Nat.le_refl _, Nat.le_refl _⟩ dX3_takeReservation_21 (fun v1216 H locs h1215 HX1217 => ?_)
    have h_removeAt := h1215.1
    have hIS_v1216 : fa_IS v1216 b := h1215.1.2
    refine lv_aload_n hx hb dX3_takeReservation_24 rfl (lv_at hl 1 rfl) ?_
    refine fa_getr (k := b) (j := b + 2) CX HX1217 fl_X3_20 (fa_lt hB 0 (by decide) hn) (fa_s0 hB) rfl hr.2.1 dX3_takeReservation_25 ?_
    refine fa_geti (k := b + 2) CX HX1217 fl_X3_124 (fa_lt hB 2 (by decide) hn) (fa_s2 hB) rfl dX3_takeReservation_28 ?_
    exact RET _ _ _ _ _ _ _ HX1217 dX3_takeReservation_31 (⟨rfl, ⟨⟨(fun A hok hc => by (have hp := fb_c_plc hc.2.2.2.2.1 h_placeOf; obtain ⟨-, m, k, L, hL, hP, hS, hk, ek, eL⟩ := hp.resolve_left (fun z => absurd z.1 (Int32.not_lt.mpr c_11)); have hr := h_removeAt.1 k ek (by rw [hL.n]; exact hk); rw [hL.n] at hr; exact fb_rs (fb_canA_s m) (by rw [hr.1, hP.length_eq]) (hc.res h1215.2 (fb_c_rem hL hP hS rfl hk eL hr)))), hIS_v1216⟩, (fa_fr.tr fa_fr.rf (fa_fr.wide h1215.2 (by omega) (by omega)))⟩⟩)
  · refine lv_iconst (v := (-1 : Int32)) hx hb dX3_takeReservation_14 (by decide) ?_
    exact RET _ _ _ _ _ _ _ HX1214 dX3_takeReservation_15 (⟨rfl, ⟨⟨(fun A hok hc => by (have hp := fb_c_plc hc.2.2.2.2.1 h_placeOf; exact fb_rs (fb_canA_n (hp.resolve_right (fun z => c_11 (Int32.not_lt.mp z.1))).2) rfl hc)), hI⟩, fa_fr.rf⟩⟩)
set_option maxHeartbeats 4000000 in
set_option maxRecDepth 100000 in
theorem g_changeSetting (l : Launch) (G : fa_G) (n : Nat) (hn : 397 ≤ n) (v : fa_V) (r : fa_R) (b : Nat) (hB : b ∈ fa_bs) (hr : fa_RS r b) (hI : fa_IS v b) (a1 : Int32) (a2 : Int32) : fa_MI l G n yX3_changeSetting cX3_changeSetting 4 (some .int) 2 [.ref (fa_B G + (b)), .int (a1), .int (a2)] v r (fa_voi r (fun x v1 => ((∀ A, fb_okA A → fb_cA v r b A → x = (fb_setA A a1 a2).1 ∧ fb_cA v1 r b (fb_setA A a1 a2).2) ∧ fa_IS v1 b) ∧ (fa_fr (b) (b + 56) v v1))) := by
  refine fa_startI (by decide +kernel) (Nat.le_of_ble_eq_true rfl) (fun p e s m args below meth c ls Q CX hl HX RET => ?_)
  have hl : lv_has ls 4 [(0, .ref (fa_B G + (b))), (1, .int (a1)), (2, .int (a2))] := hl
  have hx := CX.1.1
  have hb := CX.1.2.1
  refine lv_iload_n hx hb dX3_changeSetting_0 rfl (lv_at hl 1 rfl) ?_
  refine fa_callSNip (As := [.int (a1)]) (rest := []) CX HX (c_X6_isNoSetting l G n v r (a1)) (by decide +kernel) ln_X3_138 rfl rfl (Nat.le_of_ble_eq_true rfl) hl.1 ⟨Nat.le_of_ble_eq_true rfl, Nat.le_of_ble_eq_true rfl⟩ ⟨Nat.le_refl _, Nat.le_refl _⟩ dX3_changeSetting_1 (fun x1219 H locs h1218 HX1220 => ?_)
  have h_ns := h1218
  refine lv_if_eq (tgt := 9) hx hb dX3_changeSetting_4 (by decide) (fun c_4 => ?_) (fun c_4 => ?_)
  · obtain ⟨jh, hjh, ejh⟩ := fa_ix7 (by decide) (fa_ifn h_ns c_4)
    refine lv_iload_n hx hb dX3_changeSetting_9 rfl (lv_at hl 2 rfl) ?_
    refine fa_getst (j := 1) CX HX1220 (by decide) (by decide +kernel) dX3_changeSetting_10 ?_
    refine lv_iload_n hx hb dX3_changeSetting_13 rfl (lv_at hl 1 rfl) ?_
    rw [show a1 = nI (jh) from ejh]
    refine fa_sald (j := 1) (i := jh) CX HX1220 (by decide) (by omega) dX3_changeSetting_14 ?_
    refine lv_icmp_lt (tgt := 27) hx hb dX3_changeSetting_15 (by decide) (fun c_15 => ?_) (fun c_15 => ?_)
    · refine lv_bipush (v := (-2 : Int32)) hx hb dX3_changeSetting_27 (by decide) ?_
      exact RET _ _ _ _ _ _ _ HX1220 dX3_changeSetting_29 (⟨rfl, ⟨⟨(fun A hok hc => fb_rs (fb_setA_2 (fa_ifn h_ns c_4) ejh hjh (Or.inl c_15)) rfl hc), hI⟩, fa_fr.rf⟩⟩)
    · refine lv_iload_n hx hb dX3_changeSetting_18 rfl (lv_at hl 2 rfl) ?_
      refine fa_getst (j := 2) CX HX1220 (by decide) (by decide +kernel) dX3_changeSetting_19 ?_
      refine lv_iload_n hx hb dX3_changeSetting_22 rfl (lv_at hl 1 rfl) ?_
      rw [show a1 = nI (jh) from ejh]
      refine fa_sald (j := 2) (i := jh) CX HX1220 (by decide) (by omega) dX3_changeSetting_23 ?_
      refine lv_icmp_le (tgt := 30) hx hb dX3_changeSetting_24 (by decide) (fun c_24 => ?_) (fun c_24 => ?_)
      · refine lv_aload_n hx hb dX3_changeSetting_30 rfl (lv_at hl 0 rfl) ?_
        refine fa_getr (k := b) (j := b + 7) CX HX1220 fl_X3_31 (fa_lt hB 0 (by decide) hn) (fa_s0 hB) rfl hr.2.2.2.1 dX3_changeSetting_31 ?_
        refine lv_iload_n hx hb dX3_changeSetting_34 rfl (lv_at hl 1 rfl) ?_
        rw [show a1 = nI (jh) from ejh]
        refine fa_iald (k := b + 7) (j := jh) CX HX1220 (fa_lt hB 7 (by decide) hn) (fa_s7 hB) (by omega) (by first | decide | assumption) dX3_changeSetting_35 ?_
        refine lv_istore_n (lv' := [(3, .int (v (b + 7) jh)), (0, .ref (fa_B G + (b))), (1, .int (a1)), (2, .int (a2))]) hx hb dX3_changeSetting_36 rfl hl (by decide) rfl (fun ls hl => ?_)
        refine lv_aload_n hx hb dX3_changeSetting_37 rfl (lv_at hl 1 rfl) ?_
        refine fa_getr (k := b) (j := b + 7) CX HX1220 fl_X3_31 (fa_lt hB 0 (by decide) hn) (fa_s0 hB) rfl hr.2.2.2.1 dX3_changeSetting_38 ?_
        refine lv_iload_n hx hb dX3_changeSetting_41 rfl (lv_at hl 2 rfl) ?_
        rw [show a1 = nI (jh) from ejh]
        refine lv_iload_n hx hb dX3_changeSetting_42 rfl (lv_at hl 3 rfl) ?_
        refine fa_iast (k := b + 7) (j := jh) CX HX1220 (fa_lt hB 7 (by decide) hn) (fa_s7 hB) (by omega) (by first | decide | assumption) dX3_changeSetting_43 (fun H locs v1221 e1222 HX1223 => ?_)
        refine lv_iload_n hx hb dX3_changeSetting_44 rfl (lv_at hl 0 rfl) ?_
        exact RET _ _ _ _ _ _ _ HX1223 dX3_changeSetting_45 (⟨rfl, ⟨⟨(fun A hok hc => fb_rs (fb_setA_3 (fa_ifn h_ns c_4) ejh hjh (fun z => z.elim c_15 (fun z => z c_24))) (hc.set hjh) (by rw [show v1221 = _ from e1222]; exact hc.uset hjh)), (by rw [e1222]; exact fa_IS.u hI (Or.inr (Or.inr (Or.inr (Or.inr (Or.inr (Or.inr (Or.inr (Or.inl rfl)))))))))⟩, (by rw [e1222]; exact fa_fr.u fa_fr.rf (by omega))⟩⟩)
      · refine lv_bipush (v := (-2 : Int32)) hx hb dX3_changeSetting_27 (by decide) ?_
        exact RET _ _ _ _ _ _ _ HX1220 dX3_changeSetting_29 (⟨rfl, ⟨⟨(fun A hok hc => fb_rs (fb_setA_2 (fa_ifn h_ns c_4) ejh hjh (Or.inr c_24)) rfl hc), hI⟩, fa_fr.rf⟩⟩)
  · refine lv_iconst (v := (-1 : Int32)) hx hb dX3_changeSetting_7 (by decide) ?_
    exact RET _ _ _ _ _ _ _ HX1220 dX3_changeSetting_8 (⟨rfl, ⟨⟨(fun A hok hc => fb_rs (fb_setA_1 (fa_ift h_ns c_4)) rfl hc), hI⟩, fa_fr.rf⟩⟩)
