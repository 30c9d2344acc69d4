set_option maxHeartbeats 4000000 in
set_option maxRecDepth 100000 in
theorem g_signHere (l : Launch) (G : fa_G) (n : Nat) (hn : 397 ≤ n) (v : fa_V) (r : fa_R) (hA : fa_RA r) (hT : fa_IT v) : fa_MI l G n yX1_signHere cX1_signHere 1 (some .char) 1 [.ref (fa_B G + (395))] v r (fun x w => w = (v, r) ∧ (narrow .char (.int x) = .int x)) := by
  refine fa_startC (by decide +kernel) (Nat.le_of_ble_eq_true rfl) (fun p e s m args below meth c ls Q CX hl HX RET => ?_)
  have hl : lv_has ls 1 [(0, .ref (fa_B G + (395)))] := hl
  have hx := CX.1.1
  have hb := CX.1.2.1
  obtain ⟨⟨nt, hnt, ht⟩, hch⟩ := id hT
  refine lv_aload_n hx hb dX1_signHere_0 rfl (lv_at hl 0 rfl) ?_
  refine fa_geti (k := 395) CX HX fl_X1_19 (by omega) rfl rfl dX1_signHere_1 ?_
  refine lv_if_lt (tgt := 30) hx hb dX1_signHere_4 (by decide) (fun c_4 => ?_) (fun c_4 => ?_)
  · refine lv_iconst (v := nI (0)) hx hb dX1_signHere_30 (by decide) ?_
    exact RET _ _ _ _ _ _ _ HX dX1_signHere_31 (by first | decide | exact hch ja (by omega)) (⟨rfl, (by first | decide | exact hch ja (by omega))⟩)
  · refine lv_aload_n hx hb dX1_signHere_7 rfl (lv_at hl 0 rfl) ?_
    refine fa_geti (k := 395) CX HX fl_X1_19 (by omega) rfl rfl dX1_signHere_8 ?_
    refine lv_aload_n hx hb dX1_signHere_11 rfl (lv_at hl 0 rfl) ?_
    refine fa_geti (k := 395) CX HX fl_X1_15 (by omega) rfl rfl dX1_signHere_12 ?_
    rw [show v 395 1 = nI (nt) from ht]
    refine lv_icmp_ge (tgt := 30) hx hb dX1_signHere_15 (by decide) (fun c_15 => ?_) (fun c_15 => ?_)
    · refine lv_iconst (v := nI (0)) hx hb dX1_signHere_30 (by decide) ?_
      exact RET _ _ _ _ _ _ _ HX dX1_signHere_31 (by first | decide | exact hch ja (by omega)) (⟨rfl, (by first | decide | exact hch ja (by omega))⟩)
    · obtain ⟨ja, hja, eja⟩ := fa_ixN (by omega) c_4 (Int32.not_le.mp c_15)
      refine lv_aload_n hx hb dX1_signHere_18 rfl (lv_at hl 0 rfl) ?_
      refine fa_getr (k := 395) (j := 396) CX HX fl_X1_9 (by omega) rfl rfl hA.2.2.2.2.2 dX1_signHere_19 ?_
      refine lv_aload_n hx hb dX1_signHere_22 rfl (lv_at hl 0 rfl) ?_
      refine fa_geti (k := 395) CX HX fl_X1_19 (by omega) rfl rfl dX1_signHere_23 ?_
      rw [show v 395 2 = nI (ja) from eja]
      refine fa_cald (k := 396) (j := ja) CX HX (by omega) rfl (by omega) (by first | decide | assumption) dX1_signHere_26 ?_
      refine lv_goto (tgt := 31) hx hb dX1_signHere_27 (by decide) ?_
      exact RET _ _ _ _ _ _ _ HX dX1_signHere_31 (by first | decide | exact hch ja (by omega)) (⟨rfl, (by first | decide | exact hch ja (by omega))⟩)
set_option maxHeartbeats 4000000 in
set_option maxRecDepth 100000 in
theorem g_digitHere (l : Launch) (G : fa_G) (n : Nat) (hn : 397 ≤ n) (v : fa_V) (r : fa_R) (hA : fa_RA r) (hT : fa_IT v) : fa_MI l G n yX1_digitHere cX1_digitHere 2 (some .int) 2 [.ref (fa_B G + (395))] v r (fun x w => w = (v, r) ∧ (True)) := by
  refine fa_startI (by decide +kernel) (Nat.le_of_ble_eq_true rfl) (fun p e s m args below meth c ls Q CX hl HX RET => ?_)
  have hl : lv_has ls 2 [(0, .ref (fa_B G + (395)))] := hl
  have hx := CX.1.1
  have hb := CX.1.2.1
  obtain ⟨⟨nt, hnt, ht⟩, hch⟩ := id hT
  refine lv_aload_n hx hb dX1_digitHere_0 rfl (lv_at hl 0 rfl) ?_
  refine fa_callVip (As := []) (rest := []) CX HX (g_signHere l G n hn v r hA hT ) ln_X1_30 (by omega) rfl rfl rfl rfl (Nat.le_of_ble_eq_true rfl) hl.1 ⟨Nat.le_of_ble_eq_true rfl, Nat.le_of_ble_eq_true rfl⟩ ⟨Nat.le_refl _, Nat.le_refl _⟩ dX1_digitHere_1 (fun x1290 H locs h1289 HX1291 => ?_)
  have h_signHere := h1289
  refine lv_istore_n (lv' := [(1, .int (x1290)), (0, .ref (fa_B G + (395)))]) hx hb dX1_digitHere_4 rfl hl (by decide) rfl (fun ls hl => ?_)
  refine lv_iload_n hx hb dX1_digitHere_5 rfl (lv_at hl 0 rfl) ?_
  refine lv_bipush (v := nI (48)) hx hb dX1_digitHere_6 (by decide) ?_
  refine lv_icmp_lt (tgt := 24) hx hb dX1_digitHere_8 (by decide) (fun c_8 => ?_) (fun c_8 => ?_)
  · refine lv_iconst (v := (-1 : Int32)) hx hb dX1_digitHere_24 (by decide) ?_
    exact RET _ _ _ _ _ _ _ HX1291 dX1_digitHere_25 (⟨rfl, trivial⟩)
  · refine lv_iload_n hx hb dX1_digitHere_11 rfl (lv_at hl 0 rfl) ?_
    refine lv_bipush (v := nI (57)) hx hb dX1_digitHere_12 (by decide) ?_
    refine lv_icmp_gt (tgt := 24) hx hb dX1_digitHere_14 (by decide) (fun c_14 => ?_) (fun c_14 => ?_)
    · refine lv_iconst (v := (-1 : Int32)) hx hb dX1_digitHere_24 (by decide) ?_
      exact RET _ _ _ _ _ _ _ HX1291 dX1_digitHere_25 (⟨rfl, trivial⟩)
    · refine lv_iload_n hx hb dX1_digitHere_17 rfl (lv_at hl 0 rfl) ?_
      refine lv_bipush (v := nI (48)) hx hb dX1_digitHere_18 (by decide) ?_
      refine lv_isub hx hb dX1_digitHere_20 ?_
      refine lv_goto (tgt := 25) hx hb dX1_digitHere_21 (by decide) ?_
      exact RET _ _ _ _ _ _ _ HX1291 dX1_digitHere_25 (⟨rfl, trivial⟩)
set_option maxHeartbeats 4000000 in
set_option maxRecDepth 100000 in
theorem g_readSign (l : Launch) (G : fa_G) (n : Nat) (hn : 397 ≤ n) (v : fa_V) (r : fa_R) (hA : fa_RA r) (hT : fa_IT v) (a1 : Int32) : fa_MI l G n yX1_readSign cX1_readSign 2 (some .boolean) 2 [.ref (fa_B G + (395)), .int (a1)] v r (fa_voi r (fun x v1 => (v1 395 1 = v 395 1) ∧ (fa_fr (395) (396) v v1))) := by
  refine fa_startZ (by decide +kernel) (Nat.le_of_ble_eq_true rfl) (fun p e s m args below meth c ls Q CX hl HX RET => ?_)
  have hl : lv_has ls 2 [(0, .ref (fa_B G + (395))), (1, .int (a1))] := hl
  have hx := CX.1.1
  have hb := CX.1.2.1
  obtain ⟨⟨nt, hnt, ht⟩, hch⟩ := id hT
  refine lv_aload_n hx hb dX1_readSign_0 rfl (lv_at hl 0 rfl) ?_
  refine fa_callVip (As := []) (rest := []) CX HX (g_signHere l G n hn v r hA hT ) ln_X1_30 (by omega) rfl rfl rfl rfl (Nat.le_of_ble_eq_true rfl) hl.1 ⟨Nat.le_of_ble_eq_true rfl, Nat.le_of_ble_eq_true rfl⟩ ⟨Nat.le_refl _, Nat.le_refl _⟩ dX1_readSign_1 (fun x1293 H locs h1292 HX1294 => ?_)
  have h_signHere := h1292
  refine lv_iload_n hx hb dX1_readSign_4 rfl (lv_at hl 1 rfl) ?_
  refine lv_icmp_eq (tgt := 10) hx hb dX1_readSign_5 (by decide) (fun c_5 => ?_) (fun c_5 => ?_)
  · refine lv_aload_n hx hb dX1_readSign_10 rfl (lv_at hl 0 rfl) ?_
    refine lv_dup hx hb dX1_readSign_11 rfl ?_
    refine fa_geti (k := 395) CX HX1294 fl_X1_19 (by omega) rfl rfl dX1_readSign_12 ?_
    refine lv_iconst (v := nI (1)) hx hb dX1_readSign_15 (by decide) ?_
    refine lv_iadd hx hb dX1_readSign_16 ?_
    refine fa_puti (k := 395) CX HX1294 fl_X1_19 (by omega) rfl rfl rfl rfl dX1_readSign_17 (fun H locs v1295 e1296 HX1297 => ?_)
    refine lv_iconst (v := nI (1)) hx hb dX1_readSign_20 (by decide) ?_
    exact RET _ _ _ _ _ _ _ HX1297 dX1_readSign_21 (by decide) (⟨rfl, ⟨(show v1295 395 1 = v 395 1 from ((congrFun (congrFun e1296 395) 1).trans ((fa_u_n _ _ (by decide)).trans rfl))), (by rw [e1296]; exact fa_fr.u fa_fr.rf (by omega))⟩⟩)
  · refine lv_iconst (v := nI (0)) hx hb dX1_readSign_8 (by decide) ?_
    exact RET _ _ _ _ _ _ _ HX1294 dX1_readSign_9 (by decide) (⟨rfl, ⟨(show v 395 1 = v 395 1 from rfl), fa_fr.rf⟩⟩)
set_option maxHeartbeats 4000000 in
set_option maxRecDepth 100000 in
theorem g_readNumber (l : Launch) (G : fa_G) (n : Nat) (hn : 397 ≤ n) (v : fa_V) (r : fa_R) (hA : fa_RA r) (hT : fa_IT v) (a1 : Int32) (a2 : Int32) : fa_MI l G n yX1_readNumber cX1_readNumber 6 (some .int) 3 [.ref (fa_B G + (395)), .int (a1), .int (a2)] v r (fa_voi r (fun x v1 => (v1 395 1 = v 395 1) ∧ (fa_fr (395) (396) v v1))) := by
  refine fa_startI (by decide +kernel) (Nat.le_of_ble_eq_true rfl) (fun p e s m args below meth c ls Q CX hl HX RET => ?_)
  have hl : lv_has ls 6 [(0, .ref (fa_B G + (395))), (1, .int (a1)), (2, .int (a2))] := hl
  have hx := CX.1.1
  have hb := CX.1.2.1
  obtain ⟨⟨nt, hnt, ht⟩, hch⟩ := id hT
  refine lv_aload_n hx hb dX1_readNumber_0 rfl (lv_at hl 0 rfl) ?_
  refine fa_callVip (As := []) (rest := []) CX HX (g_digitHere l G n hn v r hA hT ) ln_X1_55 (by omega) rfl rfl rfl rfl (Nat.le_of_ble_eq_true rfl) hl.1 ⟨Nat.le_of_ble_eq_true rfl, Nat.le_of_ble_eq_true rfl⟩ ⟨Nat.le_refl _, Nat.le_refl _⟩ dX1_readNumber_1 (fun x1299 H locs h1298 HX1300 => ?_)
  have h_digitHere := h1298
  refine lv_istore_n (lv' := [(3, .int (x1299)), (0, .ref (fa_B G + (395))), (1, .int (a1)), (2, .int (a2))]) hx hb dX1_readNumber_4 rfl hl (by decide) rfl (fun ls hl => ?_)
  refine lv_iload_n hx hb dX1_readNumber_5 rfl (lv_at hl 0 rfl) ?_
  refine lv_iload_n hx hb dX1_readNumber_6 rfl (lv_at hl 2 rfl) ?_
  refine lv_icmp_lt (tgt := 15) hx hb dX1_readNumber_7 (by decide) (fun c_7 => ?_) (fun c_7 => ?_)
  · refine lv_iconst (v := (-1 : Int32)) hx hb dX1_readNumber_15 (by decide) ?_
    exact RET _ _ _ _ _ _ _ HX1300 dX1_readNumber_16 (⟨rfl, ⟨(show v 395 1 = v 395 1 from rfl), fa_fr.rf⟩⟩)
  · refine lv_iload_n hx hb dX1_readNumber_10 rfl (lv_at hl 0 rfl) ?_
    refine lv_iload_n hx hb dX1_readNumber_11 rfl (lv_at hl 3 rfl) ?_
    refine lv_icmp_le (tgt := 17) hx hb dX1_readNumber_12 (by decide) (fun c_12 => ?_) (fun c_12 => ?_)
    · refine lv_aload_n hx hb dX1_readNumber_17 rfl (lv_at hl 1 rfl) ?_
      refine lv_dup hx hb dX1_readNumber_18 rfl ?_
      refine fa_geti (k := 395) CX HX1300 fl_X1_19 (by omega) rfl rfl dX1_readNumber_19 ?_
      refine lv_iconst (v := nI (1)) hx hb dX1_readNumber_22 (by decide) ?_
      refine lv_iadd hx hb dX1_readNumber_23 ?_
      refine fa_puti (k := 395) CX HX1300 fl_X1_19 (by omega) rfl rfl rfl rfl dX1_readNumber_24 (fun H locs v1301 e1302 HX1303 => ?_)
      refine lv_iconst (v := nI (0)) hx hb dX1_readNumber_27 (by decide) ?_
      refine lv_istore (lv' := [(4, .int (nI (0))), (3, .int (x1299)), (0, .ref (fa_B G + (395))), (1, .int (a1)), (2, .int (a2))]) hx hb dX1_readNumber_28 hl (by decide) rfl (fun ls hl => ?_)
      have LOOP_30 : ∀ (fu : Nat) (j : Nat) (va : Int32) (v1304 : fa_V) (H : Heap) (locs : List Loc) (ls : Array Slot), 60 - j < fu → (j ≤ 60 ∧ fa_IT v1304 ∧ v1304 395 1 = v 395 1 ∧ fa_fr 395 396 v v1304) → lv_has ls 6 [(0, .ref (fa_B G + (395))), (1, .int (a1)), (2, .int (a2)), (3, .int (va)), (4, .int (nI (j)))] → fa_HX G (n) v1304 r s H locs → W p l e (fa_rm 3) s m args below meth c H locs (0) (0) Q (F0 m 30 ls []) := by
        intro fu
        induction fu with
        | zero => intro j va v1304 H locs ls hk; exact absurd hk (Nat.not_lt_zero _)
        | succ fu ih_30 =>
          intro j va v1304 H locs ls hk_30 hi_30 hl HX1305
          refine lv_iload hx hb dX1_readNumber_30 (lv_at hl 4 rfl) ?_
          refine lv_bipush (v := nI (60)) hx hb dX1_readNumber_32 (by decide) ?_
          refine lv_icmp_ge (tgt := 89) hx hb dX1_readNumber_34 (by decide) (fun c_34 => ?_) (fun c_34 => ?_)
          · refine lv_iload_n hx hb dX1_readNumber_89 rfl (lv_at hl 3 rfl) ?_
            exact RET _ _ _ _ _ _ _ HX1305 dX1_readNumber_90 (⟨rfl, ⟨(show v1304 395 1 = v 395 1 from hi_30.2.2.1), (fa_fr.tr fa_fr.rf (fa_fr.wide hi_30.2.2.2 (by omega) (by omega)))⟩⟩)
          · have hj := fa_ltN (by omega) (by omega) c_34
            refine lv_aload_n hx hb dX1_readNumber_37 rfl (lv_at hl 0 rfl) ?_
            refine fa_callVip (As := []) (rest := []) CX HX1305 (g_digitHere l G n hn v1304 r hA hi_30.2.1 ) ln_X1_55 (by omega) rfl rfl rfl rfl (Nat.le_of_ble_eq_true rfl) hl.1 ⟨Nat.le_of_ble_eq_true rfl, Nat.le_of_ble_eq_true rfl⟩ ⟨Nat.le_refl _, Nat.le_refl _⟩ dX1_readNumber_38 (fun x1307 H locs h1306 HX1308 => ?_)
            have h_digitHere := h1306
            refine lv_istore (lv' := [(5, .int (x1307)), (0, .ref (fa_B G + (395))), (1, .int (a1)), (2, .int (a2)), (3, .int (va)), (4, .int (nI (j)))]) hx hb dX1_readNumber_41 hl (by decide) rfl (fun ls hl => ?_)
            refine lv_iload hx hb dX1_readNumber_43 (lv_at hl 0 rfl) ?_
            refine lv_if_lt (tgt := 63) hx hb dX1_readNumber_45 (by decide) (fun c_45 => ?_) (fun c_45 => ?_)
            · refine lv_iload_n hx hb dX1_readNumber_63 rfl (lv_at hl 4 rfl) ?_
              exact RET _ _ _ _ _ _ _ HX1308 dX1_readNumber_64 (⟨rfl, ⟨(show v1304 395 1 = v 395 1 from hi_30.2.2.1), (fa_fr.tr fa_fr.rf (fa_fr.wide hi_30.2.2.2 (by omega) (by omega)))⟩⟩)
            · refine lv_iload_n hx hb dX1_readNumber_48 rfl (lv_at hl 4 rfl) ?_
              refine lv_if_eq (tgt := 63) hx hb dX1_readNumber_49 (by decide) (fun c_49 => ?_) (fun c_49 => ?_)
              · refine lv_iload_n hx hb dX1_readNumber_63 rfl (lv_at hl 4 rfl) ?_
                exact RET _ _ _ _ _ _ _ HX1308 dX1_readNumber_64 (⟨rfl, ⟨(show v1304 395 1 = v 395 1 from hi_30.2.2.1), (fa_fr.tr fa_fr.rf (fa_fr.wide hi_30.2.2.2 (by omega) (by omega)))⟩⟩)
              · refine lv_iload_n hx hb dX1_readNumber_52 rfl (lv_at hl 4 rfl) ?_
                refine lv_bipush (v := nI (10)) hx hb dX1_readNumber_53 (by decide) ?_
                refine lv_imul hx hb dX1_readNumber_55 ?_
                refine lv_iload hx hb dX1_readNumber_56 (lv_at hl 0 rfl) ?_
                refine lv_iadd hx hb dX1_readNumber_58 ?_
                refine lv_iload_n hx hb dX1_readNumber_59 rfl (lv_at hl 3 rfl) ?_
                refine lv_icmp_le (tgt := 65) hx hb dX1_readNumber_60 (by decide) (fun c_60 => ?_) (fun c_60 => ?_)
                · refine lv_iload_n hx hb dX1_readNumber_65 rfl (lv_at hl 4 rfl) ?_
                  refine lv_bipush (v := nI (10)) hx hb dX1_readNumber_66 (by decide) ?_
                  refine lv_imul hx hb dX1_readNumber_68 ?_
                  refine lv_iload hx hb dX1_readNumber_69 (lv_at hl 0 rfl) ?_
                  refine lv_iadd hx hb dX1_readNumber_71 ?_
                  refine lv_istore_n (lv' := [(3, .int (((va) * (nI (10))) + (x1307))), (5, .int (x1307)), (0, .ref (fa_B G + (395))), (1, .int (a1)), (2, .int (a2)), (4, .int (nI (j)))]) hx hb dX1_readNumber_72 rfl hl (by decide) rfl (fun ls hl => ?_)
                  refine lv_aload_n hx hb dX1_readNumber_73 rfl (lv_at hl 2 rfl) ?_
                  refine lv_dup hx hb dX1_readNumber_74 rfl ?_
                  refine fa_geti (k := 395) CX HX1308 fl_X1_19 (by omega) rfl rfl dX1_readNumber_75 ?_
                  refine lv_iconst (v := nI (1)) hx hb dX1_readNumber_78 (by decide) ?_
                  refine lv_iadd hx hb dX1_readNumber_79 ?_
                  refine fa_puti (k := 395) CX HX1308 fl_X1_19 (by omega) rfl rfl rfl rfl dX1_readNumber_80 (fun H locs v1309 e1310 HX1311 => ?_)
                  refine lv_iinc (v := nI (j + 1)) (lv' := [(4, .int (nI (j + 1))), (3, .int (((va) * (nI (10))) + (x1307))), (5, .int (x1307)), (0, .ref (fa_B G + (395))), (1, .int (a1)), (2, .int (a2))]) hx hb dX1_readNumber_83 hl (k := 5) rfl (nI_add (j) 1) (by decide) rfl (fun ls hl => ?_)
                  refine lv_goto (tgt := 30) hx hb dX1_readNumber_86 (by decide) ?_
                  exact ih_30 (j + 1) (((va) * (nI (10))) + (x1307)) v1309 _ _ _ (by omega) (⟨by omega, (by rw [e1310]; exact fa_IT.u hi_30.2.1 (by decide)), ((congrFun (congrFun e1310 395) 1).trans ((fa_u_n _ _ (by decide)).trans hi_30.2.2.1)), (by rw [e1310]; exact fa_fr.u (fa_fr.tr fa_fr.rf (fa_fr.wide hi_30.2.2.2 (by omega) (by omega))) (by omega))⟩) (lv_sub hl [3, 4, 5, 1, 0] rfl) HX1311
                · refine lv_iload_n hx hb dX1_readNumber_63 rfl (lv_at hl 4 rfl) ?_
                  exact RET _ _ _ _ _ _ _ HX1308 dX1_readNumber_64 (⟨rfl, ⟨(show v1304 395 1 = v 395 1 from hi_30.2.2.1), (fa_fr.tr fa_fr.rf (fa_fr.wide hi_30.2.2.2 (by omega) (by omega)))⟩⟩)
      exact LOOP_30 (60 - 0 + 1) (0) (x1299) v1301 _ _ _ (Nat.lt_succ_self _) (⟨Nat.zero_le _, (by rw [e1302]; exact fa_IT.u hT (by decide)), ((congrFun (congrFun e1302 395) 1).trans ((fa_u_n _ _ (by decide)).trans rfl)), (by rw [e1302]; exact fa_fr.u fa_fr.rf (by omega))⟩) (lv_sub hl [2, 3, 4, 1, 0] rfl) HX1303
    · refine lv_iconst (v := (-1 : Int32)) hx hb dX1_readNumber_15 (by decide) ?_
      exact RET _ _ _ _ _ _ _ HX1300 dX1_readNumber_16 (⟨rfl, ⟨(show v 395 1 = v 395 1 from rfl), fa_fr.rf⟩⟩)
set_option maxHeartbeats 4000000 in
set_option maxRecDepth 100000 in
theorem g_readFirst (l : Launch) (G : fa_G) (n : Nat) (hn : 397 ≤ n) (v : fa_V) (r : fa_R) (hA : fa_RA r) (hT : fa_IT v) (a1 : Int32) (a2 : Int32) : fa_MI l G n yX1_readFirst cX1_readFirst 3 (some .boolean) 4 [.ref (fa_B G + (395)), .int (a1), .int (a2)] v r (fa_voi r (fun x v1 => (v1 395 1 = v 395 1) ∧ (fa_fr (395) (396) v v1))) := by
  refine fa_startZ (by decide +kernel) (Nat.le_of_ble_eq_true rfl) (fun p e s m args below meth c ls Q CX hl HX RET => ?_)
  have hl : lv_has ls 3 [(0, .ref (fa_B G + (395))), (1, .int (a1)), (2, .int (a2))] := hl
  have hx := CX.1.1
  have hb := CX.1.2.1
  obtain ⟨⟨nt, hnt, ht⟩, hch⟩ := id hT
  refine lv_aload_n hx hb dX1_readFirst_0 rfl (lv_at hl 0 rfl) ?_
  refine lv_dup hx hb dX1_readFirst_1 rfl ?_
  refine fa_geti (k := 395) CX HX fl_X1_19 (by omega) rfl rfl dX1_readFirst_2 ?_
  refine lv_iconst (v := nI (1)) hx hb dX1_readFirst_5 (by decide) ?_
  refine lv_iadd hx hb dX1_readFirst_6 ?_
  refine fa_puti (k := 395) CX HX fl_X1_19 (by omega) rfl rfl rfl rfl dX1_readFirst_7 (fun H locs v1312 e1313 HX1314 => ?_)
  refine lv_aload_n hx hb dX1_readFirst_10 rfl (lv_at hl 0 rfl) ?_
  refine lv_aload_n hx hb dX1_readFirst_11 rfl (lv_at hl 0 rfl) ?_
  refine lv_iload_n hx hb dX1_readFirst_12 rfl (lv_at hl 1 rfl) ?_
  refine lv_iload_n hx hb dX1_readFirst_13 rfl (lv_at hl 2 rfl) ?_
  refine fa_callViu (As := [.int (a1), .int (a2)]) (rest := [.ref (fa_B G + (395))]) CX HX1314 (g_readNumber l G n hn v1312 r hA (by rw [e1313]; exact fa_IT.u hT (by decide)) (a1) (a2)) ln_X1_45 (by omega) rfl rfl rfl rfl (Nat.le_of_ble_eq_true rfl) hl.1 ⟨Nat.le_of_ble_eq_true rfl, Nat.le_of_ble_eq_true rfl⟩ ⟨Nat.le_refl _, Nat.le_refl _⟩ dX1_readFirst_14 (fun x1316 v1317 H locs h1315 HX1318 => ?_)
  have h_readNumber := h1315.1
  refine fa_puti (k := 395) CX HX1318 fl_X1_49 (by omega) rfl rfl rfl rfl dX1_readFirst_17 (fun H locs v1319 e1320 HX1321 => ?_)
  refine lv_aload_n hx hb dX1_readFirst_20 rfl (lv_at hl 0 rfl) ?_
  refine fa_geti (k := 395) CX HX1321 fl_X1_49 (by omega) rfl rfl dX1_readFirst_21 ?_
  refine lv_if_lt (tgt := 31) hx hb dX1_readFirst_24 (by decide) (fun c_24 => ?_) (fun c_24 => ?_)
  · refine lv_iconst (v := nI (0)) hx hb dX1_readFirst_31 (by decide) ?_
    exact RET _ _ _ _ _ _ _ HX1321 dX1_readFirst_32 (by decide) (⟨rfl, ⟨(show v1319 395 1 = v 395 1 from ((congrFun (congrFun e1320 395) 1).trans ((fa_u_n _ _ (by decide)).trans (h1315.1.trans ((congrFun (congrFun e1313 395) 1).trans ((fa_u_n _ _ (by decide)).trans rfl)))))), (by rw [e1320]; exact fa_fr.u (fa_fr.tr (by rw [e1313]; exact fa_fr.u fa_fr.rf (by omega)) (fa_fr.wide h1315.2 (by omega) (by omega))) (by omega))⟩⟩)
  · refine lv_iconst (v := nI (1)) hx hb dX1_readFirst_27 (by decide) ?_
    refine lv_goto (tgt := 32) hx hb dX1_readFirst_28 (by decide) ?_
    exact RET _ _ _ _ _ _ _ HX1321 dX1_readFirst_32 (by decide) (⟨rfl, ⟨(show v1319 395 1 = v 395 1 from ((congrFun (congrFun e1320 395) 1).trans ((fa_u_n _ _ (by decide)).trans (h1315.1.trans ((congrFun (congrFun e1313 395) 1).trans ((fa_u_n _ _ (by decide)).trans rfl)))))), (by rw [e1320]; exact fa_fr.u (fa_fr.tr (by rw [e1313]; exact fa_fr.u fa_fr.rf (by omega)) (fa_fr.wide h1315.2 (by omega) (by omega))) (by omega))⟩⟩)
set_option maxHeartbeats 4000000 in
set_option maxRecDepth 100000 in
theorem g_readSecond (l : Launch) (G : fa_G) (n : Nat) (hn : 397 ≤ n) (v : fa_V) (r : fa_R) (hA : fa_RA r) (hT : fa_IT v) (a1 : Int32) (a2 : Int32) : fa_MI l G n yX1_readSecond cX1_readSecond 3 (some .boolean) 4 [.ref (fa_B G + (395)), .int (a1), .int (a2)] v r (fa_voi r (fun x v1 => (v1 395 1 = v 395 1) ∧ (fa_fr (395) (396) v v1))) := by
  refine fa_startZ (by decide +kernel) (Nat.le_of_ble_eq_true rfl) (fun p e s m args below meth c ls Q CX hl HX RET => ?_)
  have hl : lv_has ls 3 [(0, .ref (fa_B G + (395))), (1, .int (a1)), (2, .int (a2))] := hl
  have hx := CX.1.1
  have hb := CX.1.2.1
  obtain ⟨⟨nt, hnt, ht⟩, hch⟩ := id hT
  refine lv_aload_n hx hb dX1_readSecond_0 rfl (lv_at hl 0 rfl) ?_
  refine lv_bipush (v := nI (44)) hx hb dX1_readSecond_1 (by decide) ?_
  refine fa_callViu (As := [.int (nI (44))]) (rest := []) CX HX (g_readSign l G n hn v r hA hT (nI (44))) ln_X1_26 (by omega) rfl rfl rfl rfl (Nat.le_of_ble_eq_true rfl) hl.1 ⟨Nat.le_of_ble_eq_true rfl, Nat.le_of_ble_eq_true rfl⟩ ⟨Nat.le_refl _, Nat.le_refl _⟩ dX1_readSecond_3 (fun x1323 v1324 H locs h1322 HX1325 => ?_)
  have h_readSign := h1322.1
  refine lv_if_ne (tgt := 11) hx hb dX1_readSecond_6 (by decide) (fun c_6 => ?_) (fun c_6 => ?_)
  · refine lv_aload_n hx hb dX1_readSecond_11 rfl (lv_at hl 0 rfl) ?_
    refine lv_aload_n hx hb dX1_readSecond_12 rfl (lv_at hl 0 rfl) ?_
    refine lv_iload_n hx hb dX1_readSecond_13 rfl (lv_at hl 1 rfl) ?_
    refine lv_iload_n hx hb dX1_readSecond_14 rfl (lv_at hl 2 rfl) ?_
    refine fa_callViu (As := [.int (a1), .int (a2)]) (rest := [.ref (fa_B G + (395))]) CX HX1325 (g_readNumber l G n hn v1324 r hA (fa_IT.rows hT h1322.1 (h1322.2 396 (by decide))) (a1) (a2)) ln_X1_45 (by omega) rfl rfl rfl rfl (Nat.le_of_ble_eq_true rfl) hl.1 ⟨Nat.le_of_ble_eq_true rfl, Nat.le_of_ble_eq_true rfl⟩ ⟨Nat.le_refl _, Nat.le_refl _⟩ dX1_readSecond_15 (fun x1327 v1328 H locs h1326 HX1329 => ?_)
    have h_readNumber := h1326.1
    refine fa_puti (k := 395) CX HX1329 fl_X1_52 (by omega) rfl rfl rfl rfl dX1_readSecond_18 (fun H locs v1330 e1331 HX1332 => ?_)
    refine lv_aload_n hx hb dX1_readSecond_21 rfl (lv_at hl 0 rfl) ?_
    refine fa_geti (k := 395) CX HX1332 fl_X1_52 (by omega) rfl rfl dX1_readSecond_22 ?_
    refine lv_if_lt (tgt := 32) hx hb dX1_readSecond_25 (by decide) (fun c_25 => ?_) (fun c_25 => ?_)
    · refine lv_iconst (v := nI (0)) hx hb dX1_readSecond_32 (by decide) ?_
      exact RET _ _ _ _ _ _ _ HX1332 dX1_readSecond_33 (by decide) (⟨rfl, ⟨(show v1330 395 1 = v 395 1 from ((congrFun (congrFun e1331 395) 1).trans ((fa_u_n _ _ (by decide)).trans (h1326.1.trans h1322.1)))), (by rw [e1331]; exact fa_fr.u (fa_fr.tr (fa_fr.tr fa_fr.rf (fa_fr.wide h1322.2 (by omega) (by omega))) (fa_fr.wide h1326.2 (by omega) (by omega))) (by omega))⟩⟩)
    · refine lv_iconst (v := nI (1)) hx hb dX1_readSecond_28 (by decide) ?_
      refine lv_goto (tgt := 33) hx hb dX1_readSecond_29 (by decide) ?_
      exact RET _ _ _ _ _ _ _ HX1332 dX1_readSecond_33 (by decide) (⟨rfl, ⟨(show v1330 395 1 = v 395 1 from ((congrFun (congrFun e1331 395) 1).trans ((fa_u_n _ _ (by decide)).trans (h1326.1.trans h1322.1)))), (by rw [e1331]; exact fa_fr.u (fa_fr.tr (fa_fr.tr fa_fr.rf (fa_fr.wide h1322.2 (by omega) (by omega))) (fa_fr.wide h1326.2 (by omega) (by omega))) (by omega))⟩⟩)
  · refine lv_iconst (v := nI (0)) hx hb dX1_readSecond_9 (by decide) ?_
    exact RET _ _ _ _ _ _ _ HX1325 dX1_readSecond_10 (by decide) (⟨rfl, ⟨(show v1324 395 1 = v 395 1 from h1322.1), (fa_fr.tr fa_fr.rf (fa_fr.wide h1322.2 (by omega) (by omega)))⟩⟩)
