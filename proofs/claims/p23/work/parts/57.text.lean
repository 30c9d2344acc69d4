set_option maxHeartbeats 4000000 in
set_option maxRecDepth 100000 in
theorem g_signHere (l : Launch) (G : fa_G) (n : Nat) (hn : 397 ≤ n) (v : fa_V) (r : fa_R) (hA : fa_RA r) (hT : fa_IT v) (nt : Nat) (t : Nat → Int32) (hX : fa_TX v nt t) (a : Nat) (ha : a ≤ nt) (hat : v 395 2 = nI a) : fa_MI l G n yX1_signHere cX1_signHere 1 (some .char) 1 [.ref (fa_B G + (395))] v r (fun x w => w = (v, r) ∧ (fa_isC x ∧ x = fa_sg t nt a)) := by
  refine fa_startC (by decide +kernel) (Nat.le_of_ble_eq_true rfl) (fun p e s m args below meth c ls Q CX hl HX RET => ?_)
  have hl : lv_has ls 1 [(0, .ref (fa_B G + (395)))] := hl
  have hx := CX.1.1
  have hb := CX.1.2.1
  have hnt := hX.1
  have hch := hT.2
  refine lv_aload_n hx hb dX1_signHere_0 rfl (lv_at hl 0 rfl) ?_
  refine fa_geti (k := 395) CX HX fl_X1_19 (by omega) rfl rfl dX1_signHere_1 ?_
  rw [show v 395 2 = nI (a) from hat]
  refine lv_if_lt (tgt := 30) hx hb dX1_signHere_4 (by decide) (fun c_4 => ?_) (fun c_4 => ?_)
  · exact absurd c_4 (Int32.not_lt.mpr (nI_pos' (by omega)))
  · refine lv_aload_n hx hb dX1_signHere_7 rfl (lv_at hl 0 rfl) ?_
    refine fa_geti (k := 395) CX HX fl_X1_19 (by omega) rfl rfl dX1_signHere_8 ?_
    rw [show v 395 2 = nI (a) from hat]
    refine lv_aload_n hx hb dX1_signHere_11 rfl (lv_at hl 0 rfl) ?_
    refine fa_geti (k := 395) CX HX fl_X1_15 (by omega) rfl rfl dX1_signHere_12 ?_
    rw [show v 395 1 = nI (nt) from hX.2.1]
    refine lv_icmp_ge (tgt := 30) hx hb dX1_signHere_15 (by decide) (fun c_15 => ?_) (fun c_15 => ?_)
    · have hge := fa_leN (by omega) (by omega) c_15
      refine lv_iconst (v := nI (0)) hx hb dX1_signHere_30 (by decide) ?_
      exact RET _ _ _ _ _ _ _ HX dX1_signHere_31 (by first | decide | exact (hch a (by omega)).1) (⟨rfl, ⟨fa_isC_0, (by rw [fa_sg_out hge]; rfl)⟩⟩)
    · have hlt := fa_ltN (by omega) (by omega) c_15
      refine lv_aload_n hx hb dX1_signHere_18 rfl (lv_at hl 0 rfl) ?_
      refine fa_getr (k := 395) (j := 396) CX HX fl_X1_9 (by omega) rfl rfl hA.2.2.2.2.2 dX1_signHere_19 ?_
      refine lv_aload_n hx hb dX1_signHere_22 rfl (lv_at hl 0 rfl) ?_
      refine fa_geti (k := 395) CX HX fl_X1_19 (by omega) rfl rfl dX1_signHere_23 ?_
      rw [show v 395 2 = nI (a) from hat]
      refine fa_cald (k := 396) (j := a) CX HX (by omega) rfl (by omega) (by first | decide | assumption) dX1_signHere_26 ?_
      refine lv_goto (tgt := 31) hx hb dX1_signHere_27 (by decide) ?_
      exact RET _ _ _ _ _ _ _ HX dX1_signHere_31 (by first | decide | exact (hch a (by omega)).1) (⟨rfl, ⟨hch a (by omega), (by rw [fa_sg_in hlt, hX.2.2])⟩⟩)
set_option maxHeartbeats 4000000 in
set_option maxRecDepth 100000 in
theorem g_digitHere (l : Launch) (G : fa_G) (n : Nat) (hn : 397 ≤ n) (v : fa_V) (r : fa_R) (hA : fa_RA r) (hT : fa_IT v) (nt : Nat) (t : Nat → Int32) (hX : fa_TX v nt t) (a : Nat) (ha : a ≤ nt) (hat : v 395 2 = nI a) : fa_MI l G n yX1_digitHere cX1_digitHere 2 (some .int) 2 [.ref (fa_B G + (395))] v r (fun x w => w = (v, r) ∧ (x = fa_dg (fa_sg t nt a))) := by
  refine fa_startI (by decide +kernel) (Nat.le_of_ble_eq_true rfl) (fun p e s m args below meth c ls Q CX hl HX RET => ?_)
  have hl : lv_has ls 2 [(0, .ref (fa_B G + (395)))] := hl
  have hx := CX.1.1
  have hb := CX.1.2.1
  have hnt := hX.1
  have hch := hT.2
  refine lv_aload_n hx hb dX1_digitHere_0 rfl (lv_at hl 0 rfl) ?_
  refine fa_callVip (As := []) (rest := []) CX HX (g_signHere l G n hn v r hA hT nt t hX (a) (by omega) hat) ln_X1_30 (by omega) rfl rfl rfl rfl (Nat.le_of_ble_eq_true rfl) hl.1 ⟨Nat.le_of_ble_eq_true rfl, Nat.le_of_ble_eq_true rfl⟩ ⟨Nat.le_refl _, Nat.le_refl _⟩ dX1_digitHere_1 (fun x1285 H locs h1284 HX1286 => ?_)
  have h_signHere := h1284
  refine lv_istore_n (lv' := [(1, .int (x1285)), (0, .ref (fa_B G + (395)))]) hx hb dX1_digitHere_4 rfl hl (by decide) rfl (fun ls hl => ?_)
  refine lv_iload_n hx hb dX1_digitHere_5 rfl (lv_at hl 0 rfl) ?_
  refine lv_bipush (v := nI (48)) hx hb dX1_digitHere_6 (by decide) ?_
  refine lv_icmp_lt (tgt := 24) hx hb dX1_digitHere_8 (by decide) (fun c_8 => ?_) (fun c_8 => ?_)
  · refine lv_iconst (v := (-1 : Int32)) hx hb dX1_digitHere_24 (by decide) ?_
    exact RET _ _ _ _ _ _ _ HX1286 dX1_digitHere_25 (⟨rfl, (by rw [← h_signHere.2]; unfold fa_dg; rw [if_pos (Or.inl c_8)])⟩)
  · refine lv_iload_n hx hb dX1_digitHere_11 rfl (lv_at hl 0 rfl) ?_
    refine lv_bipush (v := nI (57)) hx hb dX1_digitHere_12 (by decide) ?_
    refine lv_icmp_gt (tgt := 24) hx hb dX1_digitHere_14 (by decide) (fun c_14 => ?_) (fun c_14 => ?_)
    · refine lv_iconst (v := (-1 : Int32)) hx hb dX1_digitHere_24 (by decide) ?_
      exact RET _ _ _ _ _ _ _ HX1286 dX1_digitHere_25 (⟨rfl, (by rw [← h_signHere.2]; unfold fa_dg; rw [if_pos (Or.inr c_14)])⟩)
    · refine lv_iload_n hx hb dX1_digitHere_17 rfl (lv_at hl 0 rfl) ?_
      refine lv_bipush (v := nI (48)) hx hb dX1_digitHere_18 (by decide) ?_
      refine lv_isub hx hb dX1_digitHere_20 ?_
      refine lv_goto (tgt := 25) hx hb dX1_digitHere_21 (by decide) ?_
      exact RET _ _ _ _ _ _ _ HX1286 dX1_digitHere_25 (⟨rfl, (by rw [← h_signHere.2]; unfold fa_dg; rw [if_neg (fun z => z.elim c_8 c_14)])⟩)
set_option maxHeartbeats 4000000 in
set_option maxRecDepth 100000 in
theorem g_readSign (l : Launch) (G : fa_G) (n : Nat) (hn : 397 ≤ n) (v : fa_V) (r : fa_R) (hA : fa_RA r) (hT : fa_IT v) (nt : Nat) (t : Nat → Int32) (hX : fa_TX v nt t) (a : Nat) (ha : a ≤ nt) (hat : v 395 2 = nI a) (a1 : Int32) (hc : ¬ a1 = 0) : fa_MI l G n yX1_readSign cX1_readSign 2 (some .boolean) 2 [.ref (fa_B G + (395)), .int (a1)] v r (fa_voi r (fun x v1 => ((x = if fa_sg t nt a = a1 then nI 1 else nI 0) ∧ (∃ k, k = (if fa_sg t nt a = a1 then a + 1 else a) ∧ k ≤ nt ∧ v1 395 2 = nI k) ∧ (∀ i, ¬ i = 2 → v1 395 i = v 395 i)) ∧ (fa_fr (395) (396) v v1))) := by
  refine fa_startZ (by decide +kernel) (Nat.le_of_ble_eq_true rfl) (fun p e s m args below meth c ls Q CX hl HX RET => ?_)
  have hl : lv_has ls 2 [(0, .ref (fa_B G + (395))), (1, .int (a1))] := hl
  have hx := CX.1.1
  have hb := CX.1.2.1
  have hnt := hX.1
  have hch := hT.2
  refine lv_aload_n hx hb dX1_readSign_0 rfl (lv_at hl 0 rfl) ?_
  refine fa_callVip (As := []) (rest := []) CX HX (g_signHere l G n hn v r hA hT nt t hX (a) (by omega) hat) ln_X1_30 (by omega) rfl rfl rfl rfl (Nat.le_of_ble_eq_true rfl) hl.1 ⟨Nat.le_of_ble_eq_true rfl, Nat.le_of_ble_eq_true rfl⟩ ⟨Nat.le_refl _, Nat.le_refl _⟩ dX1_readSign_1 (fun x1288 H locs h1287 HX1289 => ?_)
  have h_signHere := h1287
  refine lv_iload_n hx hb dX1_readSign_4 rfl (lv_at hl 1 rfl) ?_
  refine lv_icmp_eq (tgt := 10) hx hb dX1_readSign_5 (by decide) (fun c_5 => ?_) (fun c_5 => ?_)
  · have hS : fa_sg t nt a = a1 := h_signHere.2.symm.trans c_5
    refine lv_aload_n hx hb dX1_readSign_10 rfl (lv_at hl 0 rfl) ?_
    refine lv_dup hx hb dX1_readSign_11 rfl ?_
    refine fa_geti (k := 395) CX HX1289 fl_X1_19 (by omega) rfl rfl dX1_readSign_12 ?_
    rw [show v 395 2 = nI (a) from hat]
    refine lv_iconst (v := nI (1)) hx hb dX1_readSign_15 (by decide) ?_
    refine fa_iaddN hx hb dX1_readSign_16 ?_
    refine fa_puti (k := 395) CX HX1289 fl_X1_19 (by omega) rfl rfl rfl rfl dX1_readSign_17 (fun H locs v1290 e1291 HX1292 => ?_)
    refine lv_iconst (v := nI (1)) hx hb dX1_readSign_20 (by decide) ?_
    exact RET _ _ _ _ _ _ _ HX1292 dX1_readSign_21 (by decide) (⟨rfl, ⟨(fa_and3 ⟨(by rw [if_pos hS]), a + 1, (by rw [if_pos hS]), fa_sg_nz hS hc, (show v1290 395 2 = nI (a + 1) from (by rw [e1291, fa_u_s]))⟩ (fun i z2 => by (show v1290 395 i = v 395 i; rw [e1291, fa_u_n _ _ (by omega)]))), (by rw [e1291]; exact fa_fr.u fa_fr.rf (by omega))⟩⟩)
  · have hS : ¬ fa_sg t nt a = a1 := fun z => c_5 (h_signHere.2.trans z)
    refine lv_iconst (v := nI (0)) hx hb dX1_readSign_8 (by decide) ?_
    exact RET _ _ _ _ _ _ _ HX1289 dX1_readSign_9 (by decide) (⟨rfl, ⟨(fa_and3 ⟨(by rw [if_neg hS]), a, (by rw [if_neg hS]), ha, (show v 395 2 = nI (a) from hat)⟩ (fun i z2 => rfl)), fa_fr.rf⟩⟩)
set_option maxHeartbeats 4000000 in
set_option maxRecDepth 100000 in
theorem g_readNumber (l : Launch) (G : fa_G) (n : Nat) (hn : 397 ≤ n) (v : fa_V) (r : fa_R) (hA : fa_RA r) (hT : fa_IT v) (nt : Nat) (t : Nat → Int32) (hX : fa_TX v nt t) (a : Nat) (ha : a ≤ nt) (hat : v 395 2 = nI a) (a1 : Int32) (a2 : Int32) (hlo : fa_okv 1 a1) (hhi : fa_okv 400 a2) : fa_MI l G n yX1_readNumber cX1_readNumber 6 (some .int) 3 [.ref (fa_B G + (395)), .int (a1), .int (a2)] v r (fa_voi r (fun x v1 => ((x = (fa_num (fa_sg t nt) a1 a2 a).1) ∧ (∃ k, k = (fa_num (fa_sg t nt) a1 a2 a).2 ∧ k ≤ nt ∧ v1 395 2 = nI k) ∧ (∀ i, ¬ i = 2 → v1 395 i = v 395 i)) ∧ (fa_fr (395) (396) v v1))) := by
  refine fa_startI (by decide +kernel) (Nat.le_of_ble_eq_true rfl) (fun p e s m args below meth c ls Q CX hl HX RET => ?_)
  have hl : lv_has ls 6 [(0, .ref (fa_B G + (395))), (1, .int (a1)), (2, .int (a2))] := hl
  have hx := CX.1.1
  have hb := CX.1.2.1
  have hnt := hX.1
  have hch := hT.2
  refine lv_aload_n hx hb dX1_readNumber_0 rfl (lv_at hl 0 rfl) ?_
  refine fa_callVip (As := []) (rest := []) CX HX (g_digitHere l G n hn v r hA hT nt t hX (a) (by omega) hat) ln_X1_55 (by omega) rfl rfl rfl rfl (Nat.le_of_ble_eq_true rfl) hl.1 ⟨Nat.le_of_ble_eq_true rfl, Nat.le_of_ble_eq_true rfl⟩ ⟨Nat.le_refl _, Nat.le_refl _⟩ dX1_readNumber_1 (fun x1294 H locs h1293 HX1295 => ?_)
  have h_digitHere := h1293
  refine lv_istore_n (lv' := [(3, .int (x1294)), (0, .ref (fa_B G + (395))), (1, .int (a1)), (2, .int (a2))]) hx hb dX1_readNumber_4 rfl hl (by decide) rfl (fun ls hl => ?_)
  refine lv_iload_n hx hb dX1_readNumber_5 rfl (lv_at hl 0 rfl) ?_
  refine lv_iload_n hx hb dX1_readNumber_6 rfl (lv_at hl 2 rfl) ?_
  refine lv_icmp_lt (tgt := 15) hx hb dX1_readNumber_7 (by decide) (fun c_7 => ?_) (fun c_7 => ?_)
  · have hz : fa_dg (fa_sg t nt a) < a1 ∨ ¬ fa_dg (fa_sg t nt a) ≤ a2 := by
      rw [← h_digitHere]
      exact Or.inl c_7
    refine lv_iconst (v := (-1 : Int32)) hx hb dX1_readNumber_15 (by decide) ?_
    exact RET _ _ _ _ _ _ _ HX1295 dX1_readNumber_16 (⟨rfl, ⟨(fa_and3 ⟨(by rw [fa_num_f hz]), a, (by rw [fa_num_f hz]), ha, (show v 395 2 = nI (a) from hat)⟩ (fun i z2 => rfl)), fa_fr.rf⟩⟩)
  · refine lv_iload_n hx hb dX1_readNumber_10 rfl (lv_at hl 0 rfl) ?_
    refine lv_iload_n hx hb dX1_readNumber_11 rfl (lv_at hl 3 rfl) ?_
    refine lv_icmp_le (tgt := 17) hx hb dX1_readNumber_12 (by decide) (fun c_12 => ?_) (fun c_12 => ?_)
    · have hnum := fa_num_t (t := t) (n := nt) (a := a) hlo hhi (by
        rw [← h_digitHere]
        exact fun z => z.elim c_7 (fun z => z c_12))
      refine lv_aload_n hx hb dX1_readNumber_17 rfl (lv_at hl 1 rfl) ?_
      refine lv_dup hx hb dX1_readNumber_18 rfl ?_
      refine fa_geti (k := 395) CX HX1295 fl_X1_19 (by omega) rfl rfl dX1_readNumber_19 ?_
      rw [show v 395 2 = nI (a) from hat]
      refine lv_iconst (v := nI (1)) hx hb dX1_readNumber_22 (by decide) ?_
      refine fa_iaddN hx hb dX1_readNumber_23 ?_
      refine fa_puti (k := 395) CX HX1295 fl_X1_19 (by omega) rfl rfl rfl rfl dX1_readNumber_24 (fun H locs v1296 e1297 HX1298 => ?_)
      refine lv_iconst (v := nI (0)) hx hb dX1_readNumber_27 (by decide) ?_
      refine lv_istore (lv' := [(4, .int (nI (0))), (3, .int (x1294)), (0, .ref (fa_B G + (395))), (1, .int (a1)), (2, .int (a2))]) hx hb dX1_readNumber_28 hl (by decide) rfl (fun ls hl => ?_)
      have LOOP_30 : ∀ (fu : Nat) (j : Nat) (va : Int32) (mt : Nat) (v1299 : fa_V) (H : Heap) (locs : List Loc) (ls : Array Slot), 60 - j < fu → (j ≤ 60 ∧ (mt ≤ nt ∧ fa_mre (fa_sg t nt) a2 (60 - j) va mt = fa_num (fa_sg t nt) a1 a2 a) ∧ v1299 395 2 = nI mt ∧ (∀ i, ¬ i = 2 → v1299 395 i = v 395 i) ∧ fa_fr 395 396 v v1299) → lv_has ls 6 [(0, .ref (fa_B G + (395))), (1, .int (a1)), (2, .int (a2)), (3, .int (va)), (4, .int (nI (j)))] → fa_HX G (n) v1299 r s H locs → W p l e (fa_rm 3) s m args below meth c H locs (0) (0) Q (F0 m 30 ls []) := by
        intro fu
        induction fu with
        | zero => intro j va mt v1299 H locs ls hk; exact absurd hk (Nat.not_lt_zero _)
        | succ fu ih_30 =>
          intro j va mt v1299 H locs ls hk_30 hi_30 hl HX1300
          refine lv_iload hx hb dX1_readNumber_30 (lv_at hl 4 rfl) ?_
          refine lv_bipush (v := nI (60)) hx hb dX1_readNumber_32 (by decide) ?_
          refine lv_icmp_ge (tgt := 89) hx hb dX1_readNumber_34 (by decide) (fun c_34 => ?_) (fun c_34 => ?_)
          · refine lv_iload_n hx hb dX1_readNumber_89 rfl (lv_at hl 3 rfl) ?_
            exact RET _ _ _ _ _ _ _ HX1300 dX1_readNumber_90 (⟨rfl, ⟨(fa_and3 ⟨(congrArg Prod.fst (hi_30.2.1.2.symm.trans (fa_mre_0 (fa_leN (by omega) (by omega) c_34)))).symm, mt, (congrArg Prod.snd (hi_30.2.1.2.symm.trans (fa_mre_0 (fa_leN (by omega) (by omega) c_34)))).symm, hi_30.2.1.1, (show v1299 395 2 = nI (mt) from hi_30.2.2.1)⟩ (fun i z2 => hi_30.2.2.2.1 i z2)), (fa_fr.tr fa_fr.rf (fa_fr.wide hi_30.2.2.2.2 (by omega) (by omega)))⟩⟩)
          · have hj := fa_ltN (by omega) (by omega) c_34
            refine lv_aload_n hx hb dX1_readNumber_37 rfl (lv_at hl 0 rfl) ?_
            refine fa_callVip (As := []) (rest := []) CX HX1300 (g_digitHere l G n hn v1299 r hA (fa_IT.rows hT (hi_30.2.2.2.1 1 (by decide)) (hi_30.2.2.2.2 396 (by decide))) nt t (fa_TX.rows hX (hi_30.2.2.2.1 1 (by decide)) ((hi_30.2.2.2.2 396 (by omega)).trans rfl)) (mt) (by omega) hi_30.2.2.1) ln_X1_55 (by omega) rfl rfl rfl rfl (Nat.le_of_ble_eq_true rfl) hl.1 ⟨Nat.le_of_ble_eq_true rfl, Nat.le_of_ble_eq_true rfl⟩ ⟨Nat.le_refl _, Nat.le_refl _⟩ dX1_readNumber_38 (fun x1302 H locs h1301 HX1303 => ?_)
            have h_digitHere := h1301
            refine lv_istore (lv' := [(5, .int (x1302)), (0, .ref (fa_B G + (395))), (1, .int (a1)), (2, .int (a2)), (3, .int (va)), (4, .int (nI (j)))]) hx hb dX1_readNumber_41 hl (by decide) rfl (fun ls hl => ?_)
            refine lv_iload hx hb dX1_readNumber_43 (lv_at hl 0 rfl) ?_
            refine lv_if_lt (tgt := 63) hx hb dX1_readNumber_45 (by decide) (fun c_45 => ?_) (fun c_45 => ?_)
            · refine lv_iload_n hx hb dX1_readNumber_63 rfl (lv_at hl 4 rfl) ?_
              exact RET _ _ _ _ _ _ _ HX1303 dX1_readNumber_64 (⟨rfl, ⟨(fa_and3 ⟨(congrArg Prod.fst (hi_30.2.1.2.symm.trans (fa_mre_e (show fa_dg (fa_sg t nt mt) < 0 ∨ va = 0 ∨ ¬ va * nI 10 + fa_dg (fa_sg t nt mt) ≤ a2 from by rw [← h_digitHere]; exact Or.inl c_45) _))).symm, mt, (congrArg Prod.snd (hi_30.2.1.2.symm.trans (fa_mre_e (show fa_dg (fa_sg t nt mt) < 0 ∨ va = 0 ∨ ¬ va * nI 10 + fa_dg (fa_sg t nt mt) ≤ a2 from by rw [← h_digitHere]; exact Or.inl c_45) _))).symm, hi_30.2.1.1, (show v1299 395 2 = nI (mt) from hi_30.2.2.1)⟩ (fun i z2 => hi_30.2.2.2.1 i z2)), (fa_fr.tr fa_fr.rf (fa_fr.wide hi_30.2.2.2.2 (by omega) (by omega)))⟩⟩)
            · have hd0 : ¬ fa_dg (fa_sg t nt mt) < 0 := by
                rw [← h_digitHere]
                exact c_45
              refine lv_iload_n hx hb dX1_readNumber_48 rfl (lv_at hl 4 rfl) ?_
              refine lv_if_eq (tgt := 63) hx hb dX1_readNumber_49 (by decide) (fun c_49 => ?_) (fun c_49 => ?_)
              · refine lv_iload_n hx hb dX1_readNumber_63 rfl (lv_at hl 4 rfl) ?_
                exact RET _ _ _ _ _ _ _ HX1303 dX1_readNumber_64 (⟨rfl, ⟨(fa_and3 ⟨(congrArg Prod.fst (hi_30.2.1.2.symm.trans (fa_mre_e (show fa_dg (fa_sg t nt mt) < 0 ∨ va = 0 ∨ ¬ va * nI 10 + fa_dg (fa_sg t nt mt) ≤ a2 from by rw [← h_digitHere]; exact Or.inr (Or.inl c_49)) _))).symm, mt, (congrArg Prod.snd (hi_30.2.1.2.symm.trans (fa_mre_e (show fa_dg (fa_sg t nt mt) < 0 ∨ va = 0 ∨ ¬ va * nI 10 + fa_dg (fa_sg t nt mt) ≤ a2 from by rw [← h_digitHere]; exact Or.inr (Or.inl c_49)) _))).symm, hi_30.2.1.1, (show v1299 395 2 = nI (mt) from hi_30.2.2.1)⟩ (fun i z2 => hi_30.2.2.2.1 i z2)), (fa_fr.tr fa_fr.rf (fa_fr.wide hi_30.2.2.2.2 (by omega) (by omega)))⟩⟩)
              · refine lv_iload_n hx hb dX1_readNumber_52 rfl (lv_at hl 4 rfl) ?_
                refine lv_bipush (v := nI (10)) hx hb dX1_readNumber_53 (by decide) ?_
                refine lv_imul hx hb dX1_readNumber_55 ?_
                refine lv_iload hx hb dX1_readNumber_56 (lv_at hl 0 rfl) ?_
                refine lv_iadd hx hb dX1_readNumber_58 ?_
                refine lv_iload_n hx hb dX1_readNumber_59 rfl (lv_at hl 3 rfl) ?_
                refine lv_icmp_le (tgt := 65) hx hb dX1_readNumber_60 (by decide) (fun c_60 => ?_) (fun c_60 => ?_)
                · refine lv_iload_n hx hb dX1_readNumber_65 rfl (lv_at hl 4 rfl) ?_
                  refine lv_bipush (v := nI (10)) hx hb dX1_readNumber_66 (by decide) ?_
                  refine lv_imul hx hb dX1_readNumber_68 ?_
                  refine lv_iload hx hb dX1_readNumber_69 (lv_at hl 0 rfl) ?_
                  refine lv_iadd hx hb dX1_readNumber_71 ?_
                  refine lv_istore_n (lv' := [(3, .int (((va) * (nI (10))) + (x1302))), (5, .int (x1302)), (0, .ref (fa_B G + (395))), (1, .int (a1)), (2, .int (a2)), (4, .int (nI (j)))]) hx hb dX1_readNumber_72 rfl hl (by decide) rfl (fun ls hl => ?_)
                  refine lv_aload_n hx hb dX1_readNumber_73 rfl (lv_at hl 2 rfl) ?_
                  refine lv_dup hx hb dX1_readNumber_74 rfl ?_
                  refine fa_geti (k := 395) CX HX1303 fl_X1_19 (by omega) rfl rfl dX1_readNumber_75 ?_
                  rw [show v1299 395 2 = nI (mt) from hi_30.2.2.1]
                  refine lv_iconst (v := nI (1)) hx hb dX1_readNumber_78 (by decide) ?_
                  refine fa_iaddN hx hb dX1_readNumber_79 ?_
                  refine fa_puti (k := 395) CX HX1303 fl_X1_19 (by omega) rfl rfl rfl rfl dX1_readNumber_80 (fun H locs v1304 e1305 HX1306 => ?_)
                  refine lv_iinc (v := nI (j + 1)) (lv' := [(4, .int (nI (j + 1))), (3, .int (((va) * (nI (10))) + (x1302))), (5, .int (x1302)), (0, .ref (fa_B G + (395))), (1, .int (a1)), (2, .int (a2))]) hx hb dX1_readNumber_83 hl (k := 5) rfl (nI_add (j) 1) (by decide) rfl (fun ls hl => ?_)
                  refine lv_goto (tgt := 30) hx hb dX1_readNumber_86 (by decide) ?_
                  exact ih_30 (j + 1) (((va) * (nI (10))) + (x1302)) (mt + 1) v1304 _ _ _ (by omega) (⟨by omega, ⟨(by have := fa_dg_lt hd0; omega), (by have z := fa_mre_s (S := fa_sg t nt) hj hd0 c_49 (by rw [← h_digitHere]; exact c_60); rw [← h_digitHere] at z; exact z.trans hi_30.2.1.2)⟩, (by rw [e1305, fa_u_s]), (fun i z2 => by (show v1304 395 i = v 395 i; rw [e1305, fa_u_n _ _ (by omega)]; exact hi_30.2.2.2.1 i z2)), (by rw [e1305]; exact fa_fr.u (fa_fr.tr fa_fr.rf (fa_fr.wide hi_30.2.2.2.2 (by omega) (by omega))) (by omega))⟩) (lv_sub hl [3, 4, 5, 1, 0] rfl) HX1306
                · refine lv_iload_n hx hb dX1_readNumber_63 rfl (lv_at hl 4 rfl) ?_
                  exact RET _ _ _ _ _ _ _ HX1303 dX1_readNumber_64 (⟨rfl, ⟨(fa_and3 ⟨(congrArg Prod.fst (hi_30.2.1.2.symm.trans (fa_mre_e (show fa_dg (fa_sg t nt mt) < 0 ∨ va = 0 ∨ ¬ va * nI 10 + fa_dg (fa_sg t nt mt) ≤ a2 from by rw [← h_digitHere]; exact Or.inr (Or.inr c_60)) _))).symm, mt, (congrArg Prod.snd (hi_30.2.1.2.symm.trans (fa_mre_e (show fa_dg (fa_sg t nt mt) < 0 ∨ va = 0 ∨ ¬ va * nI 10 + fa_dg (fa_sg t nt mt) ≤ a2 from by rw [← h_digitHere]; exact Or.inr (Or.inr c_60)) _))).symm, hi_30.2.1.1, (show v1299 395 2 = nI (mt) from hi_30.2.2.1)⟩ (fun i z2 => hi_30.2.2.2.1 i z2)), (fa_fr.tr fa_fr.rf (fa_fr.wide hi_30.2.2.2.2 (by omega) (by omega)))⟩⟩)
      exact LOOP_30 (60 - 0 + 1) (0) (x1294) (a + 1) v1296 _ _ _ (Nat.lt_succ_self _) (⟨Nat.zero_le _, ⟨hnum.2.1, (by have z := hnum.1; rw [← h_digitHere] at z; exact z.symm)⟩, (by rw [e1297, fa_u_s]), (fun i z2 => by (show v1296 395 i = v 395 i; rw [e1297, fa_u_n _ _ (by omega)])), (by rw [e1297]; exact fa_fr.u fa_fr.rf (by omega))⟩) (lv_sub hl [2, 3, 4, 1, 0] rfl) HX1298
    · have hz : fa_dg (fa_sg t nt a) < a1 ∨ ¬ fa_dg (fa_sg t nt a) ≤ a2 := by
        rw [← h_digitHere]
        exact Or.inr c_12
      refine lv_iconst (v := (-1 : Int32)) hx hb dX1_readNumber_15 (by decide) ?_
      exact RET _ _ _ _ _ _ _ HX1295 dX1_readNumber_16 (⟨rfl, ⟨(fa_and3 ⟨(by rw [fa_num_f hz]), a, (by rw [fa_num_f hz]), ha, (show v 395 2 = nI (a) from hat)⟩ (fun i z2 => rfl)), fa_fr.rf⟩⟩)
set_option maxHeartbeats 4000000 in
set_option maxRecDepth 100000 in
theorem g_readFirst (l : Launch) (G : fa_G) (n : Nat) (hn : 397 ≤ n) (v : fa_V) (r : fa_R) (hA : fa_RA r) (hT : fa_IT v) (nt : Nat) (t : Nat → Int32) (hX : fa_TX v nt t) (a : Nat) (ha : a ≤ nt) (hat : v 395 2 = nI a) (a1 : Int32) (a2 : Int32) (hlo : fa_okv 1 a1) (hhi : fa_okv 400 a2) (hlt : a < nt) : fa_MI l G n yX1_readFirst cX1_readFirst 3 (some .boolean) 4 [.ref (fa_B G + (395)), .int (a1), .int (a2)] v r (fa_voi r (fun x v1 => ((x = if 0 ≤ (fa_num (fa_sg t nt) a1 a2 (a + 1)).1 then nI 1 else nI 0) ∧ (∃ k, k = (fa_num (fa_sg t nt) a1 a2 (a + 1)).2 ∧ k ≤ nt ∧ v1 395 2 = nI k ∧ v1 395 4 = (fa_num (fa_sg t nt) a1 a2 (a + 1)).1) ∧ (∀ i, ¬ i = 2 → ¬ i = 4 → v1 395 i = v 395 i)) ∧ (fa_fr (395) (396) v v1))) := by
  refine fa_startZ (by decide +kernel) (Nat.le_of_ble_eq_true rfl) (fun p e s m args below meth c ls Q CX hl HX RET => ?_)
  have hl : lv_has ls 3 [(0, .ref (fa_B G + (395))), (1, .int (a1)), (2, .int (a2))] := hl
  have hx := CX.1.1
  have hb := CX.1.2.1
  have hnt := hX.1
  have hch := hT.2
  refine lv_aload_n hx hb dX1_readFirst_0 rfl (lv_at hl 0 rfl) ?_
  refine lv_dup hx hb dX1_readFirst_1 rfl ?_
  refine fa_geti (k := 395) CX HX fl_X1_19 (by omega) rfl rfl dX1_readFirst_2 ?_
  rw [show v 395 2 = nI (a) from hat]
  refine lv_iconst (v := nI (1)) hx hb dX1_readFirst_5 (by decide) ?_
  refine fa_iaddN hx hb dX1_readFirst_6 ?_
  refine fa_puti (k := 395) CX HX fl_X1_19 (by omega) rfl rfl rfl rfl dX1_readFirst_7 (fun H locs v1307 e1308 HX1309 => ?_)
  refine lv_aload_n hx hb dX1_readFirst_10 rfl (lv_at hl 0 rfl) ?_
  refine lv_aload_n hx hb dX1_readFirst_11 rfl (lv_at hl 0 rfl) ?_
  refine lv_iload_n hx hb dX1_readFirst_12 rfl (lv_at hl 1 rfl) ?_
  refine lv_iload_n hx hb dX1_readFirst_13 rfl (lv_at hl 2 rfl) ?_
  refine fa_callViu (As := [.int (a1), .int (a2)]) (rest := [.ref (fa_B G + (395))]) CX HX1309 (g_readNumber l G n hn v1307 r hA (by rw [e1308]; exact fa_IT.u hT (by decide)) nt t (fa_TX.rows hX ((congrFun (congrFun e1308 395) 1).trans ((fa_u_n _ _ (by decide)).trans rfl)) (((congrFun e1308 396).trans (fa_u_k _ _ (by decide))).trans rfl)) (a + 1) (by omega) (by rw [e1308, fa_u_s]) (a1) (a2) hlo hhi) ln_X1_45 (by omega) rfl rfl rfl rfl (Nat.le_of_ble_eq_true rfl) hl.1 ⟨Nat.le_of_ble_eq_true rfl, Nat.le_of_ble_eq_true rfl⟩ ⟨Nat.le_refl _, Nat.le_refl _⟩ dX1_readFirst_14 (fun x1311 v1312 H locs h1310 HX1313 => ?_)
  obtain ⟨hx_x1311, ⟨m_x1311, hm_x1311, hle_x1311, gm_x1311⟩, hs_x1311⟩ := h1310.1
  refine fa_puti (k := 395) CX HX1313 fl_X1_49 (by omega) rfl rfl rfl rfl dX1_readFirst_17 (fun H locs v1314 e1315 HX1316 => ?_)
  have hfi : v1314 395 4 = (fa_num (fa_sg t nt) a1 a2 (a + 1)).1 := by rw [e1315, fa_u_s]; exact hx_x1311
  refine lv_aload_n hx hb dX1_readFirst_20 rfl (lv_at hl 0 rfl) ?_
  refine fa_geti (k := 395) CX HX1316 fl_X1_49 (by omega) rfl rfl dX1_readFirst_21 ?_
  refine lv_if_lt (tgt := 31) hx hb dX1_readFirst_24 (by decide) (fun c_24 => ?_) (fun c_24 => ?_)
  · refine lv_iconst (v := nI (0)) hx hb dX1_readFirst_31 (by decide) ?_
    exact RET _ _ _ _ _ _ _ HX1316 dX1_readFirst_32 (by decide) (⟨rfl, ⟨(fa_and3 ⟨(by rw [if_neg (by rw [← hfi]; exact Int32.not_le.mpr c_24)]), m_x1311, hm_x1311, hle_x1311, (show v1314 395 2 = nI (m_x1311) from (by rw [e1315, fa_u_n _ _ (by omega)]; exact gm_x1311)), hfi⟩ (fun i z2 z4 => by (show v1314 395 i = v 395 i; rw [e1315, fa_u_n _ _ (by omega), hs_x1311 i z2, e1308, fa_u_n _ _ (by omega)]))), (by rw [e1315]; exact fa_fr.u (fa_fr.tr (by rw [e1308]; exact fa_fr.u fa_fr.rf (by omega)) (fa_fr.wide h1310.2 (by omega) (by omega))) (by omega))⟩⟩)
  · refine lv_iconst (v := nI (1)) hx hb dX1_readFirst_27 (by decide) ?_
    refine lv_goto (tgt := 32) hx hb dX1_readFirst_28 (by decide) ?_
    exact RET _ _ _ _ _ _ _ HX1316 dX1_readFirst_32 (by decide) (⟨rfl, ⟨(fa_and3 ⟨(by rw [if_pos (by rw [← hfi]; exact Int32.not_lt.mp c_24)]), m_x1311, hm_x1311, hle_x1311, (show v1314 395 2 = nI (m_x1311) from (by rw [e1315, fa_u_n _ _ (by omega)]; exact gm_x1311)), hfi⟩ (fun i z2 z4 => by (show v1314 395 i = v 395 i; rw [e1315, fa_u_n _ _ (by omega), hs_x1311 i z2, e1308, fa_u_n _ _ (by omega)]))), (by rw [e1315]; exact fa_fr.u (fa_fr.tr (by rw [e1308]; exact fa_fr.u fa_fr.rf (by omega)) (fa_fr.wide h1310.2 (by omega) (by omega))) (by omega))⟩⟩)
set_option maxHeartbeats 4000000 in
set_option maxRecDepth 100000 in
theorem g_readSecond (l : Launch) (G : fa_G) (n : Nat) (hn : 397 ≤ n) (v : fa_V) (r : fa_R) (hA : fa_RA r) (hT : fa_IT v) (nt : Nat) (t : Nat → Int32) (hX : fa_TX v nt t) (a : Nat) (ha : a ≤ nt) (hat : v 395 2 = nI a) (a1 : Int32) (a2 : Int32) (hlo : fa_okv 1 a1) (hhi : fa_okv 400 a2) : fa_MI l G n yX1_readSecond cX1_readSecond 3 (some .boolean) 4 [.ref (fa_B G + (395)), .int (a1), .int (a2)] v r (fa_voi r (fun x v1 => ((x = if 0 ≤ (fa_sec (fa_sg t nt) a1 a2 a).1 then nI 1 else nI 0) ∧ (∃ k, k = (fa_sec (fa_sg t nt) a1 a2 a).2 ∧ k ≤ nt ∧ v1 395 2 = nI k ∧ (0 ≤ (fa_sec (fa_sg t nt) a1 a2 a).1 → v1 395 5 = (fa_sec (fa_sg t nt) a1 a2 a).1)) ∧ (∀ i, ¬ i = 2 → ¬ i = 5 → v1 395 i = v 395 i)) ∧ (fa_fr (395) (396) v v1))) := by
  refine fa_startZ (by decide +kernel) (Nat.le_of_ble_eq_true rfl) (fun p e s m args below meth c ls Q CX hl HX RET => ?_)
  have hl : lv_has ls 3 [(0, .ref (fa_B G + (395))), (1, .int (a1)), (2, .int (a2))] := hl
  have hx := CX.1.1
  have hb := CX.1.2.1
  have hnt := hX.1
  have hch := hT.2
  refine lv_aload_n hx hb dX1_readSecond_0 rfl (lv_at hl 0 rfl) ?_
  refine lv_bipush (v := nI (44)) hx hb dX1_readSecond_1 (by decide) ?_
  refine fa_callViu (As := [.int (nI (44))]) (rest := []) CX HX (g_readSign l G n hn v r hA hT nt t hX (a) (by omega) hat (nI (44)) (by decide)) ln_X1_26 (by omega) rfl rfl rfl rfl (Nat.le_of_ble_eq_true rfl) hl.1 ⟨Nat.le_of_ble_eq_true rfl, Nat.le_of_ble_eq_true rfl⟩ ⟨Nat.le_refl _, Nat.le_refl _⟩ dX1_readSecond_3 (fun x1318 v1319 H locs h1317 HX1320 => ?_)
  obtain ⟨hx_x1318, ⟨m_x1318, hm_x1318, hle_x1318, gm_x1318⟩, hs_x1318⟩ := h1317.1
  have hxs := hx_x1318
  have hms := hm_x1318
  refine lv_if_ne (tgt := 11) hx hb dX1_readSecond_6 (by decide) (fun c_6 => ?_) (fun c_6 => ?_)
  · have hcm : fa_sg t nt a = nI 44 := fa_ift hxs c_6
    have hms1 := hms.trans (if_pos hcm)
    refine lv_aload_n hx hb dX1_readSecond_11 rfl (lv_at hl 0 rfl) ?_
    refine lv_aload_n hx hb dX1_readSecond_12 rfl (lv_at hl 0 rfl) ?_
    refine lv_iload_n hx hb dX1_readSecond_13 rfl (lv_at hl 1 rfl) ?_
    refine lv_iload_n hx hb dX1_readSecond_14 rfl (lv_at hl 2 rfl) ?_
    refine fa_callViu (As := [.int (a1), .int (a2)]) (rest := [.ref (fa_B G + (395))]) CX HX1320 (g_readNumber l G n hn v1319 r hA (fa_IT.rows hT (hs_x1318 1 (by decide)) (h1317.2 396 (by decide))) nt t (fa_TX.rows hX (hs_x1318 1 (by decide)) ((h1317.2 396 (by omega)).trans rfl)) (m_x1318) (by omega) gm_x1318 (a1) (a2) hlo hhi) ln_X1_45 (by omega) rfl rfl rfl rfl (Nat.le_of_ble_eq_true rfl) hl.1 ⟨Nat.le_of_ble_eq_true rfl, Nat.le_of_ble_eq_true rfl⟩ ⟨Nat.le_refl _, Nat.le_refl _⟩ dX1_readSecond_15 (fun x1322 v1323 H locs h1321 HX1324 => ?_)
    obtain ⟨hx_x1322, ⟨m_x1322, hm_x1322, hle_x1322, gm_x1322⟩, hs_x1322⟩ := h1321.1
    refine fa_puti (k := 395) CX HX1324 fl_X1_52 (by omega) rfl rfl rfl rfl dX1_readSecond_18 (fun H locs v1325 e1326 HX1327 => ?_)
    have hm1 := hms1
    have hfi : v1325 395 5 = (fa_num (fa_sg t nt) a1 a2 (a + 1)).1 := by rw [e1326, fa_u_s]; exact hx_x1322.trans (by rw [hm1])
    refine lv_aload_n hx hb dX1_readSecond_21 rfl (lv_at hl 0 rfl) ?_
    refine fa_geti (k := 395) CX HX1327 fl_X1_52 (by omega) rfl rfl dX1_readSecond_22 ?_
    refine lv_if_lt (tgt := 32) hx hb dX1_readSecond_25 (by decide) (fun c_25 => ?_) (fun c_25 => ?_)
    · refine lv_iconst (v := nI (0)) hx hb dX1_readSecond_32 (by decide) ?_
      exact RET _ _ _ _ _ _ _ HX1327 dX1_readSecond_33 (by decide) (⟨rfl, ⟨(fa_and3 ⟨(by rw [fa_sec_t hcm, if_neg (by rw [← hfi]; exact Int32.not_le.mpr c_25)]), m_x1322, (by rw [fa_sec_t hcm, hm_x1322, hm1]), hle_x1322, (show v1325 395 2 = nI (m_x1322) from (by rw [e1326, fa_u_n _ _ (by omega)]; exact gm_x1322)), (fun _ => by rw [fa_sec_t hcm]; exact hfi)⟩ (fun i z2 z5 => by (show v1325 395 i = v 395 i; rw [e1326, fa_u_n _ _ (by omega), hs_x1322 i z2, hs_x1318 i z2]))), (by rw [e1326]; exact fa_fr.u (fa_fr.tr (fa_fr.tr fa_fr.rf (fa_fr.wide h1317.2 (by omega) (by omega))) (fa_fr.wide h1321.2 (by omega) (by omega))) (by omega))⟩⟩)
    · refine lv_iconst (v := nI (1)) hx hb dX1_readSecond_28 (by decide) ?_
      refine lv_goto (tgt := 33) hx hb dX1_readSecond_29 (by decide) ?_
      exact RET _ _ _ _ _ _ _ HX1327 dX1_readSecond_33 (by decide) (⟨rfl, ⟨(fa_and3 ⟨(by rw [fa_sec_t hcm, if_pos (by rw [← hfi]; exact Int32.not_lt.mp c_25)]), m_x1322, (by rw [fa_sec_t hcm, hm_x1322, hm1]), hle_x1322, (show v1325 395 2 = nI (m_x1322) from (by rw [e1326, fa_u_n _ _ (by omega)]; exact gm_x1322)), (fun _ => by rw [fa_sec_t hcm]; exact hfi)⟩ (fun i z2 z5 => by (show v1325 395 i = v 395 i; rw [e1326, fa_u_n _ _ (by omega), hs_x1322 i z2, hs_x1318 i z2]))), (by rw [e1326]; exact fa_fr.u (fa_fr.tr (fa_fr.tr fa_fr.rf (fa_fr.wide h1317.2 (by omega) (by omega))) (fa_fr.wide h1321.2 (by omega) (by omega))) (by omega))⟩⟩)
  · have hcm : ¬ fa_sg t nt a = nI 44 := fa_ifn hxs (by first | exact c_6 | exact Decidable.not_not.mp c_6)
    refine lv_iconst (v := nI (0)) hx hb dX1_readSecond_9 (by decide) ?_
    exact RET _ _ _ _ _ _ _ HX1320 dX1_readSecond_10 (by decide) (⟨rfl, ⟨(fa_and3 ⟨(by rw [fa_sec_f hcm]; exact (if_neg fa_n1).symm), m_x1318, (by rw [fa_sec_f hcm, hm_x1318, if_neg hcm]), hle_x1318, (show v1319 395 2 = nI (m_x1318) from gm_x1318), (fun z => absurd z (by rw [fa_sec_f hcm]; exact fa_n1))⟩ (fun i z2 z5 => by (show v1319 395 i = v 395 i; rw [hs_x1318 i z2]))), (fa_fr.tr fa_fr.rf (fa_fr.wide h1317.2 (by omega) (by omega)))⟩⟩)
set_option maxHeartbeats 4000000 in
set_option maxRecDepth 100000 in
theorem g_readOrder (l : Launch) (G : fa_G) (n : Nat) (hn : 397 ≤ n) (v : fa_V) (r : fa_R) (hA : fa_RA r) (hT : fa_IT v) (nt : Nat) (t : Nat → Int32) (hX : fa_TX v nt t) (a : Nat) (ha : a ≤ nt) (hat : v 395 2 = nI a) : fa_MI l G n yX1_readOrder cX1_readOrder 1 (some .boolean) 5 [.ref (fa_B G + (395))] v r (fa_voi r (fun x v1 => ((x = if (fa_ord (fa_sg t nt) a).1 = true then nI 1 else nI 0) ∧ (∃ k, k = (fa_ord (fa_sg t nt) a).2.1 ∧ k ≤ nt ∧ v1 395 2 = nI k ∧ v1 395 3 = fa_sg t nt a ∧ ((fa_ord (fa_sg t nt) a).1 = true → v1 395 4 = (fa_ord (fa_sg t nt) a).2.2.1 ∧ (¬ fa_sg t nt a = (97 : Int32) → ¬ fa_sg t nt a = (100 : Int32) → v1 395 5 = (fa_ord (fa_sg t nt) a).2.2.2))) ∧ (∀ i, ¬ i = 2 → ¬ i = 3 → ¬ i = 4 → ¬ i = 5 → v1 395 i = v 395 i)) ∧ (fa_fr (395) (396) v v1))) := by
  refine fa_startZ (by decide +kernel) (Nat.le_of_ble_eq_true rfl) (fun p e s m args below meth c ls Q CX hl HX RET => ?_)
  have hl : lv_has ls 1 [(0, .ref (fa_B G + (395)))] := hl
  have hx := CX.1.1
  have hb := CX.1.2.1
  have hnt := hX.1
  have hch := hT.2
  refine lv_aload_n hx hb dX1_readOrder_0 rfl (lv_at hl 0 rfl) ?_
  refine lv_aload_n hx hb dX1_readOrder_1 rfl (lv_at hl 0 rfl) ?_
  refine fa_callVip (As := []) (rest := [.ref (fa_B G + (395))]) CX HX (g_signHere l G n hn v r hA hT nt t hX (a) (by omega) hat) ln_X1_30 (by omega) rfl rfl rfl rfl (Nat.le_of_ble_eq_true rfl) hl.1 ⟨Nat.le_of_ble_eq_true rfl, Nat.le_of_ble_eq_true rfl⟩ ⟨Nat.le_refl _, Nat.le_refl _⟩ dX1_readOrder_2 (fun x1329 H locs h1328 HX1330 => ?_)
  have h_signHere := h1328
  refine fa_puti (k := 395) CX HX1330 fl_X1_34 (by omega) rfl rfl h_signHere.1.1 h_signHere.1.2 dX1_readOrder_5 (fun H locs v1331 e1332 HX1333 => ?_)
  have hL : v1331 395 3 = fa_sg t nt a := by rw [e1332, fa_u_s]; exact h_signHere.2
  refine lv_aload_n hx hb dX1_readOrder_8 rfl (lv_at hl 0 rfl) ?_
  refine fa_geti (k := 395) CX HX1333 fl_X1_34 (by omega) rfl rfl dX1_readOrder_9 ?_
  by_cases c_12_97 : v1331 395 3 = (97 : Int32)
  · refine lv_tableIn (off := 117) (tgt := 129) hx hb dX1_readOrder_12 (by rw [c_12_97]; decide) (by rw [c_12_97]; decide) (by rw [c_12_97]; decide) (by decide) ?_
    have hS97 : fa_sg t nt a = (97 : Int32) := hL.symm.trans c_12_97
    have hlt : a < nt := fa_sg_nz hS97 (by decide)
    refine lv_aload_n hx hb dX1_readOrder_129 rfl (lv_at hl 0 rfl) ?_
    refine lv_iconst (v := nI (0)) hx hb dX1_readOrder_130 (by decide) ?_
    refine lv_sipush (v := nI (199)) hx hb dX1_readOrder_131 (by decide) ?_
    refine fa_callViu (As := [.int (nI (0)), .int (nI (199))]) (rest := []) CX HX1333 (g_readFirst l G n hn v1331 r hA (by rw [e1332]; exact fa_IT.u hT (by decide)) nt t (fa_TX.rows hX ((congrFun (congrFun e1332 395) 1).trans ((fa_u_n _ _ (by decide)).trans rfl)) (((congrFun e1332 396).trans (fa_u_k _ _ (by decide))).trans rfl)) (a) (by omega) (by rw [e1332, fa_u_n _ _ (by omega)]; exact hat) (nI (0)) (nI (199)) ⟨0, by decide, rfl⟩ ⟨199, by decide, rfl⟩ hlt) ln_X1_38 (by omega) rfl rfl rfl rfl (Nat.le_of_ble_eq_true rfl) hl.1 ⟨Nat.le_of_ble_eq_true rfl, Nat.le_of_ble_eq_true rfl⟩ ⟨Nat.le_refl _, Nat.le_refl _⟩ dX1_readOrder_134 (fun x1335 v1336 H locs h1334 HX1337 => ?_)
    obtain ⟨hx_x1335, ⟨m_x1335, hm_x1335, hle_x1335, gm_x1335, he_x1335⟩, hs_x1335⟩ := h1334.1
    exact RET _ _ _ _ _ _ _ HX1337 dX1_readOrder_137 (fa_if_nar hx_x1335) (⟨rfl, ⟨(fa_and3 (fa_oe (fa_ord_a hS97) (fa_ite_b hx_x1335) (by rw [← hm_x1335]; exact hle_x1335) (by rw [← hm_x1335]; exact (show v1336 395 2 = nI (m_x1335) from gm_x1335)) (show v1336 395 3 = fa_sg t nt a from by (rw [hs_x1335 3 (by decide) (by decide)]; exact hL)) (fun _ => ⟨he_x1335, fun a1 a2 => by first | exact absurd hS97 a1 | exact absurd hS97 a2⟩)) (fun i z2 z3 z4 z5 => by (show v1336 395 i = v 395 i; rw [hs_x1335 i z2 z4, e1332, fa_u_n _ _ (by omega)]))), (fa_fr.tr (by rw [e1332]; exact fa_fr.u fa_fr.rf (by omega)) (fa_fr.wide h1334.2 (by omega) (by omega)))⟩⟩)
  by_cases c_12_98 : v1331 395 3 = (98 : Int32)
  · refine lv_tableIn (off := 190) (tgt := 202) hx hb dX1_readOrder_12 (by rw [c_12_98]; decide) (by rw [c_12_98]; decide) (by rw [c_12_98]; decide) (by decide) ?_
    have hS98 : fa_sg t nt a = (98 : Int32) := hL.symm.trans c_12_98
    have hlt : a < nt := fa_sg_nz hS98 (by decide)
    refine lv_iconst (v := nI (0)) hx hb dX1_readOrder_202 (by decide) ?_
    exact RET _ _ _ _ _ _ _ HX1333 dX1_readOrder_203 (by decide) (⟨rfl, ⟨(fa_and3 (fa_oe (fa_ord_no (by rw [hS98]; decide) (by rw [hS98]; decide) (by rw [hS98]; decide) (by rw [hS98]; decide) (by rw [hS98]; decide) (by rw [hS98]; decide)) rfl ha (show v1331 395 2 = nI (a) from (by rw [e1332, fa_u_n _ _ (by omega)]; exact hat)) (show v1331 395 3 = fa_sg t nt a from by (exact hL)) (fun z => absurd z (by decide))) (fun i z2 z3 z4 z5 => by (show v1331 395 i = v 395 i; rw [e1332, fa_u_n _ _ (by omega)]))), (by rw [e1332]; exact fa_fr.u fa_fr.rf (by omega))⟩⟩)
  by_cases c_12_99 : v1331 395 3 = (99 : Int32)
  · refine lv_tableIn (off := 190) (tgt := 202) hx hb dX1_readOrder_12 (by rw [c_12_99]; decide) (by rw [c_12_99]; decide) (by rw [c_12_99]; decide) (by decide) ?_
    have hS99 : fa_sg t nt a = (99 : Int32) := hL.symm.trans c_12_99
    have hlt : a < nt := fa_sg_nz hS99 (by decide)
    refine lv_iconst (v := nI (0)) hx hb dX1_readOrder_202 (by decide) ?_
    exact RET _ _ _ _ _ _ _ HX1333 dX1_readOrder_203 (by decide) (⟨rfl, ⟨(fa_and3 (fa_oe (fa_ord_no (by rw [hS99]; decide) (by rw [hS99]; decide) (by rw [hS99]; decide) (by rw [hS99]; decide) (by rw [hS99]; decide) (by rw [hS99]; decide)) rfl ha (show v1331 395 2 = nI (a) from (by rw [e1332, fa_u_n _ _ (by omega)]; exact hat)) (show v1331 395 3 = fa_sg t nt a from by (exact hL)) (fun z => absurd z (by decide))) (fun i z2 z3 z4 z5 => by (show v1331 395 i = v 395 i; rw [e1332, fa_u_n _ _ (by omega)]))), (by rw [e1332]; exact fa_fr.u fa_fr.rf (by omega))⟩⟩)
  by_cases c_12_100 : v1331 395 3 = (100 : Int32)
  · refine lv_tableIn (off := 181) (tgt := 193) hx hb dX1_readOrder_12 (by rw [c_12_100]; decide) (by rw [c_12_100]; decide) (by rw [c_12_100]; decide) (by decide) ?_
    have hS100 : fa_sg t nt a = (100 : Int32) := hL.symm.trans c_12_100
    have hlt : a < nt := fa_sg_nz hS100 (by decide)
    refine lv_aload_n hx hb dX1_readOrder_193 rfl (lv_at hl 0 rfl) ?_
    refine lv_iconst (v := nI (1)) hx hb dX1_readOrder_194 (by decide) ?_
    refine lv_sipush (v := nI (400)) hx hb dX1_readOrder_195 (by decide) ?_
    refine fa_callViu (As := [.int (nI (1)), .int (nI (400))]) (rest := []) CX HX1333 (g_readFirst l G n hn v1331 r hA (by rw [e1332]; exact fa_IT.u hT (by decide)) nt t (fa_TX.rows hX ((congrFun (congrFun e1332 395) 1).trans ((fa_u_n _ _ (by decide)).trans rfl)) (((congrFun e1332 396).trans (fa_u_k _ _ (by decide))).trans rfl)) (a) (by omega) (by rw [e1332, fa_u_n _ _ (by omega)]; exact hat) (nI (1)) (nI (400)) ⟨1, by decide, rfl⟩ ⟨400, by decide, rfl⟩ hlt) ln_X1_38 (by omega) rfl rfl rfl rfl (Nat.le_of_ble_eq_true rfl) hl.1 ⟨Nat.le_of_ble_eq_true rfl, Nat.le_of_ble_eq_true rfl⟩ ⟨Nat.le_refl _, Nat.le_refl _⟩ dX1_readOrder_198 (fun x1339 v1340 H locs h1338 HX1341 => ?_)
    obtain ⟨hx_x1339, ⟨m_x1339, hm_x1339, hle_x1339, gm_x1339, he_x1339⟩, hs_x1339⟩ := h1338.1
    exact RET _ _ _ _ _ _ _ HX1341 dX1_readOrder_201 (fa_if_nar hx_x1339) (⟨rfl, ⟨(fa_and3 (fa_oe (fa_ord_d hS100) (fa_ite_b hx_x1339) (by rw [← hm_x1339]; exact hle_x1339) (by rw [← hm_x1339]; exact (show v1340 395 2 = nI (m_x1339) from gm_x1339)) (show v1340 395 3 = fa_sg t nt a from by (rw [hs_x1339 3 (by decide) (by decide)]; exact hL)) (fun _ => ⟨he_x1339, fun a1 a2 => by first | exact absurd hS100 a1 | exact absurd hS100 a2⟩)) (fun i z2 z3 z4 z5 => by (show v1340 395 i = v 395 i; rw [hs_x1339 i z2 z4, e1332, fa_u_n _ _ (by omega)]))), (fa_fr.tr (by rw [e1332]; exact fa_fr.u fa_fr.rf (by omega)) (fa_fr.wide h1338.2 (by omega) (by omega)))⟩⟩)
  by_cases c_12_101 : v1331 395 3 = (101 : Int32)
  · refine lv_tableIn (off := 190) (tgt := 202) hx hb dX1_readOrder_12 (by rw [c_12_101]; decide) (by rw [c_12_101]; decide) (by rw [c_12_101]; decide) (by decide) ?_
    have hS101 : fa_sg t nt a = (101 : Int32) := hL.symm.trans c_12_101
    have hlt : a < nt := fa_sg_nz hS101 (by decide)
    refine lv_iconst (v := nI (0)) hx hb dX1_readOrder_202 (by decide) ?_
    exact RET _ _ _ _ _ _ _ HX1333 dX1_readOrder_203 (by decide) (⟨rfl, ⟨(fa_and3 (fa_oe (fa_ord_no (by rw [hS101]; decide) (by rw [hS101]; decide) (by rw [hS101]; decide) (by rw [hS101]; decide) (by rw [hS101]; decide) (by rw [hS101]; decide)) rfl ha (show v1331 395 2 = nI (a) from (by rw [e1332, fa_u_n _ _ (by omega)]; exact hat)) (show v1331 395 3 = fa_sg t nt a from by (exact hL)) (fun z => absurd z (by decide))) (fun i z2 z3 z4 z5 => by (show v1331 395 i = v 395 i; rw [e1332, fa_u_n _ _ (by omega)]))), (by rw [e1332]; exact fa_fr.u fa_fr.rf (by omega))⟩⟩)
  by_cases c_12_102 : v1331 395 3 = (102 : Int32)
  · refine lv_tableIn (off := 153) (tgt := 165) hx hb dX1_readOrder_12 (by rw [c_12_102]; decide) (by rw [c_12_102]; decide) (by rw [c_12_102]; decide) (by decide) ?_
    have hS102 : fa_sg t nt a = (102 : Int32) := hL.symm.trans c_12_102
    have hlt : a < nt := fa_sg_nz hS102 (by decide)
    refine lv_aload_n hx hb dX1_readOrder_165 rfl (lv_at hl 0 rfl) ?_
    refine lv_iconst (v := nI (0)) hx hb dX1_readOrder_166 (by decide) ?_
    refine lv_sipush (v := nI (199)) hx hb dX1_readOrder_167 (by decide) ?_
    refine fa_callViu (As := [.int (nI (0)), .int (nI (199))]) (rest := []) CX HX1333 (g_readFirst l G n hn v1331 r hA (by rw [e1332]; exact fa_IT.u hT (by decide)) nt t (fa_TX.rows hX ((congrFun (congrFun e1332 395) 1).trans ((fa_u_n _ _ (by decide)).trans rfl)) (((congrFun e1332 396).trans (fa_u_k _ _ (by decide))).trans rfl)) (a) (by omega) (by rw [e1332, fa_u_n _ _ (by omega)]; exact hat) (nI (0)) (nI (199)) ⟨0, by decide, rfl⟩ ⟨199, by decide, rfl⟩ hlt) ln_X1_38 (by omega) rfl rfl rfl rfl (Nat.le_of_ble_eq_true rfl) hl.1 ⟨Nat.le_of_ble_eq_true rfl, Nat.le_of_ble_eq_true rfl⟩ ⟨Nat.le_refl _, Nat.le_refl _⟩ dX1_readOrder_170 (fun x1343 v1344 H locs h1342 HX1345 => ?_)
    obtain ⟨hx_x1343, ⟨m_x1343, hm_x1343, hle_x1343, gm_x1343, he_x1343⟩, hs_x1343⟩ := h1342.1
    refine lv_if_eq (tgt := 191) hx hb dX1_readOrder_173 (by decide) (fun c_173 => ?_) (fun c_173 => ?_)
    · refine lv_iconst (v := nI (0)) hx hb dX1_readOrder_191 (by decide) ?_
      exact RET _ _ _ _ _ _ _ HX1345 dX1_readOrder_192 (by decide) (⟨rfl, ⟨(fa_and3 (fa_oe ((fa_ord_f hS102).trans (fa_two_f (fa_ifn hx_x1343 c_173))) rfl (by rw [← hm_x1343]; exact hle_x1343) (by rw [← hm_x1343]; exact (show v1344 395 2 = nI (m_x1343) from gm_x1343)) (show v1344 395 3 = fa_sg t nt a from by (rw [hs_x1343 3 (by decide) (by decide)]; exact hL)) (fun z => absurd z (by decide))) (fun i z2 z3 z4 z5 => by (show v1344 395 i = v 395 i; rw [hs_x1343 i z2 z4, e1332, fa_u_n _ _ (by omega)]))), (fa_fr.tr (by rw [e1332]; exact fa_fr.u fa_fr.rf (by omega)) (fa_fr.wide h1342.2 (by omega) (by omega)))⟩⟩)
    · refine lv_aload_n hx hb dX1_readOrder_176 rfl (lv_at hl 0 rfl) ?_
      refine lv_iconst (v := nI (0)) hx hb dX1_readOrder_177 (by decide) ?_
      refine lv_sipush (v := nI (199)) hx hb dX1_readOrder_178 (by decide) ?_
      refine fa_callViu (As := [.int (nI (0)), .int (nI (199))]) (rest := []) CX HX1345 (g_readSecond l G n hn v1344 r hA (fa_IT.rows (by rw [e1332]; exact fa_IT.u hT (by decide)) (hs_x1343 1 (by decide) (by decide)) (h1342.2 396 (by decide))) nt t (fa_TX.rows hX ((hs_x1343 1 (by decide) (by decide)).trans ((congrFun (congrFun e1332 395) 1).trans ((fa_u_n _ _ (by decide)).trans rfl))) ((h1342.2 396 (by omega)).trans (((congrFun e1332 396).trans (fa_u_k _ _ (by decide))).trans rfl))) (m_x1343) (by omega) gm_x1343 (nI (0)) (nI (199)) ⟨0, by decide, rfl⟩ ⟨199, by decide, rfl⟩) ln_X1_42 (by omega) rfl rfl rfl rfl (Nat.le_of_ble_eq_true rfl) hl.1 ⟨Nat.le_of_ble_eq_true rfl, Nat.le_of_ble_eq_true rfl⟩ ⟨Nat.le_refl _, Nat.le_refl _⟩ dX1_readOrder_181 (fun x1347 v1348 H locs h1346 HX1349 => ?_)
      obtain ⟨hx_x1347, ⟨m_x1347, hm_x1347, hle_x1347, gm_x1347, he_x1347⟩, hs_x1347⟩ := h1346.1
      refine lv_if_eq (tgt := 191) hx hb dX1_readOrder_184 (by decide) (fun c_184 => ?_) (fun c_184 => ?_)
      · refine lv_iconst (v := nI (0)) hx hb dX1_readOrder_191 (by decide) ?_
        exact RET _ _ _ _ _ _ _ HX1349 dX1_readOrder_192 (by decide) (⟨rfl, ⟨(fa_and3 (fa_oe ((fa_ord_f hS102).trans (fa_two_t (fa_ift hx_x1343 c_173))) (by rw [← hm_x1343]; exact (fa_ite_f (fa_ifn hx_x1347 c_184))) (by rw [← hm_x1343, ← hm_x1347]; exact hle_x1347) (by rw [← hm_x1343, ← hm_x1347]; exact (show v1348 395 2 = nI (m_x1347) from gm_x1347)) (show v1348 395 3 = fa_sg t nt a from by (rw [hs_x1347 3 (by decide) (by decide), hs_x1343 3 (by decide) (by decide)]; exact hL)) (fun z => ⟨(hs_x1347 4 (by decide) (by decide)).trans he_x1343, fun _ _ => (by rw [← hm_x1343]; exact he_x1347 (by rw [hm_x1343]; exact of_decide_eq_true z))⟩)) (fun i z2 z3 z4 z5 => by (show v1348 395 i = v 395 i; rw [hs_x1347 i z2 z5, hs_x1343 i z2 z4, e1332, fa_u_n _ _ (by omega)]))), (fa_fr.tr (fa_fr.tr (by rw [e1332]; exact fa_fr.u fa_fr.rf (by omega)) (fa_fr.wide h1342.2 (by omega) (by omega))) (fa_fr.wide h1346.2 (by omega) (by omega)))⟩⟩)
      · refine lv_iconst (v := nI (1)) hx hb dX1_readOrder_187 (by decide) ?_
        refine lv_goto (tgt := 192) hx hb dX1_readOrder_188 (by decide) ?_
        exact RET _ _ _ _ _ _ _ HX1349 dX1_readOrder_192 (by decide) (⟨rfl, ⟨(fa_and3 (fa_oe ((fa_ord_f hS102).trans (fa_two_t (fa_ift hx_x1343 c_173))) (by rw [← hm_x1343]; exact (fa_ite_t (fa_ift hx_x1347 c_184))) (by rw [← hm_x1343, ← hm_x1347]; exact hle_x1347) (by rw [← hm_x1343, ← hm_x1347]; exact (show v1348 395 2 = nI (m_x1347) from gm_x1347)) (show v1348 395 3 = fa_sg t nt a from by (rw [hs_x1347 3 (by decide) (by decide), hs_x1343 3 (by decide) (by decide)]; exact hL)) (fun z => ⟨(hs_x1347 4 (by decide) (by decide)).trans he_x1343, fun _ _ => (by rw [← hm_x1343]; exact he_x1347 (by rw [hm_x1343]; exact of_decide_eq_true z))⟩)) (fun i z2 z3 z4 z5 => by (show v1348 395 i = v 395 i; rw [hs_x1347 i z2 z5, hs_x1343 i z2 z4, e1332, fa_u_n _ _ (by omega)]))), (fa_fr.tr (fa_fr.tr (by rw [e1332]; exact fa_fr.u fa_fr.rf (by omega)) (fa_fr.wide h1342.2 (by omega) (by omega))) (fa_fr.wide h1346.2 (by omega) (by omega)))⟩⟩)
  by_cases c_12_103 : v1331 395 3 = (103 : Int32)
  · refine lv_tableIn (off := 190) (tgt := 202) hx hb dX1_readOrder_12 (by rw [c_12_103]; decide) (by rw [c_12_103]; decide) (by rw [c_12_103]; decide) (by decide) ?_
    have hS103 : fa_sg t nt a = (103 : Int32) := hL.symm.trans c_12_103
    have hlt : a < nt := fa_sg_nz hS103 (by decide)
    refine lv_iconst (v := nI (0)) hx hb dX1_readOrder_202 (by decide) ?_
    exact RET _ _ _ _ _ _ _ HX1333 dX1_readOrder_203 (by decide) (⟨rfl, ⟨(fa_and3 (fa_oe (fa_ord_no (by rw [hS103]; decide) (by rw [hS103]; decide) (by rw [hS103]; decide) (by rw [hS103]; decide) (by rw [hS103]; decide) (by rw [hS103]; decide)) rfl ha (show v1331 395 2 = nI (a) from (by rw [e1332, fa_u_n _ _ (by omega)]; exact hat)) (show v1331 395 3 = fa_sg t nt a from by (exact hL)) (fun z => absurd z (by decide))) (fun i z2 z3 z4 z5 => by (show v1331 395 i = v 395 i; rw [e1332, fa_u_n _ _ (by omega)]))), (by rw [e1332]; exact fa_fr.u fa_fr.rf (by omega))⟩⟩)
  by_cases c_12_104 : v1331 395 3 = (104 : Int32)
  · refine lv_tableIn (off := 190) (tgt := 202) hx hb dX1_readOrder_12 (by rw [c_12_104]; decide) (by rw [c_12_104]; decide) (by rw [c_12_104]; decide) (by decide) ?_
    have hS104 : fa_sg t nt a = (104 : Int32) := hL.symm.trans c_12_104
    have hlt : a < nt := fa_sg_nz hS104 (by decide)
    refine lv_iconst (v := nI (0)) hx hb dX1_readOrder_202 (by decide) ?_
    exact RET _ _ _ _ _ _ _ HX1333 dX1_readOrder_203 (by decide) (⟨rfl, ⟨(fa_and3 (fa_oe (fa_ord_no (by rw [hS104]; decide) (by rw [hS104]; decide) (by rw [hS104]; decide) (by rw [hS104]; decide) (by rw [hS104]; decide) (by rw [hS104]; decide)) rfl ha (show v1331 395 2 = nI (a) from (by rw [e1332, fa_u_n _ _ (by omega)]; exact hat)) (show v1331 395 3 = fa_sg t nt a from by (exact hL)) (fun z => absurd z (by decide))) (fun i z2 z3 z4 z5 => by (show v1331 395 i = v 395 i; rw [e1332, fa_u_n _ _ (by omega)]))), (by rw [e1332]; exact fa_fr.u fa_fr.rf (by omega))⟩⟩)
  by_cases c_12_105 : v1331 395 3 = (105 : Int32)
  · refine lv_tableIn (off := 190) (tgt := 202) hx hb dX1_readOrder_12 (by rw [c_12_105]; decide) (by rw [c_12_105]; decide) (by rw [c_12_105]; decide) (by decide) ?_
    have hS105 : fa_sg t nt a = (105 : Int32) := hL.symm.trans c_12_105
    have hlt : a < nt := fa_sg_nz hS105 (by decide)
    refine lv_iconst (v := nI (0)) hx hb dX1_readOrder_202 (by decide) ?_
    exact RET _ _ _ _ _ _ _ HX1333 dX1_readOrder_203 (by decide) (⟨rfl, ⟨(fa_and3 (fa_oe (fa_ord_no (by rw [hS105]; decide) (by rw [hS105]; decide) (by rw [hS105]; decide) (by rw [hS105]; decide) (by rw [hS105]; decide) (by rw [hS105]; decide)) rfl ha (show v1331 395 2 = nI (a) from (by rw [e1332, fa_u_n _ _ (by omega)]; exact hat)) (show v1331 395 3 = fa_sg t nt a from by (exact hL)) (fun z => absurd z (by decide))) (fun i z2 z3 z4 z5 => by (show v1331 395 i = v 395 i; rw [e1332, fa_u_n _ _ (by omega)]))), (by rw [e1332]; exact fa_fr.u fa_fr.rf (by omega))⟩⟩)
  by_cases c_12_106 : v1331 395 3 = (106 : Int32)
  · refine lv_tableIn (off := 190) (tgt := 202) hx hb dX1_readOrder_12 (by rw [c_12_106]; decide) (by rw [c_12_106]; decide) (by rw [c_12_106]; decide) (by decide) ?_
    have hS106 : fa_sg t nt a = (106 : Int32) := hL.symm.trans c_12_106
    have hlt : a < nt := fa_sg_nz hS106 (by decide)
    refine lv_iconst (v := nI (0)) hx hb dX1_readOrder_202 (by decide) ?_
    exact RET _ _ _ _ _ _ _ HX1333 dX1_readOrder_203 (by decide) (⟨rfl, ⟨(fa_and3 (fa_oe (fa_ord_no (by rw [hS106]; decide) (by rw [hS106]; decide) (by rw [hS106]; decide) (by rw [hS106]; decide) (by rw [hS106]; decide) (by rw [hS106]; decide)) rfl ha (show v1331 395 2 = nI (a) from (by rw [e1332, fa_u_n _ _ (by omega)]; exact hat)) (show v1331 395 3 = fa_sg t nt a from by (exact hL)) (fun z => absurd z (by decide))) (fun i z2 z3 z4 z5 => by (show v1331 395 i = v 395 i; rw [e1332, fa_u_n _ _ (by omega)]))), (by rw [e1332]; exact fa_fr.u fa_fr.rf (by omega))⟩⟩)
  by_cases c_12_107 : v1331 395 3 = (107 : Int32)
  · refine lv_tableIn (off := 190) (tgt := 202) hx hb dX1_readOrder_12 (by rw [c_12_107]; decide) (by rw [c_12_107]; decide) (by rw [c_12_107]; decide) (by decide) ?_
    have hS107 : fa_sg t nt a = (107 : Int32) := hL.symm.trans c_12_107
    have hlt : a < nt := fa_sg_nz hS107 (by decide)
    refine lv_iconst (v := nI (0)) hx hb dX1_readOrder_202 (by decide) ?_
    exact RET _ _ _ _ _ _ _ HX1333 dX1_readOrder_203 (by decide) (⟨rfl, ⟨(fa_and3 (fa_oe (fa_ord_no (by rw [hS107]; decide) (by rw [hS107]; decide) (by rw [hS107]; decide) (by rw [hS107]; decide) (by rw [hS107]; decide) (by rw [hS107]; decide)) rfl ha (show v1331 395 2 = nI (a) from (by rw [e1332, fa_u_n _ _ (by omega)]; exact hat)) (show v1331 395 3 = fa_sg t nt a from by (exact hL)) (fun z => absurd z (by decide))) (fun i z2 z3 z4 z5 => by (show v1331 395 i = v 395 i; rw [e1332, fa_u_n _ _ (by omega)]))), (by rw [e1332]; exact fa_fr.u fa_fr.rf (by omega))⟩⟩)
  by_cases c_12_108 : v1331 395 3 = (108 : Int32)
  · refine lv_tableIn (off := 126) (tgt := 138) hx hb dX1_readOrder_12 (by rw [c_12_108]; decide) (by rw [c_12_108]; decide) (by rw [c_12_108]; decide) (by decide) ?_
    have hS108 : fa_sg t nt a = (108 : Int32) := hL.symm.trans c_12_108
    have hlt : a < nt := fa_sg_nz hS108 (by decide)
    refine lv_aload_n hx hb dX1_readOrder_138 rfl (lv_at hl 0 rfl) ?_
    refine lv_iconst (v := nI (0)) hx hb dX1_readOrder_139 (by decide) ?_
    refine lv_bipush (v := nI (7)) hx hb dX1_readOrder_140 (by decide) ?_
    refine fa_callViu (As := [.int (nI (0)), .int (nI (7))]) (rest := []) CX HX1333 (g_readFirst l G n hn v1331 r hA (by rw [e1332]; exact fa_IT.u hT (by decide)) nt t (fa_TX.rows hX ((congrFun (congrFun e1332 395) 1).trans ((fa_u_n _ _ (by decide)).trans rfl)) (((congrFun e1332 396).trans (fa_u_k _ _ (by decide))).trans rfl)) (a) (by omega) (by rw [e1332, fa_u_n _ _ (by omega)]; exact hat) (nI (0)) (nI (7)) ⟨0, by decide, rfl⟩ ⟨7, by decide, rfl⟩ hlt) ln_X1_38 (by omega) rfl rfl rfl rfl (Nat.le_of_ble_eq_true rfl) hl.1 ⟨Nat.le_of_ble_eq_true rfl, Nat.le_of_ble_eq_true rfl⟩ ⟨Nat.le_refl _, Nat.le_refl _⟩ dX1_readOrder_142 (fun x1351 v1352 H locs h1350 HX1353 => ?_)
    obtain ⟨hx_x1351, ⟨m_x1351, hm_x1351, hle_x1351, gm_x1351, he_x1351⟩, hs_x1351⟩ := h1350.1
    refine lv_if_eq (tgt := 163) hx hb dX1_readOrder_145 (by decide) (fun c_145 => ?_) (fun c_145 => ?_)
    · refine lv_iconst (v := nI (0)) hx hb dX1_readOrder_163 (by decide) ?_
      exact RET _ _ _ _ _ _ _ HX1353 dX1_readOrder_164 (by decide) (⟨rfl, ⟨(fa_and3 (fa_oe ((fa_ord_s (by first | exact Or.inl hS108 | exact Or.inr hS108)).trans (fa_two_f (fa_ifn hx_x1351 c_145))) rfl (by rw [← hm_x1351]; exact hle_x1351) (by rw [← hm_x1351]; exact (show v1352 395 2 = nI (m_x1351) from gm_x1351)) (show v1352 395 3 = fa_sg t nt a from by (rw [hs_x1351 3 (by decide) (by decide)]; exact hL)) (fun z => absurd z (by decide))) (fun i z2 z3 z4 z5 => by (show v1352 395 i = v 395 i; rw [hs_x1351 i z2 z4, e1332, fa_u_n _ _ (by omega)]))), (fa_fr.tr (by rw [e1332]; exact fa_fr.u fa_fr.rf (by omega)) (fa_fr.wide h1350.2 (by omega) (by omega)))⟩⟩)
    · refine lv_aload_n hx hb dX1_readOrder_148 rfl (lv_at hl 0 rfl) ?_
      refine lv_iconst (v := nI (0)) hx hb dX1_readOrder_149 (by decide) ?_
      refine lv_sipush (v := nI (199)) hx hb dX1_readOrder_150 (by decide) ?_
      refine fa_callViu (As := [.int (nI (0)), .int (nI (199))]) (rest := []) CX HX1353 (g_readSecond l G n hn v1352 r hA (fa_IT.rows (by rw [e1332]; exact fa_IT.u hT (by decide)) (hs_x1351 1 (by decide) (by decide)) (h1350.2 396 (by decide))) nt t (fa_TX.rows hX ((hs_x1351 1 (by decide) (by decide)).trans ((congrFun (congrFun e1332 395) 1).trans ((fa_u_n _ _ (by decide)).trans rfl))) ((h1350.2 396 (by omega)).trans (((congrFun e1332 396).trans (fa_u_k _ _ (by decide))).trans rfl))) (m_x1351) (by omega) gm_x1351 (nI (0)) (nI (199)) ⟨0, by decide, rfl⟩ ⟨199, by decide, rfl⟩) ln_X1_42 (by omega) rfl rfl rfl rfl (Nat.le_of_ble_eq_true rfl) hl.1 ⟨Nat.le_of_ble_eq_true rfl, Nat.le_of_ble_eq_true rfl⟩ ⟨Nat.le_refl _, Nat.le_refl _⟩ dX1_readOrder_153 (fun x1355 v1356 H locs h1354 HX1357 => ?_)
      obtain ⟨hx_x1355, ⟨m_x1355, hm_x1355, hle_x1355, gm_x1355, he_x1355⟩, hs_x1355⟩ := h1354.1
      refine lv_if_eq (tgt := 163) hx hb dX1_readOrder_156 (by decide) (fun c_156 => ?_) (fun c_156 => ?_)
      · refine lv_iconst (v := nI (0)) hx hb dX1_readOrder_163 (by decide) ?_
        exact RET _ _ _ _ _ _ _ HX1357 dX1_readOrder_164 (by decide) (⟨rfl, ⟨(fa_and3 (fa_oe ((fa_ord_s (by first | exact Or.inl hS108 | exact Or.inr hS108)).trans (fa_two_t (fa_ift hx_x1351 c_145))) (by rw [← hm_x1351]; exact (fa_ite_f (fa_ifn hx_x1355 c_156))) (by rw [← hm_x1351, ← hm_x1355]; exact hle_x1355) (by rw [← hm_x1351, ← hm_x1355]; exact (show v1356 395 2 = nI (m_x1355) from gm_x1355)) (show v1356 395 3 = fa_sg t nt a from by (rw [hs_x1355 3 (by decide) (by decide), hs_x1351 3 (by decide) (by decide)]; exact hL)) (fun z => ⟨(hs_x1355 4 (by decide) (by decide)).trans he_x1351, fun _ _ => (by rw [← hm_x1351]; exact he_x1355 (by rw [hm_x1351]; exact of_decide_eq_true z))⟩)) (fun i z2 z3 z4 z5 => by (show v1356 395 i = v 395 i; rw [hs_x1355 i z2 z5, hs_x1351 i z2 z4, e1332, fa_u_n _ _ (by omega)]))), (fa_fr.tr (fa_fr.tr (by rw [e1332]; exact fa_fr.u fa_fr.rf (by omega)) (fa_fr.wide h1350.2 (by omega) (by omega))) (fa_fr.wide h1354.2 (by omega) (by omega)))⟩⟩)
      · refine lv_iconst (v := nI (1)) hx hb dX1_readOrder_159 (by decide) ?_
        refine lv_goto (tgt := 164) hx hb dX1_readOrder_160 (by decide) ?_
        exact RET _ _ _ _ _ _ _ HX1357 dX1_readOrder_164 (by decide) (⟨rfl, ⟨(fa_and3 (fa_oe ((fa_ord_s (by first | exact Or.inl hS108 | exact Or.inr hS108)).trans (fa_two_t (fa_ift hx_x1351 c_145))) (by rw [← hm_x1351]; exact (fa_ite_t (fa_ift hx_x1355 c_156))) (by rw [← hm_x1351, ← hm_x1355]; exact hle_x1355) (by rw [← hm_x1351, ← hm_x1355]; exact (show v1356 395 2 = nI (m_x1355) from gm_x1355)) (show v1356 395 3 = fa_sg t nt a from by (rw [hs_x1355 3 (by decide) (by decide), hs_x1351 3 (by decide) (by decide)]; exact hL)) (fun z => ⟨(hs_x1355 4 (by decide) (by decide)).trans he_x1351, fun _ _ => (by rw [← hm_x1351]; exact he_x1355 (by rw [hm_x1351]; exact of_decide_eq_true z))⟩)) (fun i z2 z3 z4 z5 => by (show v1356 395 i = v 395 i; rw [hs_x1355 i z2 z5, hs_x1351 i z2 z4, e1332, fa_u_n _ _ (by omega)]))), (fa_fr.tr (fa_fr.tr (by rw [e1332]; exact fa_fr.u fa_fr.rf (by omega)) (fa_fr.wide h1350.2 (by omega) (by omega))) (fa_fr.wide h1354.2 (by omega) (by omega)))⟩⟩)
  by_cases c_12_109 : v1331 395 3 = (109 : Int32)
  · refine lv_tableIn (off := 190) (tgt := 202) hx hb dX1_readOrder_12 (by rw [c_12_109]; decide) (by rw [c_12_109]; decide) (by rw [c_12_109]; decide) (by decide) ?_
    have hS109 : fa_sg t nt a = (109 : Int32) := hL.symm.trans c_12_109
    have hlt : a < nt := fa_sg_nz hS109 (by decide)
    refine lv_iconst (v := nI (0)) hx hb dX1_readOrder_202 (by decide) ?_
    exact RET _ _ _ _ _ _ _ HX1333 dX1_readOrder_203 (by decide) (⟨rfl, ⟨(fa_and3 (fa_oe (fa_ord_no (by rw [hS109]; decide) (by rw [hS109]; decide) (by rw [hS109]; decide) (by rw [hS109]; decide) (by rw [hS109]; decide) (by rw [hS109]; decide)) rfl ha (show v1331 395 2 = nI (a) from (by rw [e1332, fa_u_n _ _ (by omega)]; exact hat)) (show v1331 395 3 = fa_sg t nt a from by (exact hL)) (fun z => absurd z (by decide))) (fun i z2 z3 z4 z5 => by (show v1331 395 i = v 395 i; rw [e1332, fa_u_n _ _ (by omega)]))), (by rw [e1332]; exact fa_fr.u fa_fr.rf (by omega))⟩⟩)
  by_cases c_12_110 : v1331 395 3 = (110 : Int32)
  · refine lv_tableIn (off := 92) (tgt := 104) hx hb dX1_readOrder_12 (by rw [c_12_110]; decide) (by rw [c_12_110]; decide) (by rw [c_12_110]; decide) (by decide) ?_
    have hS110 : fa_sg t nt a = (110 : Int32) := hL.symm.trans c_12_110
    have hlt : a < nt := fa_sg_nz hS110 (by decide)
    refine lv_aload_n hx hb dX1_readOrder_104 rfl (lv_at hl 0 rfl) ?_
    refine lv_iconst (v := nI (0)) hx hb dX1_readOrder_105 (by decide) ?_
    refine lv_iconst (v := nI (4)) hx hb dX1_readOrder_106 (by decide) ?_
    refine fa_callViu (As := [.int (nI (0)), .int (nI (4))]) (rest := []) CX HX1333 (g_readFirst l G n hn v1331 r hA (by rw [e1332]; exact fa_IT.u hT (by decide)) nt t (fa_TX.rows hX ((congrFun (congrFun e1332 395) 1).trans ((fa_u_n _ _ (by decide)).trans rfl)) (((congrFun e1332 396).trans (fa_u_k _ _ (by decide))).trans rfl)) (a) (by omega) (by rw [e1332, fa_u_n _ _ (by omega)]; exact hat) (nI (0)) (nI (4)) ⟨0, by decide, rfl⟩ ⟨4, by decide, rfl⟩ hlt) ln_X1_38 (by omega) rfl rfl rfl rfl (Nat.le_of_ble_eq_true rfl) hl.1 ⟨Nat.le_of_ble_eq_true rfl, Nat.le_of_ble_eq_true rfl⟩ ⟨Nat.le_refl _, Nat.le_refl _⟩ dX1_readOrder_107 (fun x1359 v1360 H locs h1358 HX1361 => ?_)
    obtain ⟨hx_x1359, ⟨m_x1359, hm_x1359, hle_x1359, gm_x1359, he_x1359⟩, hs_x1359⟩ := h1358.1
    refine lv_if_eq (tgt := 127) hx hb dX1_readOrder_110 (by decide) (fun c_110 => ?_) (fun c_110 => ?_)
    · refine lv_iconst (v := nI (0)) hx hb dX1_readOrder_127 (by decide) ?_
      exact RET _ _ _ _ _ _ _ HX1361 dX1_readOrder_128 (by decide) (⟨rfl, ⟨(fa_and3 (fa_oe ((fa_ord_n hS110).trans (fa_two_f (fa_ifn hx_x1359 c_110))) rfl (by rw [← hm_x1359]; exact hle_x1359) (by rw [← hm_x1359]; exact (show v1360 395 2 = nI (m_x1359) from gm_x1359)) (show v1360 395 3 = fa_sg t nt a from by (rw [hs_x1359 3 (by decide) (by decide)]; exact hL)) (fun z => absurd z (by decide))) (fun i z2 z3 z4 z5 => by (show v1360 395 i = v 395 i; rw [hs_x1359 i z2 z4, e1332, fa_u_n _ _ (by omega)]))), (fa_fr.tr (by rw [e1332]; exact fa_fr.u fa_fr.rf (by omega)) (fa_fr.wide h1358.2 (by omega) (by omega)))⟩⟩)
    · refine lv_aload_n hx hb dX1_readOrder_113 rfl (lv_at hl 0 rfl) ?_
      refine lv_iconst (v := nI (1)) hx hb dX1_readOrder_114 (by decide) ?_
      refine lv_bipush (v := nI (50)) hx hb dX1_readOrder_115 (by decide) ?_
      refine fa_callViu (As := [.int (nI (1)), .int (nI (50))]) (rest := []) CX HX1361 (g_readSecond l G n hn v1360 r hA (fa_IT.rows (by rw [e1332]; exact fa_IT.u hT (by decide)) (hs_x1359 1 (by decide) (by decide)) (h1358.2 396 (by decide))) nt t (fa_TX.rows hX ((hs_x1359 1 (by decide) (by decide)).trans ((congrFun (congrFun e1332 395) 1).trans ((fa_u_n _ _ (by decide)).trans rfl))) ((h1358.2 396 (by omega)).trans (((congrFun e1332 396).trans (fa_u_k _ _ (by decide))).trans rfl))) (m_x1359) (by omega) gm_x1359 (nI (1)) (nI (50)) ⟨1, by decide, rfl⟩ ⟨50, by decide, rfl⟩) ln_X1_42 (by omega) rfl rfl rfl rfl (Nat.le_of_ble_eq_true rfl) hl.1 ⟨Nat.le_of_ble_eq_true rfl, Nat.le_of_ble_eq_true rfl⟩ ⟨Nat.le_refl _, Nat.le_refl _⟩ dX1_readOrder_117 (fun x1363 v1364 H locs h1362 HX1365 => ?_)
      obtain ⟨hx_x1363, ⟨m_x1363, hm_x1363, hle_x1363, gm_x1363, he_x1363⟩, hs_x1363⟩ := h1362.1
      refine lv_if_eq (tgt := 127) hx hb dX1_readOrder_120 (by decide) (fun c_120 => ?_) (fun c_120 => ?_)
      · refine lv_iconst (v := nI (0)) hx hb dX1_readOrder_127 (by decide) ?_
        exact RET _ _ _ _ _ _ _ HX1365 dX1_readOrder_128 (by decide) (⟨rfl, ⟨(fa_and3 (fa_oe ((fa_ord_n hS110).trans (fa_two_t (fa_ift hx_x1359 c_110))) (by rw [← hm_x1359]; exact (fa_ite_f (fa_ifn hx_x1363 c_120))) (by rw [← hm_x1359, ← hm_x1363]; exact hle_x1363) (by rw [← hm_x1359, ← hm_x1363]; exact (show v1364 395 2 = nI (m_x1363) from gm_x1363)) (show v1364 395 3 = fa_sg t nt a from by (rw [hs_x1363 3 (by decide) (by decide), hs_x1359 3 (by decide) (by decide)]; exact hL)) (fun z => ⟨(hs_x1363 4 (by decide) (by decide)).trans he_x1359, fun _ _ => (by rw [← hm_x1359]; exact he_x1363 (by rw [hm_x1359]; exact of_decide_eq_true z))⟩)) (fun i z2 z3 z4 z5 => by (show v1364 395 i = v 395 i; rw [hs_x1363 i z2 z5, hs_x1359 i z2 z4, e1332, fa_u_n _ _ (by omega)]))), (fa_fr.tr (fa_fr.tr (by rw [e1332]; exact fa_fr.u fa_fr.rf (by omega)) (fa_fr.wide h1358.2 (by omega) (by omega))) (fa_fr.wide h1362.2 (by omega) (by omega)))⟩⟩)
      · refine lv_iconst (v := nI (1)) hx hb dX1_readOrder_123 (by decide) ?_
        refine lv_goto (tgt := 128) hx hb dX1_readOrder_124 (by decide) ?_
        exact RET _ _ _ _ _ _ _ HX1365 dX1_readOrder_128 (by decide) (⟨rfl, ⟨(fa_and3 (fa_oe ((fa_ord_n hS110).trans (fa_two_t (fa_ift hx_x1359 c_110))) (by rw [← hm_x1359]; exact (fa_ite_t (fa_ift hx_x1363 c_120))) (by rw [← hm_x1359, ← hm_x1363]; exact hle_x1363) (by rw [← hm_x1359, ← hm_x1363]; exact (show v1364 395 2 = nI (m_x1363) from gm_x1363)) (show v1364 395 3 = fa_sg t nt a from by (rw [hs_x1363 3 (by decide) (by decide), hs_x1359 3 (by decide) (by decide)]; exact hL)) (fun z => ⟨(hs_x1363 4 (by decide) (by decide)).trans he_x1359, fun _ _ => (by rw [← hm_x1359]; exact he_x1363 (by rw [hm_x1359]; exact of_decide_eq_true z))⟩)) (fun i z2 z3 z4 z5 => by (show v1364 395 i = v 395 i; rw [hs_x1363 i z2 z5, hs_x1359 i z2 z4, e1332, fa_u_n _ _ (by omega)]))), (fa_fr.tr (fa_fr.tr (by rw [e1332]; exact fa_fr.u fa_fr.rf (by omega)) (fa_fr.wide h1358.2 (by omega) (by omega))) (fa_fr.wide h1362.2 (by omega) (by omega)))⟩⟩)
  by_cases c_12_111 : v1331 395 3 = (111 : Int32)
  · refine lv_tableIn (off := 190) (tgt := 202) hx hb dX1_readOrder_12 (by rw [c_12_111]; decide) (by rw [c_12_111]; decide) (by rw [c_12_111]; decide) (by decide) ?_
    have hS111 : fa_sg t nt a = (111 : Int32) := hL.symm.trans c_12_111
    have hlt : a < nt := fa_sg_nz hS111 (by decide)
    refine lv_iconst (v := nI (0)) hx hb dX1_readOrder_202 (by decide) ?_
    exact RET _ _ _ _ _ _ _ HX1333 dX1_readOrder_203 (by decide) (⟨rfl, ⟨(fa_and3 (fa_oe (fa_ord_no (by rw [hS111]; decide) (by rw [hS111]; decide) (by rw [hS111]; decide) (by rw [hS111]; decide) (by rw [hS111]; decide) (by rw [hS111]; decide)) rfl ha (show v1331 395 2 = nI (a) from (by rw [e1332, fa_u_n _ _ (by omega)]; exact hat)) (show v1331 395 3 = fa_sg t nt a from by (exact hL)) (fun z => absurd z (by decide))) (fun i z2 z3 z4 z5 => by (show v1331 395 i = v 395 i; rw [e1332, fa_u_n _ _ (by omega)]))), (by rw [e1332]; exact fa_fr.u fa_fr.rf (by omega))⟩⟩)
  by_cases c_12_112 : v1331 395 3 = (112 : Int32)
  · refine lv_tableIn (off := 190) (tgt := 202) hx hb dX1_readOrder_12 (by rw [c_12_112]; decide) (by rw [c_12_112]; decide) (by rw [c_12_112]; decide) (by decide) ?_
    have hS112 : fa_sg t nt a = (112 : Int32) := hL.symm.trans c_12_112
    have hlt : a < nt := fa_sg_nz hS112 (by decide)
    refine lv_iconst (v := nI (0)) hx hb dX1_readOrder_202 (by decide) ?_
    exact RET _ _ _ _ _ _ _ HX1333 dX1_readOrder_203 (by decide) (⟨rfl, ⟨(fa_and3 (fa_oe (fa_ord_no (by rw [hS112]; decide) (by rw [hS112]; decide) (by rw [hS112]; decide) (by rw [hS112]; decide) (by rw [hS112]; decide) (by rw [hS112]; decide)) rfl ha (show v1331 395 2 = nI (a) from (by rw [e1332, fa_u_n _ _ (by omega)]; exact hat)) (show v1331 395 3 = fa_sg t nt a from by (exact hL)) (fun z => absurd z (by decide))) (fun i z2 z3 z4 z5 => by (show v1331 395 i = v 395 i; rw [e1332, fa_u_n _ _ (by omega)]))), (by rw [e1332]; exact fa_fr.u fa_fr.rf (by omega))⟩⟩)
  by_cases c_12_113 : v1331 395 3 = (113 : Int32)
  · refine lv_tableIn (off := 190) (tgt := 202) hx hb dX1_readOrder_12 (by rw [c_12_113]; decide) (by rw [c_12_113]; decide) (by rw [c_12_113]; decide) (by decide) ?_
    have hS113 : fa_sg t nt a = (113 : Int32) := hL.symm.trans c_12_113
    have hlt : a < nt := fa_sg_nz hS113 (by decide)
    refine lv_iconst (v := nI (0)) hx hb dX1_readOrder_202 (by decide) ?_
    exact RET _ _ _ _ _ _ _ HX1333 dX1_readOrder_203 (by decide) (⟨rfl, ⟨(fa_and3 (fa_oe (fa_ord_no (by rw [hS113]; decide) (by rw [hS113]; decide) (by rw [hS113]; decide) (by rw [hS113]; decide) (by rw [hS113]; decide) (by rw [hS113]; decide)) rfl ha (show v1331 395 2 = nI (a) from (by rw [e1332, fa_u_n _ _ (by omega)]; exact hat)) (show v1331 395 3 = fa_sg t nt a from by (exact hL)) (fun z => absurd z (by decide))) (fun i z2 z3 z4 z5 => by (show v1331 395 i = v 395 i; rw [e1332, fa_u_n _ _ (by omega)]))), (by rw [e1332]; exact fa_fr.u fa_fr.rf (by omega))⟩⟩)
  by_cases c_12_114 : v1331 395 3 = (114 : Int32)
  · refine lv_tableIn (off := 190) (tgt := 202) hx hb dX1_readOrder_12 (by rw [c_12_114]; decide) (by rw [c_12_114]; decide) (by rw [c_12_114]; decide) (by decide) ?_
    have hS114 : fa_sg t nt a = (114 : Int32) := hL.symm.trans c_12_114
    have hlt : a < nt := fa_sg_nz hS114 (by decide)
    refine lv_iconst (v := nI (0)) hx hb dX1_readOrder_202 (by decide) ?_
    exact RET _ _ _ _ _ _ _ HX1333 dX1_readOrder_203 (by decide) (⟨rfl, ⟨(fa_and3 (fa_oe (fa_ord_no (by rw [hS114]; decide) (by rw [hS114]; decide) (by rw [hS114]; decide) (by rw [hS114]; decide) (by rw [hS114]; decide) (by rw [hS114]; decide)) rfl ha (show v1331 395 2 = nI (a) from (by rw [e1332, fa_u_n _ _ (by omega)]; exact hat)) (show v1331 395 3 = fa_sg t nt a from by (exact hL)) (fun z => absurd z (by decide))) (fun i z2 z3 z4 z5 => by (show v1331 395 i = v 395 i; rw [e1332, fa_u_n _ _ (by omega)]))), (by rw [e1332]; exact fa_fr.u fa_fr.rf (by omega))⟩⟩)
  by_cases c_12_115 : v1331 395 3 = (115 : Int32)
  · refine lv_tableIn (off := 126) (tgt := 138) hx hb dX1_readOrder_12 (by rw [c_12_115]; decide) (by rw [c_12_115]; decide) (by rw [c_12_115]; decide) (by decide) ?_
    have hS115 : fa_sg t nt a = (115 : Int32) := hL.symm.trans c_12_115
    have hlt : a < nt := fa_sg_nz hS115 (by decide)
    refine lv_aload_n hx hb dX1_readOrder_138 rfl (lv_at hl 0 rfl) ?_
    refine lv_iconst (v := nI (0)) hx hb dX1_readOrder_139 (by decide) ?_
    refine lv_bipush (v := nI (7)) hx hb dX1_readOrder_140 (by decide) ?_
    refine fa_callViu (As := [.int (nI (0)), .int (nI (7))]) (rest := []) CX HX1333 (g_readFirst l G n hn v1331 r hA (by rw [e1332]; exact fa_IT.u hT (by decide)) nt t (fa_TX.rows hX ((congrFun (congrFun e1332 395) 1).trans ((fa_u_n _ _ (by decide)).trans rfl)) (((congrFun e1332 396).trans (fa_u_k _ _ (by decide))).trans rfl)) (a) (by omega) (by rw [e1332, fa_u_n _ _ (by omega)]; exact hat) (nI (0)) (nI (7)) ⟨0, by decide, rfl⟩ ⟨7, by decide, rfl⟩ hlt) ln_X1_38 (by omega) rfl rfl rfl rfl (Nat.le_of_ble_eq_true rfl) hl.1 ⟨Nat.le_of_ble_eq_true rfl, Nat.le_of_ble_eq_true rfl⟩ ⟨Nat.le_refl _, Nat.le_refl _⟩ dX1_readOrder_142 (fun x1367 v1368 H locs h1366 HX1369 => ?_)
    obtain ⟨hx_x1367, ⟨m_x1367, hm_x1367, hle_x1367, gm_x1367, he_x1367⟩, hs_x1367⟩ := h1366.1
    refine lv_if_eq (tgt := 163) hx hb dX1_readOrder_145 (by decide) (fun c_145 => ?_) (fun c_145 => ?_)
    · refine lv_iconst (v := nI (0)) hx hb dX1_readOrder_163 (by decide) ?_
      exact RET _ _ _ _ _ _ _ HX1369 dX1_readOrder_164 (by decide) (⟨rfl, ⟨(fa_and3 (fa_oe ((fa_ord_s (by first | exact Or.inl hS115 | exact Or.inr hS115)).trans (fa_two_f (fa_ifn hx_x1367 c_145))) rfl (by rw [← hm_x1367]; exact hle_x1367) (by rw [← hm_x1367]; exact (show v1368 395 2 = nI (m_x1367) from gm_x1367)) (show v1368 395 3 = fa_sg t nt a from by (rw [hs_x1367 3 (by decide) (by decide)]; exact hL)) (fun z => absurd z (by decide))) (fun i z2 z3 z4 z5 => by (show v1368 395 i = v 395 i; rw [hs_x1367 i z2 z4, e1332, fa_u_n _ _ (by omega)]))), (fa_fr.tr (by rw [e1332]; exact fa_fr.u fa_fr.rf (by omega)) (fa_fr.wide h1366.2 (by omega) (by omega)))⟩⟩)
    · refine lv_aload_n hx hb dX1_readOrder_148 rfl (lv_at hl 0 rfl) ?_
      refine lv_iconst (v := nI (0)) hx hb dX1_readOrder_149 (by decide) ?_
      refine lv_sipush (v := nI (199)) hx hb dX1_readOrder_150 (by decide) ?_
      refine fa_callViu (As := [.int (nI (0)), .int (nI (199))]) (rest := []) CX HX1369 (g_readSecond l G n hn v1368 r hA (fa_IT.rows (by rw [e1332]; exact fa_IT.u hT (by decide)) (hs_x1367 1 (by decide) (by decide)) (h1366.2 396 (by decide))) nt t (fa_TX.rows hX ((hs_x1367 1 (by decide) (by decide)).trans ((congrFun (congrFun e1332 395) 1).trans ((fa_u_n _ _ (by decide)).trans rfl))) ((h1366.2 396 (by omega)).trans (((congrFun e1332 396).trans (fa_u_k _ _ (by decide))).trans rfl))) (m_x1367) (by omega) gm_x1367 (nI (0)) (nI (199)) ⟨0, by decide, rfl⟩ ⟨199, by decide, rfl⟩) ln_X1_42 (by omega) rfl rfl rfl rfl (Nat.le_of_ble_eq_true rfl) hl.1 ⟨Nat.le_of_ble_eq_true rfl, Nat.le_of_ble_eq_true rfl⟩ ⟨Nat.le_refl _, Nat.le_refl _⟩ dX1_readOrder_153 (fun x1371 v1372 H locs h1370 HX1373 => ?_)
      obtain ⟨hx_x1371, ⟨m_x1371, hm_x1371, hle_x1371, gm_x1371, he_x1371⟩, hs_x1371⟩ := h1370.1
      refine lv_if_eq (tgt := 163) hx hb dX1_readOrder_156 (by decide) (fun c_156 => ?_) (fun c_156 => ?_)
      · refine lv_iconst (v := nI (0)) hx hb dX1_readOrder_163 (by decide) ?_
        exact RET _ _ _ _ _ _ _ HX1373 dX1_readOrder_164 (by decide) (⟨rfl, ⟨(fa_and3 (fa_oe ((fa_ord_s (by first | exact Or.inl hS115 | exact Or.inr hS115)).trans (fa_two_t (fa_ift hx_x1367 c_145))) (by rw [← hm_x1367]; exact (fa_ite_f (fa_ifn hx_x1371 c_156))) (by rw [← hm_x1367, ← hm_x1371]; exact hle_x1371) (by rw [← hm_x1367, ← hm_x1371]; exact (show v1372 395 2 = nI (m_x1371) from gm_x1371)) (show v1372 395 3 = fa_sg t nt a from by (rw [hs_x1371 3 (by decide) (by decide), hs_x1367 3 (by decide) (by decide)]; exact hL)) (fun z => ⟨(hs_x1371 4 (by decide) (by decide)).trans he_x1367, fun _ _ => (by rw [← hm_x1367]; exact he_x1371 (by rw [hm_x1367]; exact of_decide_eq_true z))⟩)) (fun i z2 z3 z4 z5 => by (show v1372 395 i = v 395 i; rw [hs_x1371 i z2 z5, hs_x1367 i z2 z4, e1332, fa_u_n _ _ (by omega)]))), (fa_fr.tr (fa_fr.tr (by rw [e1332]; exact fa_fr.u fa_fr.rf (by omega)) (fa_fr.wide h1366.2 (by omega) (by omega))) (fa_fr.wide h1370.2 (by omega) (by omega)))⟩⟩)
      · refine lv_iconst (v := nI (1)) hx hb dX1_readOrder_159 (by decide) ?_
        refine lv_goto (tgt := 164) hx hb dX1_readOrder_160 (by decide) ?_
        exact RET _ _ _ _ _ _ _ HX1373 dX1_readOrder_164 (by decide) (⟨rfl, ⟨(fa_and3 (fa_oe ((fa_ord_s (by first | exact Or.inl hS115 | exact Or.inr hS115)).trans (fa_two_t (fa_ift hx_x1367 c_145))) (by rw [← hm_x1367]; exact (fa_ite_t (fa_ift hx_x1371 c_156))) (by rw [← hm_x1367, ← hm_x1371]; exact hle_x1371) (by rw [← hm_x1367, ← hm_x1371]; exact (show v1372 395 2 = nI (m_x1371) from gm_x1371)) (show v1372 395 3 = fa_sg t nt a from by (rw [hs_x1371 3 (by decide) (by decide), hs_x1367 3 (by decide) (by decide)]; exact hL)) (fun z => ⟨(hs_x1371 4 (by decide) (by decide)).trans he_x1367, fun _ _ => (by rw [← hm_x1367]; exact he_x1371 (by rw [hm_x1367]; exact of_decide_eq_true z))⟩)) (fun i z2 z3 z4 z5 => by (show v1372 395 i = v 395 i; rw [hs_x1371 i z2 z5, hs_x1367 i z2 z4, e1332, fa_u_n _ _ (by omega)]))), (fa_fr.tr (fa_fr.tr (by rw [e1332]; exact fa_fr.u fa_fr.rf (by omega)) (fa_fr.wide h1366.2 (by omega) (by omega))) (fa_fr.wide h1370.2 (by omega) (by omega)))⟩⟩)
  have hout_12 : (v1331 395 3).toInt < 97 ∨ 115 < (v1331 395 3).toInt := by
    have z0 := lv_neT (a := 97) c_12_97 (by decide)
    have z1 := lv_neT (a := 98) c_12_98 (by decide)
    have z2 := lv_neT (a := 99) c_12_99 (by decide)
    have z3 := lv_neT (a := 100) c_12_100 (by decide)
    have z4 := lv_neT (a := 101) c_12_101 (by decide)
    have z5 := lv_neT (a := 102) c_12_102 (by decide)
    have z6 := lv_neT (a := 103) c_12_103 (by decide)
    have z7 := lv_neT (a := 104) c_12_104 (by decide)
    have z8 := lv_neT (a := 105) c_12_105 (by decide)
    have z9 := lv_neT (a := 106) c_12_106 (by decide)
    have z10 := lv_neT (a := 107) c_12_107 (by decide)
    have z11 := lv_neT (a := 108) c_12_108 (by decide)
    have z12 := lv_neT (a := 109) c_12_109 (by decide)
    have z13 := lv_neT (a := 110) c_12_110 (by decide)
    have z14 := lv_neT (a := 111) c_12_111 (by decide)
    have z15 := lv_neT (a := 112) c_12_112 (by decide)
    have z16 := lv_neT (a := 113) c_12_113 (by decide)
    have z17 := lv_neT (a := 114) c_12_114 (by decide)
    have z18 := lv_neT (a := 115) c_12_115 (by decide)
    omega
  refine lv_tableOut (tgt := 202) hx hb dX1_readOrder_12 hout_12 (by decide) ?_
  refine lv_iconst (v := nI (0)) hx hb dX1_readOrder_202 (by decide) ?_
  exact RET _ _ _ _ _ _ _ HX1333 dX1_readOrder_203 (by decide) (⟨rfl, ⟨(fa_and3 (fa_oe (fa_ord_no (fun z => c_12_110 (hL.trans z)) (fun z => c_12_97 (hL.trans z)) (fun z => c_12_115 (hL.trans z)) (fun z => c_12_108 (hL.trans z)) (fun z => c_12_102 (hL.trans z)) (fun z => c_12_100 (hL.trans z))) rfl ha (show v1331 395 2 = nI (a) from (by rw [e1332, fa_u_n _ _ (by omega)]; exact hat)) (show v1331 395 3 = fa_sg t nt a from by (exact hL)) (fun z => absurd z (by decide))) (fun i z2 z3 z4 z5 => by (show v1331 395 i = v 395 i; rw [e1332, fa_u_n _ _ (by omega)]))), (by rw [e1332]; exact fa_fr.u fa_fr.rf (by omega))⟩⟩)
set_option maxHeartbeats 4000000 in
set_option maxRecDepth 100000 in
theorem g_findFault (l : Launch) (G : fa_G) (n : Nat) (hn : 397 ≤ n) (v : fa_V) (r : fa_R) (hA : fa_RA r) (hT : fa_IT v) (nt : Nat) (t : Nat → Int32) (hX : fa_TX v nt t) : fa_MI l G n yX1_findFault cX1_findFault 2 (some .int) 6 [.ref (fa_B G + (395))] v r (fa_voi r (fun x v1 => ((∃ j, j ≤ 20 ∧ fa_FR (fa_sg t nt) nt j x) ∧ (∀ i, ¬ i = 2 → ¬ i = 3 → ¬ i = 4 → ¬ i = 5 → v1 395 i = v 395 i)) ∧ (fa_fr (395) (396) v v1))) := by
  refine fa_startI (by decide +kernel) (Nat.le_of_ble_eq_true rfl) (fun p e s m args below meth c ls Q CX hl HX RET => ?_)
  have hl : lv_has ls 2 [(0, .ref (fa_B G + (395)))] := hl
  have hx := CX.1.1
  have hb := CX.1.2.1
  have hnt := hX.1
  have hch := hT.2
  refine lv_aload_n hx hb dX1_findFault_0 rfl (lv_at hl 0 rfl) ?_
  refine lv_iconst (v := nI (0)) hx hb dX1_findFault_1 (by decide) ?_
  refine fa_puti (k := 395) CX HX fl_X1_19 (by omega) rfl rfl rfl rfl dX1_findFault_2 (fun H locs v1374 e1375 HX1376 => ?_)
  refine lv_iconst (v := nI (0)) hx hb dX1_findFault_5 (by decide) ?_
  refine lv_istore_n (lv' := [(1, .int (nI (0))), (0, .ref (fa_B G + (395)))]) hx hb dX1_findFault_6 rfl hl (by decide) rfl (fun ls hl => ?_)
  have LOOP_7 : ∀ (fu : Nat) (j : Nat) (mt : Nat) (v1377 : fa_V) (H : Heap) (locs : List Loc) (ls : Array Slot), 61 - j < fu → (j ≤ 61 ∧ (mt = fa_ps (fa_sg t nt) j ∧ fa_pre (fa_sg t nt) nt j) ∧ v1377 395 2 = nI mt ∧ (∀ i, ¬ i = 2 → ¬ i = 3 → ¬ i = 4 → ¬ i = 5 → v1377 395 i = v 395 i) ∧ fa_fr 395 396 v v1377) → lv_has ls 2 [(0, .ref (fa_B G + (395))), (1, .int (nI (j)))] → fa_HX G (n) v1377 r s H locs → W p l e (fa_rm 6) s m args below meth c H locs (0) (0) Q (F0 m 7 ls []) := by
    intro fu
    induction fu with
    | zero => intro j mt v1377 H locs ls hk; exact absurd hk (Nat.not_lt_zero _)
    | succ fu ih_7 =>
      intro j mt v1377 H locs ls hk_7 hi_7 hl HX1378
      have hps := fa_pre.ps hi_7.2.1.2
      rw [← hi_7.2.1.1] at hps
      refine lv_iload_n hx hb dX1_findFault_7 rfl (lv_at hl 1 rfl) ?_
      refine lv_bipush (v := nI (60)) hx hb dX1_findFault_8 (by decide) ?_
      refine lv_icmp_gt (tgt := 59) hx hb dX1_findFault_10 (by decide) (fun c_10 => ?_) (fun c_10 => ?_)
      · exact absurd hps.1 (fun z => by have := fa_ltN' (by decide) (by omega) c_10; omega)
      · have hj : j ≤ 60 := fa_nltN (by omega) (by omega) c_10
        refine lv_aload_n hx hb dX1_findFault_13 rfl (lv_at hl 0 rfl) ?_
        refine fa_callViu (As := []) (rest := []) CX HX1378 (g_readOrder l G n hn v1377 r hA (fa_IT.rows hT (hi_7.2.2.2.1 1 (by decide) (by decide) (by decide) (by decide)) (hi_7.2.2.2.2 396 (by decide))) nt t (fa_TX.rows hX (hi_7.2.2.2.1 1 (by decide) (by decide) (by decide) (by decide)) ((hi_7.2.2.2.2 396 (by omega)).trans rfl)) (mt) (by omega) hi_7.2.2.1) ln_X1_22 (by omega) rfl rfl rfl rfl (Nat.le_of_ble_eq_true rfl) hl.1 ⟨Nat.le_of_ble_eq_true rfl, Nat.le_of_ble_eq_true rfl⟩ ⟨Nat.le_refl _, Nat.le_refl _⟩ dX1_findFault_14 (fun x1380 v1381 H locs h1379 HX1382 => ?_)
        obtain ⟨hx_x1380, ⟨m_x1380, hm_x1380, hle_x1380, gm_x1380, he_x1380⟩, hs_x1380⟩ := h1379.1
        have hxo : x1380 = if (fa_oa (fa_sg t nt) j).1 = true then nI 1 else nI 0 := by rw [fa_oa, ← hi_7.2.1.1]; exact hx_x1380
        have hmo : m_x1380 = (fa_oa (fa_sg t nt) j).2.1 := by rw [fa_oa, ← hi_7.2.1.1]; exact hm_x1380
        have hmle := hle_x1380
        refine lv_if_ne (tgt := 25) hx hb dX1_findFault_17 (by decide) (fun c_17 => ?_) (fun c_17 => ?_)
        · have hok : (fa_oa (fa_sg t nt) j).1 = true := fa_ift hxo c_17
          refine lv_aload_n hx hb dX1_findFault_25 rfl (lv_at hl 0 rfl) ?_
          refine fa_geti (k := 395) CX HX1382 fl_X1_19 (by omega) rfl rfl dX1_findFault_26 ?_
          rw [show v1381 395 2 = nI (m_x1380) from gm_x1380]
          refine lv_aload_n hx hb dX1_findFault_29 rfl (lv_at hl 0 rfl) ?_
          refine fa_geti (k := 395) CX HX1382 fl_X1_15 (by omega) rfl rfl dX1_findFault_30 ?_
          rw [show v1381 395 1 = nI (nt) from ((hs_x1380 1 (by decide) (by decide) (by decide) (by decide)).trans ((hi_7.2.2.2.1 1 (by decide) (by decide) (by decide) (by decide)).trans hX.2.1))]
          refine lv_icmp_lt (tgt := 39) hx hb dX1_findFault_33 (by decide) (fun c_33 => ?_) (fun c_33 => ?_)
          · have hlt2 : (fa_oa (fa_sg t nt) j).2.1 < nt := by
              rw [← hmo]
              exact fa_ltN' (by omega) (by omega) c_33
            refine lv_aload_n hx hb dX1_findFault_39 rfl (lv_at hl 0 rfl) ?_
            refine lv_bipush (v := nI (59)) hx hb dX1_findFault_40 (by decide) ?_
            refine fa_callViu (As := [.int (nI (59))]) (rest := []) CX HX1382 (g_readSign l G n hn v1381 r hA (fa_IT.rows (fa_IT.rows hT (hi_7.2.2.2.1 1 (by decide) (by decide) (by decide) (by decide)) (hi_7.2.2.2.2 396 (by decide))) (hs_x1380 1 (by decide) (by decide) (by decide) (by decide)) (h1379.2 396 (by decide))) nt t (fa_TX.rows hX ((hs_x1380 1 (by decide) (by decide) (by decide) (by decide)).trans (hi_7.2.2.2.1 1 (by decide) (by decide) (by decide) (by decide))) ((h1379.2 396 (by omega)).trans ((hi_7.2.2.2.2 396 (by omega)).trans rfl))) (m_x1380) (by omega) gm_x1380 (nI (59)) (by decide)) ln_X1_26 (by omega) rfl rfl rfl rfl (Nat.le_of_ble_eq_true rfl) hl.1 ⟨Nat.le_of_ble_eq_true rfl, Nat.le_of_ble_eq_true rfl⟩ ⟨Nat.le_refl _, Nat.le_refl _⟩ dX1_findFault_42 (fun x1384 v1385 H locs h1383 HX1386 => ?_)
            obtain ⟨hx_x1384, ⟨m_x1384, hm_x1384, hle_x1384, gm_x1384⟩, hs_x1384⟩ := h1383.1
            have hxs := hx_x1384
            have hms := hm_x1384
            refine lv_if_ne (tgt := 53) hx hb dX1_findFault_45 (by decide) (fun c_45 => ?_) (fun c_45 => ?_)
            · have hsc := fa_ift hxs c_45
              have hm59 := hmo
              have hsc2 : fa_sg t nt (fa_oa (fa_sg t nt) j).2.1 = nI 59 := by
                rw [← hmo]
                exact hsc
              refine lv_iinc (v := nI (j + 1)) (lv' := [(1, .int (nI (j + 1))), (0, .ref (fa_B G + (395)))]) hx hb dX1_findFault_53 hl (k := 1) rfl (nI_add (j) 1) (by decide) rfl (fun ls hl => ?_)
              refine lv_goto (tgt := 7) hx hb dX1_findFault_56 (by decide) ?_
              exact ih_7 (j + 1) (m_x1384) v1385 _ _ _ (by omega) (⟨by omega, ⟨(by rw [hms, if_pos hsc, hm59]; rfl), hi_7.2.1.2.s hok hlt2 hsc2⟩, gm_x1384, (fun i z2 z3 z4 z5 => by (show v1385 395 i = v 395 i; rw [hs_x1384 i z2, hs_x1380 i z2 z3 z4 z5]; exact hi_7.2.2.2.1 i z2 z3 z4 z5)), (fa_fr.tr (fa_fr.tr (fa_fr.tr fa_fr.rf (fa_fr.wide hi_7.2.2.2.2 (by omega) (by omega))) (fa_fr.wide h1379.2 (by omega) (by omega))) (fa_fr.wide h1383.2 (by omega) (by omega)))⟩) (lv_sub hl [1, 0] rfl) HX1386
            · have hsc := fa_ifn hxs (by first | exact c_45 | exact Decidable.not_not.mp c_45)
              refine lv_aload_n hx hb dX1_findFault_48 rfl (lv_at hl 0 rfl) ?_
              refine fa_geti (k := 395) CX HX1386 fl_X1_19 (by omega) rfl rfl dX1_findFault_49 ?_
              rw [show v1385 395 2 = nI (m_x1384) from gm_x1384]
              exact RET _ _ _ _ _ _ _ HX1386 dX1_findFault_52 (⟨rfl, ⟨⟨⟨j, (by omega), hi_7.2.1.2, Or.inr (Or.inr ⟨hok, hlt2, (by rw [← hmo]; exact hsc), congrArg nI (by rw [hms, if_neg hsc]; exact hmo)⟩)⟩, (fun i z2 z3 z4 z5 => by (show v1385 395 i = v 395 i; rw [hs_x1384 i z2, hs_x1380 i z2 z3 z4 z5]; exact hi_7.2.2.2.1 i z2 z3 z4 z5))⟩, (fa_fr.tr (fa_fr.tr (fa_fr.tr fa_fr.rf (fa_fr.wide hi_7.2.2.2.2 (by omega) (by omega))) (fa_fr.wide h1379.2 (by omega) (by omega))) (fa_fr.wide h1383.2 (by omega) (by omega)))⟩⟩)
          · have hge2 : nt ≤ _ := Nat.le_of_not_lt (fun z => c_33 ((nI_ltI (by omega) (by omega)).mpr z))
            refine lv_bipush (v := (-6 : Int32)) hx hb dX1_findFault_36 (by decide) ?_
            exact RET _ _ _ _ _ _ _ HX1382 dX1_findFault_38 (⟨rfl, ⟨⟨⟨j, (by omega), hi_7.2.1.2, Or.inr (Or.inl ⟨hok, (by rw [← hmo]; exact hge2), rfl⟩)⟩, (fun i z2 z3 z4 z5 => by (show v1381 395 i = v 395 i; rw [hs_x1380 i z2 z3 z4 z5]; exact hi_7.2.2.2.1 i z2 z3 z4 z5))⟩, (fa_fr.tr (fa_fr.tr fa_fr.rf (fa_fr.wide hi_7.2.2.2.2 (by omega) (by omega))) (fa_fr.wide h1379.2 (by omega) (by omega)))⟩⟩)
        · have hok : (fa_oa (fa_sg t nt) j).1 = false := by
            have z := fa_ifn hxo (by first | exact c_17 | exact Decidable.not_not.mp c_17)
            exact Bool.eq_false_iff.mpr z
          refine lv_aload_n hx hb dX1_findFault_20 rfl (lv_at hl 0 rfl) ?_
          refine fa_geti (k := 395) CX HX1382 fl_X1_19 (by omega) rfl rfl dX1_findFault_21 ?_
          rw [show v1381 395 2 = nI (m_x1380) from gm_x1380]
          exact RET _ _ _ _ _ _ _ HX1382 dX1_findFault_24 (⟨rfl, ⟨⟨⟨j, (by omega), hi_7.2.1.2, Or.inl ⟨hok, congrArg nI hmo⟩⟩, (fun i z2 z3 z4 z5 => by (show v1381 395 i = v 395 i; rw [hs_x1380 i z2 z3 z4 z5]; exact hi_7.2.2.2.1 i z2 z3 z4 z5))⟩, (fa_fr.tr (fa_fr.tr fa_fr.rf (fa_fr.wide hi_7.2.2.2.2 (by omega) (by omega))) (fa_fr.wide h1379.2 (by omega) (by omega)))⟩⟩)
  exact LOOP_7 (61 - 0 + 1) (0) (0) v1374 _ _ _ (Nat.lt_succ_self _) (⟨Nat.zero_le _, ⟨rfl, fun k hk => absurd hk (Nat.not_lt_zero _)⟩, (by rw [e1375, fa_u_s]), (fun i z2 z3 z4 z5 => by (show v1374 395 i = v 395 i; rw [e1375, fa_u_n _ _ (by omega)])), (by rw [e1375]; exact fa_fr.u fa_fr.rf (by omega))⟩) (lv_sub hl [1, 0] rfl) HX1376
set_option maxHeartbeats 4000000 in
set_option maxRecDepth 100000 in
theorem g_appendSign (l : Launch) (G : fa_G) (n : Nat) (hn : 397 ≤ n) (v : fa_V) (r : fa_R) (hA : fa_RA r) (hT : fa_IT v) (a1 : Int32) : fa_MI l G n yX1_appendSign cX1_appendSign 2 (some .boolean) 1 [.ref (fa_B G + (395)), .int (a1)] v r (fa_voi r (fun x v1 => (fa_IT v1 ∧ ((x = nI 0 ∧ 60 ≤ fa_N (v 395 1) ∧ v1 = v) ∨ (x = nI 1 ∧ fa_N (v 395 1) < 60 ∧ v1 = fa_put v a1))) ∧ (fa_fr (395) (397) v v1))) := by
  refine fa_startZ (by decide +kernel) (Nat.le_of_ble_eq_true rfl) (fun p e s m args below meth c ls Q CX hl HX RET => ?_)
  have hl : lv_has ls 2 [(0, .ref (fa_B G + (395))), (1, .int (a1))] := hl
  have hx := CX.1.1
  have hb := CX.1.2.1
  obtain ⟨⟨nt, hnt, ht⟩, hch⟩ := id hT
  have en : fa_N (v 395 1) = nt := by rw [ht]; exact fa_N_nI (by omega)
  rw [en] at RET
  refine lv_aload_n hx hb dX1_appendSign_0 rfl (lv_at hl 0 rfl) ?_
  refine fa_geti (k := 395) CX HX fl_X1_15 (by omega) rfl rfl dX1_appendSign_1 ?_
  rw [show v 395 1 = nI (nt) from ht]
  refine lv_bipush (v := nI (60)) hx hb dX1_appendSign_4 (by decide) ?_
  refine lv_icmp_lt (tgt := 11) hx hb dX1_appendSign_6 (by decide) (fun c_6 => ?_) (fun c_6 => ?_)
  · have hn60 : nt < 60 := fa_ltN' (by omega) (by omega) c_6
    refine lv_aload_n hx hb dX1_appendSign_11 rfl (lv_at hl 0 rfl) ?_
    refine fa_getr (k := 395) (j := 396) CX HX fl_X1_9 (by omega) rfl rfl hA.2.2.2.2.2 dX1_appendSign_12 ?_
    refine lv_aload_n hx hb dX1_appendSign_15 rfl (lv_at hl 0 rfl) ?_
    refine fa_geti (k := 395) CX HX fl_X1_15 (by omega) rfl rfl dX1_appendSign_16 ?_
    rw [show v 395 1 = nI (nt) from ht]
    refine lv_iload_n hx hb dX1_appendSign_19 rfl (lv_at hl 1 rfl) ?_
    refine fa_cast (k := 396) (j := nt) CX HX (by omega) rfl (by omega) (by first | decide | assumption) dX1_appendSign_20 (fun H locs v1387 e1388 HX1389 => ?_)
    refine lv_aload_n hx hb dX1_appendSign_21 rfl (lv_at hl 0 rfl) ?_
    refine lv_dup hx hb dX1_appendSign_22 rfl ?_
    refine fa_geti (k := 395) CX HX1389 fl_X1_15 (by omega) rfl rfl dX1_appendSign_23 ?_
    rw [show v1387 395 1 = nI (nt) from (by rw [e1388, fa_u_n _ _ (by omega)]; exact ht)]
    refine lv_iconst (v := nI (1)) hx hb dX1_appendSign_26 (by decide) ?_
    refine fa_iaddN hx hb dX1_appendSign_27 ?_
    refine fa_puti (k := 395) CX HX1389 fl_X1_15 (by omega) rfl rfl rfl rfl dX1_appendSign_28 (fun H locs v1390 e1391 HX1392 => ?_)
    refine lv_iconst (v := nI (1)) hx hb dX1_appendSign_31 (by decide) ?_
    exact RET _ _ _ _ _ _ _ HX1392 dX1_appendSign_32 (by decide) (⟨rfl, ⟨⟨(by show fa_IT v1390; rw [e1391]; exact fa_IT.len (by rw [e1388]; exact fa_IT.put hT) (by omega)), Or.inr ⟨rfl, hn60, (by show v1390 = _; rw [e1391, e1388]; exact (fa_put_eq ht (by omega)).symm)⟩⟩, (by rw [e1391]; exact fa_fr.u (by rw [e1388]; exact fa_fr.u fa_fr.rf (by omega)) (by omega))⟩⟩)
  · refine lv_iconst (v := nI (0)) hx hb dX1_appendSign_9 (by decide) ?_
    exact RET _ _ _ _ _ _ _ HX dX1_appendSign_10 (by decide) (⟨rfl, ⟨⟨hT, Or.inl ⟨rfl, fa_leN (by omega) (by omega) (Int32.not_lt.mp c_6), rfl⟩⟩, fa_fr.rf⟩⟩)
/-! THE WHOLE ARCHIVE, safe -/
/-- the States of the history -/
def fa_hb : List Nat := [115, 171, 227, 283, 339]
theorem fa_hb_bs : ∀ b ∈ fa_hb, b ∈ fa_bs := by decide
theorem fa_hb_lo : ∀ b ∈ fa_hb, 115 ≤ b ∧ b + 56 ≤ 395 := by decide
theorem fa_bs_in : ∀ b ∈ fa_bs, 1 ≤ b ∧ b + 56 ≤ 395 ∧ (b + 56 ≤ 113 ∨ 115 ≤ b) := by decide
theorem fa_bs_d : ∀ b ∈ fa_bs, ∀ b2 ∈ fa_bs, b = b2 ∨ b + 56 ≤ b2 ∨ b2 + 56 ≤ b := by decide
def fa_CI (v : fa_V) (r : fa_R) : Prop := fa_RA r ∧ (∀ b ∈ fa_bs, fa_RS r b ∧ fa_IS v b) ∧ (∀ i, i < 5 → ∃ b, b ∈ fa_hb ∧ r 114 i = some b) ∧ (∀ i j, i < 5 → j < 5 → r 114 i = r 114 j → i = j) ∧ (∃ n, n ≤ 4 ∧ v 113 0 = nI n) ∧ fa_IT v
theorem fa_CI.A {v : fa_V} {r : fa_R} (h : fa_CI v r) : fa_RA r := h.1
theorem fa_CI.S {v : fa_V} {r : fa_R} (h : fa_CI v r) : ∀ b ∈ fa_bs, fa_RS r b ∧ fa_IS v b := h.2.1
theorem fa_CI.H {v : fa_V} {r : fa_R} (h : fa_CI v r) : ∀ i, i < 5 → ∃ b, b ∈ fa_hb ∧ r 114 i = some b := h.2.2.1
theorem fa_CI.J {v : fa_V} {r : fa_R} (h : fa_CI v r) : ∀ i j, i < 5 → j < 5 → r 114 i = r 114 j → i = j := h.2.2.2.1
theorem fa_CI.N {v : fa_V} {r : fa_R} (h : fa_CI v r) : ∃ n, n ≤ 4 ∧ v 113 0 = nI n := h.2.2.2.2.1
theorem fa_CI.T {v : fa_V} {r : fa_R} (h : fa_CI v r) : fa_IT v := h.2.2.2.2.2
theorem fa_RA_cong2 {r r1 : fa_R} (h0 : r1 0 = r 0) (h1 : r1 113 = r 113) (h2 : r1 395 = r 395) (h : fa_RA r) : fa_RA r1 := by
  unfold fa_RA
  rw [h0, h1, h2]
  exact h
theorem fa_RS_cong2 {b : Nat} {r r1 : fa_R} (h : ∀ q, b ≤ q → q < b + 56 → r1 q = r q) (hr : fa_RS r b) : fa_RS r1 b := by
  obtain ⟨h1, h2, h3, h4, h5, h6, h7, h8, h9⟩ := hr
  refine ⟨?_, ?_, ?_, ?_, ?_, ?_, ?_, fun k hk => ?_, fun j hj => ?_⟩
  · rw [h b (by omega) (by omega)]; exact h1
  · rw [h b (by omega) (by omega)]; exact h2
  · rw [h b (by omega) (by omega)]; exact h3
  · rw [h b (by omega) (by omega)]; exact h4
  · rw [h (b + 2) (by omega) (by omega)]; exact h5
  · rw [h (b + 2) (by omega) (by omega)]; exact h6
  · rw [h (b + 5) (by omega) (by omega)]; exact h7
  · rw [h (b + 1) (by omega) (by omega)]; exact h8 k hk
  · rw [h (b + 8 + 2 * j) (by omega) (by omega)]; exact h9 j hj
theorem fa_CI.st {v v1 : fa_V} {r r1 : fa_R} {b : Nat} (h : fa_CI v r) (hb : b ∈ fa_bs) (hS : fa_IS v1 b) (hR : fa_RS r1 b) (hf : fa_fr b (b + 56) v v1) (hr : ∀ k, ¬ k = b + 1 → r1 k = r k) : fa_CI v1 r1 := by
  have hi := fa_bs_in b hb
  refine ⟨fa_RA_cong2 (hr 0 (by omega)) (hr 113 (by omega)) (hr 395 (by omega)) h.A, fun b2 hb2 => ?_, ?_, ?_, ?_, ?_⟩
  · rcases fa_bs_d b hb b2 hb2 with e | e
    · rw [← e]; exact ⟨hR, hS⟩
    · exact ⟨fa_RS_cong2 (fun q h1 h2 => hr q (by omega)) (h.S b2 hb2).1, fa_IS.congr (fun q h1 h2 => hf q (by omega)) (h.S b2 hb2).2⟩
  · rw [hr 114 (by omega)]; exact h.H
  · rw [hr 114 (by omega)]; exact h.J
  · rw [hf 113 (by omega)]; exact h.N
  · exact h.T.rows (by rw [hf 395 (by omega)]) (by rw [hf 396 (by omega)])
theorem fa_CI.tx {v v1 : fa_V} {r : fa_R} (h : fa_CI v r) (hT : fa_IT v1) (hf : fa_fr 395 397 v v1) : fa_CI v1 r := by
  refine ⟨h.A, fun b hb => ⟨(h.S b hb).1, fa_IS.congr (fun q h1 h2 => hf q (by have := fa_bs_in b hb; omega)) (h.S b hb).2⟩, h.H, h.J, ?_, hT⟩
  rw [hf 113 (by omega)]; exact h.N
/-- rows of no State, no text, and not the history -/
theorem fa_CI.congr {v v1 : fa_V} {r r1 : fa_R} (h : fa_CI v r) (hv : ∀ k, 1 ≤ k → k < 397 → v1 k = v k) (hr : ∀ k, k < 397 → r1 k = r k) : fa_CI v1 r1 := by
  refine ⟨fa_RA_cong2 (hr 0 (by omega)) (hr 113 (by omega)) (hr 395 (by omega)) h.A, fun b hb => ?_, ?_, ?_, ?_, ?_⟩
  · have hi := fa_bs_in b hb
    exact ⟨fa_RS_cong2 (fun q h1 h2 => hr q (by omega)) (h.S b hb).1, fa_IS.congr (fun q h1 h2 => hv q (by omega) (by omega)) (h.S b hb).2⟩
  · rw [hr 114 (by omega)]; exact h.H
  · rw [hr 114 (by omega)]; exact h.J
  · rw [hv 113 (by omega) (by omega)]; exact h.N
  · exact h.T.rows (by rw [hv 395 (by omega) (by omega)]) (by rw [hv 396 (by omega) (by omega)])
theorem fa_CI.u0 {v : fa_V} {r : fa_R} {i : Nat} {x : Int32} (h : fa_CI v r) : fa_CI (fa_u v 0 i x) r :=
  h.congr (fun k h1 _ => fa_u_k _ _ (by omega)) (fun _ _ => rfl)
theorem fa_CI.u113 {v : fa_V} {r : fa_R} {m : Nat} (h : fa_CI v r) (hm : m ≤ 4) : fa_CI (fa_u v 113 0 (nI m)) r := by
  refine ⟨h.A, fun b hb => ⟨(h.S b hb).1, fa_IS.congr (fun q h1 h2 => fa_u_k _ _ (by have := fa_bs_in b hb; omega)) (h.S b hb).2⟩, h.H, h.J, ⟨m, hm, fa_u_s _ _ _ _⟩, ?_⟩
  exact h.T.rows (by rw [fa_u_k _ _ (by decide)]) (by rw [fa_u_k _ _ (by decide)])
theorem fa_CI.u395 {v : fa_V} {r : fa_R} {i : Nat} {x : Int32} (h : fa_CI v r) (hi : ¬ i = 1) : fa_CI (fa_u v 395 i x) r :=
  h.tx (h.T.u hi) (fun k hk => fa_u_k _ _ (by omega))
theorem fa_CI.len {v : fa_V} {r : fa_R} {m : Nat} (h : fa_CI v r) (hm : m ≤ 60) : fa_CI (fa_u v 395 1 (nI m)) r :=
  h.tx (h.T.len hm) (fun k hk => fa_u_k _ _ (by omega))
/-- the history's row goes round -/
theorem fa_CI.rot {v : fa_V} {r r1 : fa_R} (h : fa_CI v r) (h1 : ∀ i, i < 4 → r1 114 i = r 114 (i + 1)) (h2 : r1 114 4 = r 114 0) (hr : ∀ k, ¬ k = 114 → r1 k = r k) : fa_CI v r1 := by
  have key : ∀ i, i < 5 → ∃ q, q < 5 ∧ r1 114 i = r 114 q ∧ (q = if i = 4 then 0 else i + 1) := fun i hi => by
    by_cases z : i = 4
    · exact ⟨0, by decide, by rw [z]; exact h2, by rw [if_pos z]⟩
    · exact ⟨i + 1, by omega, h1 i (by omega), by rw [if_neg z]⟩
  refine ⟨fa_RA_cong2 (hr 0 (by omega)) (hr 113 (by omega)) (hr 395 (by omega)) h.A, fun b hb => ?_, fun i hi => ?_, fun i j hi hj e => ?_, h.N, h.T⟩
  · have hi := fa_bs_in b hb
    exact ⟨fa_RS_cong2 (fun q h1 h2 => hr q (by omega)) (h.S b hb).1, (h.S b hb).2⟩
  · obtain ⟨q, hq, e, -⟩ := key i hi
    rw [e]
    exact h.H q hq
  · obtain ⟨q, hq, e1, f1⟩ := key i hi
    obtain ⟨q2, hq2, e2, f2⟩ := key j hj
    rw [e1, e2] at e
    have := h.J q q2 hq hq2 e
    split at f1 <;> split at f2 <;> omega
theorem fa_err1 {x a : Int32} (h : x = if 0 ≤ a ∨ a = (-6 : Int32) then nI 0 else nI 1) (c : ¬ x = 0) : ¬ (0 ≤ a ∨ a = (-6 : Int32)) := fun z => by
  rw [if_pos z] at h
  exact c h
theorem fa_err0 {x a : Int32} (h : x = if 0 ≤ a ∨ a = (-6 : Int32) then nI 0 else nI 1) (c : x = 0) : 0 ≤ a ∨ a = (-6 : Int32) := by
  by_cases z : 0 ≤ a ∨ a = (-6 : Int32)
  · exact z
  · rw [if_neg z] at h
    rw [h] at c
    exact absurd c (by decide)
theorem fa_ap_0 {x : Int32} {v v1 : fa_V} {k : Nat} {a : Int32} {B : Prop} (h : (x = nI 0 ∧ 60 ≤ k ∧ v1 = v) ∨ (x = nI 1 ∧ k < 60 ∧ v1 = fa_put v a)) (c : x = 0) : ((-4 : Int32) = (-4 : Int32) ∧ 60 ≤ k ∧ v1 = v) ∨ B := by
  rcases h with h | h
  · exact Or.inl ⟨rfl, h.2⟩
  · rw [h.1] at c
    exact absurd c (by decide)
theorem fa_ap_1 {x : Int32} {v v1 : fa_V} {a : Int32} {B : Prop} (h : (x = nI 0 ∧ 60 ≤ fa_N (v 395 1) ∧ v1 = v) ∨ (x = nI 1 ∧ fa_N (v 395 1) < 60 ∧ v1 = fa_put v a)) (c : ¬ x = 0) : B ∨ (v1 395 1 = nI (fa_N (v 395 1) + 1) ∧ fa_N (v 395 1) < 60 ∧ v1 = fa_put v a) := by
  rcases h with h | h
  · exact absurd h.1 c
  · exact Or.inr ⟨by rw [h.2.2]; exact fa_u_s _ _ _ _, h.2⟩
/-! FLOATS: a whole number over a count is no NaN -/
def fa_fgood (p : Nat) (q0 : Int) : FP.Core.Datum → Prop
  | .nan => False
  | .inf _ => True
  | .fin _ c q => c < 2 ^ p ∧ q ≤ q0
def fa_pos : FP.Core.Datum → Bool
  | .fin _ c _ => c != 0
  | _ => false
theorem fa_bound_good {f : FP.Core.Fmt} {s : Bool} {c : Nat} {q : Int} (h : c < 2 ^ f.p) : fa_fgood f.p f.qmax (FP.Core.bound f s c q) := by
  unfold FP.Core.bound
  split
  · rename_i h2
    exact ⟨h, h2⟩
  · exact True.intro
theorem fa_ratio_good {f : FP.Core.Fmt} (hp : f.tails < 2 ^ f.p) (hq : f.qmin ≤ f.qmax) (s : Bool) (a b : Nat) (e : Int) : fa_fgood f.p f.qmax (FP.Core.roundRatio f s a b e) := by
  unfold FP.Core.roundRatio
  split
  · exact ⟨Nat.two_pow_pos _, hq⟩
  · unfold FP.Core.roundAt FP.Core.settle
    split
    · rename_i h
      exact fa_bound_good h
    · exact fa_bound_good hp
theorem fa_enc32 {d : FP.Core.Datum} (h : fa_fgood 24 104 d) : FP.Core.encode FP.Core.b32 d < 4294967296 ∧ FP.Core.encode FP.Core.b32 d % 2147483648 ≤ 2139095040 := by
  cases d with
  | nan => exact h.elim
  | inf s => cases s <;> decide
  | fin s c q =>
    obtain ⟨h1, h2⟩ := h
    have h1 : c < 16777216 := h1
    show (if c < 8388608 then (s.toNat * 256 + 0) * 8388608 + c else (s.toNat * 256 + ((q - (-149)).toNat + 1)) * 8388608 + (c - 8388608)) < 4294967296 ∧ (if c < 8388608 then (s.toNat * 256 + 0) * 8388608 + c else (s.toNat * 256 + ((q - (-149)).toNat + 1)) * 8388608 + (c - 8388608)) % 2147483648 ≤ 2139095040
    have hs : s.toNat ≤ 1 := by cases s <;> decide
    split <;> omega
theorem fa_enc64 {d : FP.Core.Datum} (h : fa_fgood 53 971 d) : FP.Core.encode FP.Core.b64 d < 18446744073709551616 ∧ FP.Core.encode FP.Core.b64 d % 9223372036854775808 ≤ 9218868437227405312 := by
  cases d with
  | nan => exact h.elim
  | inf s => cases s <;> decide
  | fin s c q =>
    obtain ⟨h1, h2⟩ := h
    have h1 : c < 9007199254740992 := h1
    show (if c < 4503599627370496 then (s.toNat * 2048 + 0) * 4503599627370496 + c else (s.toNat * 2048 + ((q - (-1074)).toNat + 1)) * 4503599627370496 + (c - 4503599627370496)) < 18446744073709551616 ∧ (if c < 4503599627370496 then (s.toNat * 2048 + 0) * 4503599627370496 + c else (s.toNat * 2048 + ((q - (-1074)).toNat + 1)) * 4503599627370496 + (c - 4503599627370496)) % 9223372036854775808 ≤ 9218868437227405312
    have hs : s.toNat ≤ 1 := by cases s <;> decide
    split <;> omega
theorem fa_dec32 {n : Nat} (h : n % 2147483648 ≤ 2139095040) : ¬ FP.Core.decode FP.Core.b32 n = .nan := by
  show ¬ (if n / 8388608 % 256 = 255 then (if n % 8388608 = 0 then FP.Core.Datum.inf (FP.Core.fieldS FP.Core.b32 n) else .nan) else if n / 8388608 % 256 = 0 then .fin (FP.Core.fieldS FP.Core.b32 n) (n % 8388608) (FP.Core.b32.qmin) else .fin (FP.Core.fieldS FP.Core.b32 n) (8388608 + n % 8388608) (FP.Core.b32.qmin + ((n / 8388608 % 256 : Nat) - 1))) = _
  split
  · split
    · intro z; cases z
    · omega
  · split <;> (intro z; cases z)
theorem fa_quot_good {x y : FP.Core.Datum} (hx : ¬ x = .nan) (hy : fa_pos y = true) : fa_fgood 24 104 (FP.Core.quotient FP.Core.b32 x y) := by
  cases y with
  | nan => cases hy
  | inf s => cases hy
  | fin t d r =>
    cases x with
    | nan => exact absurd rfl hx
    | inf s => exact True.intro
    | fin s c q =>
      have hd : ¬ d = 0 := fun z => by rw [z] at hy; cases hy
      show fa_fgood 24 104 (if d = 0 then _ else _)
      rw [if_neg hd]
      exact fa_ratio_good (f := FP.Core.b32) (by decide) (by decide) _ _ _ _
theorem fa_u32 {n : Nat} (h1 : n < 4294967296) (h2 : n % 2147483648 ≤ 2139095040) : vf_n32 (UInt32.ofNat n) ∧ (UInt32.ofNat n).toNat = n := by
  have e : (UInt32.ofNat n).toNat = n := by
    show n % 4294967296 = n
    omega
  refine ⟨?_, e⟩
  unfold vf_n32
  show ((UInt32.ofNat n) &&& 0x7fffffff).toNat ≤ _
  rw [UInt32.toNat_and, e]
  show n &&& 2 ^ 31 - 1 ≤ _
  rw [Nat.and_two_pow_sub_one_eq_mod]
  exact h2
theorem fa_u64 {n : Nat} (h1 : n < 18446744073709551616) (h2 : n % 9223372036854775808 ≤ 9218868437227405312) : vf_n64 (UInt64.ofNat n) := by
  have e : (UInt64.ofNat n).toNat = n := by
    show n % 18446744073709551616 = n
    omega
  unfold vf_n64
  show ((UInt64.ofNat n) &&& 0x7fffffffffffffff).toNat ≤ _
  rw [UInt64.toNat_and, e]
  show n &&& 2 ^ 63 - 1 ≤ _
  rw [Nat.and_two_pow_sub_one_eq_mod]
  exact h2
theorem fa_i2f_ok (x : Int32) : ¬ FP.Core.decode FP.Core.b32 (FP.i2f x).toNat = .nan := by
  have h := fa_enc32 (fa_ratio_good (f := FP.Core.b32) (by decide) (by decide) (decide (x.toInt < 0)) x.toInt.natAbs 1 0)
  have h2 := fa_u32 h.1 h.2
  show ¬ FP.Core.decode FP.Core.b32 (UInt32.ofNat (FP.Core.encode FP.Core.b32 (FP.Core.roundRatio FP.Core.b32 (decide (x.toInt < 0)) x.toInt.natAbs 1 0))).toNat = .nan
  rw [h2.2]
  exact fa_dec32 h.2
theorem fa_cnt_pos : ∀ k, k < 24 → fa_pos (FP.Core.decode FP.Core.b32 (FP.i2f (nI (k + 1))).toNat) = true := by decide +kernel
theorem fa_fdiv_ok {x : Int32} {n : Nat} (h1 : 1 ≤ n) (h2 : n ≤ 24) : vf_n32 (FP.fdiv (FP.i2f x) (FP.i2f (nI n))) ∧ vf_n64 (FP.f2d (FP.fdiv (FP.i2f x) (FP.i2f (nI n)))) := by
  obtain ⟨k, rfl⟩ : ∃ k, n = k + 1 := ⟨n - 1, by omega⟩
  have h := fa_enc32 (fa_quot_good (fa_i2f_ok x) (fa_cnt_pos k (by omega)))
  have h3 := fa_u32 h.1 h.2
  refine ⟨h3.1, ?_⟩
  have hd : ¬ FP.Core.decode FP.Core.b32 (FP.fdiv (FP.i2f x) (FP.i2f (nI (k + 1)))).toNat = .nan := by
    show ¬ FP.Core.decode FP.Core.b32 (UInt32.ofNat (FP.Core.encode FP.Core.b32 (FP.Core.quotient FP.Core.b32 _ _))).toNat = .nan
    rw [h3.2]
    exact fa_dec32 h.2
  generalize FP.fdiv (FP.i2f x) (FP.i2f (nI (k + 1))) = y at hd
  unfold FP.f2d
  have hn : FP.Core.fIsNaN y = false := decide_eq_false hd
  rw [hn]
  show vf_n64 (UInt64.ofNat (FP.Core.encode FP.Core.b64 (FP.Core.round FP.Core.b64 (FP.Core.decode FP.Core.b32 y.toNat))))
  have hg : fa_fgood 53 971 (FP.Core.round FP.Core.b64 (FP.Core.decode FP.Core.b32 y.toNat)) := by
    cases e : FP.Core.decode FP.Core.b32 y.toNat with
    | nan => exact absurd e hd
    | inf s => exact True.intro
    | fin s c q => exact fa_ratio_good (f := FP.Core.b64) (by decide) (by decide) _ _ _ _
  have h5 := fa_enc64 hg
  exact fa_u64 h5.1 h5.2
theorem fa_f0_ok : vf_n64 (FP.f2d FP.fconst0) := by
  unfold vf_n64
  decide +kernel
/-! THE WHOLE ARCHIVE, as numbers: its State is A, its history H, the oldest first -/
def fb_J (r : fa_R) : Prop := ∀ b ∈ fa_bs, ¬ b = 57 → fb_inj r b
def fb_push (H : List fb_At) (A : fb_At) : List fb_At := if H.length < 4 then H ++ [A] else H.tail ++ [A]
def fb_rec (H : List fb_At) (A : fb_At) (y : Int32) : List fb_At := if 0 ≤ y ∨ y = (-6 : Int32) then fb_push H A else H
def fb_cH (v : fa_V) (r : fa_R) (H : List fb_At) : Prop := v 113 0 = nI H.length ∧ H.length ≤ 4 ∧ ∀ i (hi : i < H.length), fb_okA H[i] ∧ ∃ b, b ∈ fa_hb ∧ r 114 i = some b ∧ fb_cA v r b H[i]
def fb_CV (v : fa_V) (r : fa_R) (A : fb_At) (H : List fb_At) : Prop := fb_okA A ∧ fb_J r ∧ fb_cA v r 1 A ∧ fb_cH v r H
theorem fb_cH.cong {v v1 : fa_V} {r r1 : fa_R} {H : List fb_At} (h : fb_cH v r H) (h0 : v1 113 0 = v 113 0) (h1 : ∀ k, 115 ≤ k → k < 395 → v1 k = v k) (h2 : ∀ k, 114 ≤ k → k < 395 → r1 k = r k) : fb_cH v1 r1 H := by
  refine ⟨h0.trans h.1, h.2.1, fun i hi => ?_⟩
  obtain ⟨a, b, hb, e, c⟩ := h.2.2 i hi
  have lo := fa_hb_lo b hb
  exact ⟨a, b, hb, by rw [h2 114 (by omega) (by omega)]; exact e, c.congr (fun k k1 k2 => h1 k (by omega) (by omega)) (fa_RS_cong2 (fun q q1 q2 => h2 q (by omega) (by omega)) c.1) (h2 _ (by omega) (by omega))⟩
/-- a copy of the State stands behind the history -/
def fb_dr (v v1 : fa_V) (r : fa_R) : Prop := ∃ bd, bd ∈ fa_hb ∧ r 114 (fa_N (v 113 0)) = some bd ∧ fa_fr bd (bd + 56) v v1 ∧ ∀ A, fb_inj r bd → fb_cA v r 1 A → fb_cA v1 r bd A
theorem fb_CV.draft {v v1 : fa_V} {r : fa_R} {A : fb_At} {H : List fb_At} (hC : fa_CI v r) (h : fb_CV v r A H) (hd : fb_dr v v1 r) : fb_CV v1 r A H ∧ ∃ bd, bd ∈ fa_hb ∧ r 114 H.length = some bd ∧ fb_cA v1 r bd A := by
  obtain ⟨h1, h2, h3, h4⟩ := h
  obtain ⟨bd, hbd, e, f, c⟩ := hd
  have lo := fa_hb_lo bd hbd
  have l4 := h4.2.1
  rw [h4.1, fa_N_nI (by omega)] at e
  refine ⟨⟨h1, h2, h3.congr (fun k k1 k2 => f k (by omega)) h3.1 rfl, ⟨by rw [f 113 (by omega)]; exact h4.1, l4, fun i hi => ?_⟩⟩, bd, hbd, e, c A (h2 bd (fa_hb_bs bd hbd) (by omega)) h3⟩
  obtain ⟨a, b, hb, e2, c2⟩ := h4.2.2 i hi
  have ne : ¬ b = bd := fun z => by
    rw [z] at e2
    have := fa_CI.J hC i H.length (by omega) (by omega) (by rw [e2, e])
    omega
  have d := fa_bs_d b (fa_hb_bs b hb) bd (fa_hb_bs bd hbd)
  exact ⟨a, b, hb, e2, c2.congr (fun k k1 k2 => f k (by omega)) c2.1 rfl⟩
set_option maxHeartbeats 4000000 in
set_option maxRecDepth 100000 in
theorem g_draft (l : Launch) (G : fa_G) (n : Nat) (hn : 397 ≤ n) (v : fa_V) (r : fa_R) (hC : fa_CI v r) : fa_MV l G n yX0_draft cX0_draft 2 4 [.ref (fa_B G + (113)), .ref (fa_B G + (1))] v r (fa_vo r (fun v1 => ((fb_dr v v1 r) ∧ fa_CI v1 r) ∧ (fa_fr (115) (395) v v1))) := by
  refine fa_startV (by decide +kernel) (Nat.le_of_ble_eq_true rfl) (fun p e s m args below meth c ls Q CX hl HX RET => ?_)
  have hl : lv_has ls 2 [(0, .ref (fa_B G + (113))), (1, .ref (fa_B G + (1)))] := hl
  have hx := CX.1.1
  have hb := CX.1.2.1
  have hB : (1 : Nat) ∈ fa_bs := by decide
  obtain ⟨n3, hn3, h3⟩ := hC.N
  obtain ⟨bd, hbd, ebd⟩ := hC.H n3 (by omega)
  have hbl := fa_hb_lo bd hbd
  refine lv_aload_n hx hb dX0_draft_0 rfl (lv_at hl 0 rfl) ?_
  refine fa_getr (k := 113) (j := 114) CX HX fl_X0_11 (by omega) rfl rfl (fa_CI.A hC).2.2.2.2.1 dX0_draft_1 ?_
  refine lv_aload_n hx hb dX0_draft_4 rfl (lv_at hl 0 rfl) ?_
  refine fa_geti (k := 113) CX HX fl_X0_18 (by omega) rfl rfl dX0_draft_5 ?_
  rw [show v 113 0 = nI (n3) from h3]
  refine fa_aald (k := 114) (j := n3) (q := bd) CX HX (by omega) rfl rfl (by decide) (by omega) (by first | decide | assumption) ebd dX0_draft_8 ?_
  refine lv_aload_n hx hb dX0_draft_9 rfl (lv_at hl 1 rfl) ?_
  refine fa_callVvu (As := [.ref (fa_B G + (1))]) (rest := []) CX HX (g_copyFrom l G n hn v r bd (fa_hb_bs _ hbd) (fa_CI.S hC bd (fa_hb_bs _ hbd)).1 1 (by decide) (fa_CI.S hC 1 (by decide)).1 (by omega) (fa_CI.S hC bd (fa_hb_bs _ hbd)).2 (fa_CI.S hC 1 (by decide)).2) ln_X0_22 (fa_lt (fa_hb_bs _ hbd) 0 (by decide) hn) (fa_s0 (fa_hb_bs _ hbd)) rfl rfl rfl (Nat.le_of_ble_eq_true rfl) hl.1 ⟨Nat.le_of_ble_eq_true rfl, Nat.le_of_ble_eq_true rfl⟩ ⟨Nat.le_refl _, Nat.le_refl _⟩ dX0_draft_10 (fun v1394 H locs h1393 HX1395 => ?_)
  have h_copyFrom := h1393.1.2
  have hIS_v1394 : fa_IS v1394 bd := h1393.1.1
  have hC_v1394 : fa_CI v1394 r := fa_CI.st hC (fa_hb_bs _ hbd) hIS_v1394 (fa_CI.S hC bd (fa_hb_bs _ hbd)).1 (fa_fr.wide h1393.2 (by omega) (by omega)) (fun _ _ => rfl)
  exact RET _ _ _ _ _ _ HX1395 dX0_draft_13 (⟨rfl, ⟨⟨⟨bd, hbd, (by rw [h3, fa_N_nI (by omega)]; exact ebd), h1393.2, h_copyFrom⟩, hC_v1394⟩, (fa_fr.tr fa_fr.rf (fa_fr.wide h1393.2 (by omega) (by omega)))⟩⟩)
/-- what keepDraft does -/
def fa_kd (v : fa_V) (r : fa_R) (v1 : fa_V) (r1 : fa_R) : Prop := (∃ m, m < 4 ∧ v 113 0 = nI m ∧ v1 = fa_u v 113 0 (nI (m + 1)) ∧ r1 = r) ∨ (v 113 0 = nI 4 ∧ v1 = v ∧ (∀ i, i < 4 → r1 114 i = r 114 (i + 1)) ∧ r1 114 4 = r 114 0 ∧ ∀ k, ¬ k = 114 → r1 k = r k)
set_option maxHeartbeats 4000000 in
set_option maxRecDepth 100000 in
theorem g_keepDraft (l : Launch) (G : fa_G) (n : Nat) (hn : 397 ≤ n) (v : fa_V) (r : fa_R) (hC : fa_CI v r) : fa_MV l G n yX0_keepDraft cX0_keepDraft 3 1 [.ref (fa_B G + (113))] v r (fun w => (fa_kd v r w.1 w.2) ∧ (fa_CI w.1 w.2) ∧ (fa_fr 113 114 v w.1) ∧ (∀ k, 395 ≤ k → w.2 k = r k)) := by
  refine fa_startV (by decide +kernel) (Nat.le_of_ble_eq_true rfl) (fun p e s m args below meth c ls Q CX hl HX RET => ?_)
  have hl : lv_has ls 3 [(0, .ref (fa_B G + (113)))] := hl
  have hx := CX.1.1
  have hb := CX.1.2.1
  have hB : (1 : Nat) ∈ fa_bs := by decide
  obtain ⟨n3, hn3, h3⟩ := hC.N
  obtain ⟨bd, hbd, ebd⟩ := hC.H 0 (by omega)
  refine lv_aload_n hx hb dX0_keepDraft_0 rfl (lv_at hl 0 rfl) ?_
  refine fa_geti (k := 113) CX HX fl_X0_18 (by omega) rfl rfl dX0_keepDraft_1 ?_
  rw [show v 113 0 = nI (n3) from h3]
  refine lv_iconst (v := nI (4)) hx hb dX0_keepDraft_4 (by decide) ?_
  refine lv_icmp_ge (tgt := 19) hx hb dX0_keepDraft_5 (by decide) (fun c_5 => ?_) (fun c_5 => ?_)
  · have hm4 := fa_leN (by omega) (by omega) c_5
    refine lv_aload_n hx hb dX0_keepDraft_19 rfl (lv_at hl 0 rfl) ?_
    refine fa_getr (k := 113) (j := 114) CX HX fl_X0_11 (by omega) rfl rfl (fa_CI.A hC).2.2.2.2.1 dX0_keepDraft_20 ?_
    refine lv_iconst (v := nI (0)) hx hb dX0_keepDraft_23 (by decide) ?_
    refine fa_aald (k := 114) (j := 0) (q := bd) CX HX (by omega) rfl rfl (by decide) (by omega) (by first | decide | assumption) ebd dX0_keepDraft_24 ?_
    refine lv_astore_n (lv' := [(1, .ref (fa_B G + (bd))), (0, .ref (fa_B G + (113)))]) hx hb dX0_keepDraft_25 rfl hl (by decide) rfl (fun ls hl => ?_)
    refine lv_iconst (v := nI (0)) hx hb dX0_keepDraft_26 (by decide) ?_
    refine lv_istore_n (lv' := [(2, .int (nI (0))), (1, .ref (fa_B G + (bd))), (0, .ref (fa_B G + (113)))]) hx hb dX0_keepDraft_27 rfl hl (by decide) rfl (fun ls hl => ?_)
    have LOOP_28 : ∀ (fu : Nat) (j : Nat) (r1396 : fa_R) (H : Heap) (locs : List Loc) (ls : Array Slot), 4 - j < fu → (j ≤ 4 ∧ (∀ i, i < j → r1396 114 i = r 114 (i + 1)) ∧ (∀ i, j ≤ i → r1396 114 i = r 114 i) ∧ ∀ k, ¬ k = 114 → r1396 k = r k) → lv_has ls 3 [(0, .ref (fa_B G + (113))), (1, .ref (fa_B G + (bd))), (2, .int (nI (j)))] → fa_HX G (n) v r1396 s H locs → W p l e (fa_rm 1) s m args below meth c H locs (0) (0) Q (F0 m 28 ls []) := by
      intro fu
      induction fu with
      | zero => intro j r1396 H locs ls hk; exact absurd hk (Nat.not_lt_zero _)
      | succ fu ih_28 =>
        intro j r1396 H locs ls hk_28 hi_28 hl HX1397
        have hA_r1396 : fa_RA r1396 := fa_RA_cong2 (hi_28.2.2.2 0 (by decide)) (hi_28.2.2.2 113 (by decide)) (hi_28.2.2.2 395 (by decide)) (fa_CI.A hC)
        refine lv_iload_n hx hb dX0_keepDraft_28 rfl (lv_at hl 2 rfl) ?_
        refine lv_iconst (v := nI (4)) hx hb dX0_keepDraft_29 (by decide) ?_
        refine lv_icmp_ge (tgt := 53) hx hb dX0_keepDraft_30 (by decide) (fun c_30 => ?_) (fun c_30 => ?_)
        · have hj := fa_leN (by omega) (by omega) c_30
          have ej : j = 4 := by omega
          subst ej
          refine lv_aload_n hx hb dX0_keepDraft_53 rfl (lv_at hl 0 rfl) ?_
          refine fa_getr (k := 113) (j := 114) CX HX1397 fl_X0_11 (by omega) rfl rfl hA_r1396.2.2.2.2.1 dX0_keepDraft_54 ?_
          refine lv_iconst (v := nI (4)) hx hb dX0_keepDraft_57 (by decide) ?_
          refine lv_aload_n hx hb dX0_keepDraft_58 rfl (lv_at hl 1 rfl) ?_
          refine fa_aast (k := 114) (j := 4) (q := bd) CX HX1397 (by omega) rfl rfl (by decide) (by omega) (by first | decide | assumption) (fa_lt (fa_hb_bs _ hbd) 0 (by decide) hn) (fa_s0 (fa_hb_bs _ hbd)) rfl dX0_keepDraft_59 (fun H locs r1398 e1399 HX1400 => ?_)
          have hz : (∀ i, i < 4 → r1398 114 i = r 114 (i + 1)) ∧ r1398 114 4 = r 114 0 ∧ ∀ k, ¬ k = 114 → r1398 k = r k := ⟨(fun i hi => by (show r1398 114 i = _; rw [e1399, fa_u_n _ _ (by omega)]; exact hi_28.2.1 i (by omega))), (by show r1398 114 4 = _; rw [e1399, fa_u_s, ebd]), (fun k hk => by (show r1398 k = _; rw [e1399, fa_u_k _ _ hk]; exact hi_28.2.2.2 k hk))⟩
          exact RET _ _ _ _ _ _ HX1400 dX0_keepDraft_60 (⟨(Or.inr ⟨(by rw [h3]; exact congrArg nI (by omega)), rfl, hz⟩), (fa_CI.rot hC hz.1 hz.2.1 hz.2.2), fa_fr.rf, (fun k hk => (by (show r1398 k = _; rw [e1399, fa_u_k _ _ (by omega)]; exact (hi_28.2.2.2 k (by omega)))))⟩)
        · have hj := fa_ltN (by omega) (by omega) c_30
          obtain ⟨be, hbe, ebe⟩ := hC.H (j + 1) (by omega)
          refine lv_aload_n hx hb dX0_keepDraft_33 rfl (lv_at hl 0 rfl) ?_
          refine fa_getr (k := 113) (j := 114) CX HX1397 fl_X0_11 (by omega) rfl rfl hA_r1396.2.2.2.2.1 dX0_keepDraft_34 ?_
          refine lv_iload_n hx hb dX0_keepDraft_37 rfl (lv_at hl 2 rfl) ?_
          refine lv_aload_n hx hb dX0_keepDraft_38 rfl (lv_at hl 0 rfl) ?_
          refine fa_getr (k := 113) (j := 114) CX HX1397 fl_X0_11 (by omega) rfl rfl hA_r1396.2.2.2.2.1 dX0_keepDraft_39 ?_
          refine lv_iload_n hx hb dX0_keepDraft_42 rfl (lv_at hl 2 rfl) ?_
          refine lv_iconst (v := nI (1)) hx hb dX0_keepDraft_43 (by decide) ?_
          refine fa_iaddN hx hb dX0_keepDraft_44 ?_
          refine fa_aald (k := 114) (j := j + 1) (q := be) CX HX1397 (by omega) rfl rfl (by decide) (by omega) (by first | decide | assumption) (by rw [hi_28.2.2.1 (j + 1) (by omega)]; exact ebe) dX0_keepDraft_45 ?_
          refine fa_aast (k := 114) (j := j) (q := be) CX HX1397 (by omega) rfl rfl (by decide) (by omega) (by first | decide | assumption) (fa_lt (fa_hb_bs _ hbe) 0 (by decide) hn) (fa_s0 (fa_hb_bs _ hbe)) rfl dX0_keepDraft_46 (fun H locs r1401 e1402 HX1403 => ?_)
          refine lv_iinc (v := nI (j + 1)) (lv' := [(2, .int (nI (j + 1))), (0, .ref (fa_B G + (113))), (1, .ref (fa_B G + (bd)))]) hx hb dX0_keepDraft_47 hl (k := 2) rfl (nI_add (j) 1) (by decide) rfl (fun ls hl => ?_)
          refine lv_goto (tgt := 28) hx hb dX0_keepDraft_50 (by decide) ?_
          exact ih_28 (j + 1) r1401 _ _ _ (by omega) (⟨by omega, (fun i hi => by (rw [e1402]; by_cases z : i = j; (rw [z, fa_u_s, ebe]); rw [fa_u_n _ _ (by omega)]; exact hi_28.2.1 i (by omega))), (fun i hi => by rw [e1402, fa_u_n _ _ (by omega)]; exact hi_28.2.2.1 i (by omega)), (fun k hk => by rw [e1402, fa_u_k _ _ hk]; exact hi_28.2.2.2 k hk)⟩) (lv_sub hl [1, 2, 0] rfl) HX1403
    exact LOOP_28 (4 - 0 + 1) (0) r _ _ _ (Nat.lt_succ_self _) (⟨Nat.zero_le _, fun i hi => absurd hi (Nat.not_lt_zero _), fun i _ => rfl, fun k _ => rfl⟩) (lv_sub hl [2, 1, 0] rfl) HX
  · have hm4 := fa_ltN (by omega) (by omega) c_5
    refine lv_aload_n hx hb dX0_keepDraft_8 rfl (lv_at hl 0 rfl) ?_
    refine lv_dup hx hb dX0_keepDraft_9 rfl ?_
    refine fa_geti (k := 113) CX HX fl_X0_18 (by omega) rfl rfl dX0_keepDraft_10 ?_
    rw [show v 113 0 = nI (n3) from h3]
    refine lv_iconst (v := nI (1)) hx hb dX0_keepDraft_13 (by decide) ?_
    refine fa_iaddN hx hb dX0_keepDraft_14 ?_
    refine fa_puti (k := 113) CX HX fl_X0_18 (by omega) rfl rfl rfl rfl dX0_keepDraft_15 (fun H locs v1404 e1405 HX1406 => ?_)
    exact RET _ _ _ _ _ _ HX1406 dX0_keepDraft_18 (⟨(Or.inl ⟨n3, hm4, h3, (by show v1404 = _; rw [e1405]), rfl⟩), (show fa_CI v1404 r from by rw [e1405]; exact fa_CI.u113 hC (by omega)), (by rw [e1405]; exact fa_fr.u fa_fr.rf (by omega)), (fun k hk => rfl)⟩)
set_option maxHeartbeats 4000000 in
set_option maxRecDepth 100000 in
theorem g_takeLatest (l : Launch) (G : fa_G) (n : Nat) (hn : 397 ≤ n) (v : fa_V) (r : fa_R) (hC : fa_CI v r) : fa_MR l G n yX0_takeLatest cX0_takeLatest 1 (some (.object RX3)) 1 [.ref (fa_B G + (113))] v r (fa_voi r (fun x v1 => (((∀ q, x = some q → q ∈ fa_hb ∧ ∃ k, k < 4 ∧ v 113 0 = nI (k + 1) ∧ v1 113 0 = nI k ∧ r 114 k = some q) ∧ (x = none → v 113 0 = nI 0 ∧ v1 = v)) ∧ fa_CI v1 r) ∧ (fa_fr (113) (114) v v1))) := by
  refine fa_startR (by decide +kernel) (Nat.le_of_ble_eq_true rfl) (fun p e s m args below meth c ls Q CX hl HX RET => ?_)
  have hl : lv_has ls 1 [(0, .ref (fa_B G + (113)))] := hl
  have hx := CX.1.1
  have hb := CX.1.2.1
  have hB : (1 : Nat) ∈ fa_bs := by decide
  obtain ⟨n3, hn3, h3⟩ := hC.N
  refine lv_aload_n hx hb dX0_takeLatest_0 rfl (lv_at hl 0 rfl) ?_
  refine fa_geti (k := 113) CX HX fl_X0_18 (by omega) rfl rfl dX0_takeLatest_1 ?_
  rw [show v 113 0 = nI (n3) from h3]
  refine lv_if_ne (tgt := 9) hx hb dX0_takeLatest_4 (by decide) (fun c_4 => ?_) (fun c_4 => ?_)
  · have hp3 : 0 < n3 := by
      refine Nat.pos_of_ne_zero (fun z => c_4 ?_)
      rw [z]; decide
    obtain ⟨bd, hbd, ebd⟩ := hC.H (n3 - 1) (by omega)
    refine lv_aload_n hx hb dX0_takeLatest_9 rfl (lv_at hl 0 rfl) ?_
    refine lv_dup hx hb dX0_takeLatest_10 rfl ?_
    refine fa_geti (k := 113) CX HX fl_X0_18 (by omega) rfl rfl dX0_takeLatest_11 ?_
    rw [show v 113 0 = nI (n3) from h3]
    refine lv_iconst (v := nI (1)) hx hb dX0_takeLatest_14 (by decide) ?_
    refine fa_isubN hx hb dX0_takeLatest_15 (by omega) ?_
    refine fa_puti (k := 113) CX HX fl_X0_18 (by omega) rfl rfl rfl rfl dX0_takeLatest_16 (fun H locs v1407 e1408 HX1409 => ?_)
    refine lv_aload_n hx hb dX0_takeLatest_19 rfl (lv_at hl 0 rfl) ?_
    refine fa_getr (k := 113) (j := 114) CX HX1409 fl_X0_11 (by omega) rfl rfl (fa_CI.A (show fa_CI v1407 r from by rw [e1408]; exact fa_CI.u113 hC (by omega))).2.2.2.2.1 dX0_takeLatest_20 ?_
    refine lv_aload_n hx hb dX0_takeLatest_23 rfl (lv_at hl 0 rfl) ?_
    refine fa_geti (k := 113) CX HX1409 fl_X0_18 (by omega) rfl rfl dX0_takeLatest_24 ?_
    rw [show v1407 113 0 = nI (n3 - 1) from (by rw [e1408, fa_u_s])]
    refine fa_aald (k := 114) (j := n3 - 1) (q := bd) CX HX1409 (by omega) rfl rfl (by decide) (by omega) (by first | decide | assumption) ebd dX0_takeLatest_27 ?_
    exact RET (some (bd)) _ _ _ _ _ _ _ HX1409 dX0_takeLatest_28 rfl (⟨rfl, ⟨⟨⟨(fun q hq => by (cases hq; exact ⟨hbd, n3 - 1, (by omega), (by rw [h3]; exact congrArg nI (by omega)), (by show v1407 113 0 = _; rw [e1408, fa_u_s]), ebd⟩)), (fun h => by cases h)⟩, (show fa_CI v1407 r from by rw [e1408]; exact fa_CI.u113 hC (by omega))⟩, (by rw [e1408]; exact fa_fr.u fa_fr.rf (by omega))⟩⟩)
  · refine lv_null hx hb dX0_takeLatest_7 ?_
    exact RET none _ _ _ _ _ _ _ HX dX0_takeLatest_8 rfl (⟨rfl, ⟨⟨⟨(fun q hq => by cases hq), (fun _ => ⟨(by rw [h3]; exact c_4), rfl⟩)⟩, hC⟩, fa_fr.rf⟩⟩)
theorem fb_cH.push {v v1 : fa_V} {r r1 : fa_R} {A : fb_At} {H : List fb_At} {bd : Nat} (h : fb_cH v r H) (ok : fb_okA A) (hbd : bd ∈ fa_hb) (e : r 114 H.length = some bd) (c : fb_cA v r bd A) (hk : fa_kd v r v1 r1) : fb_cH v1 r1 (fb_push H A) := by
  obtain ⟨h1, h4, h5⟩ := h
  rcases hk with ⟨m, hm, a1, a2, a3⟩ | ⟨a1, a2, a3, a4, a5⟩
  · have em : m = H.length := by
      rw [h1] at a1
      exact (fb_nIinj2 (by omega) (by omega) a1).symm
    subst em
    have f : ∀ k, ¬ k = 113 → v1 k = v k := fun k hk => by rw [a2, fa_u_k _ _ hk]
    rw [a3]
    unfold fb_push
    rw [if_pos hm]
    refine ⟨by rw [a2, fa_u_s, List.length_append]; rfl, by rw [List.length_append]; show H.length + 1 ≤ 4; omega, fun i hi => ?_⟩
    rw [List.length_append] at hi
    have hi' : i < H.length + 1 := hi
    by_cases z : i = H.length
    · subst z
      have lo := fa_hb_lo bd hbd
      rw [List.getElem_concat_length rfl]
      exact ⟨ok, bd, hbd, e, c.congr (fun k k1 k2 => f k (by omega)) c.1 rfl⟩
    · rw [List.getElem_append_left (by omega)]
      obtain ⟨x1, b, hb, x2, x3⟩ := h5 i (by omega)
      have lo := fa_hb_lo b hb
      exact ⟨x1, b, hb, x2, x3.congr (fun k k1 k2 => f k (by omega)) x3.1 rfl⟩
  · have e4 : H.length = 4 := by
      rw [h1] at a1
      exact fb_nIinj2 (by omega) (by omega) a1
    rw [a2]
    have rs : ∀ b, b ∈ fa_hb → ∀ B, fb_cA v r b B → fb_cA v r1 b B := fun b hb B x => by
      have lo := fa_hb_lo b hb
      exact x.congr (fun _ _ _ => rfl) (fa_RS_cong2 (fun q q1 q2 => a5 q (by omega)) x.1) (a5 _ (by omega))
    unfold fb_push
    rw [if_neg (by omega)]
    have lt : H.tail.length = 3 := by rw [List.length_tail]; omega
    refine ⟨by rw [a1, List.length_append, lt]; rfl, by rw [List.length_append, lt]; exact Nat.le_refl 4, fun i hi => ?_⟩
    rw [List.length_append, lt] at hi
    have hi' : i < 3 + 1 := hi
    by_cases z : i = 3
    · subst z
      rw [List.getElem_append_right (by omega)]
      have e0 : ∀ (k : Nat) (hk : k < [A].length), [A][k] = A := fun k hk => by
        have : k = 0 := by
          have : k < 1 := hk
          omega
        subst this
        rfl
      rw [e0]
      exact ⟨ok, bd, hbd, by rw [a3 3 (by decide)]; rw [e4] at e; exact e, rs bd hbd A c⟩
    · rw [List.getElem_append_left (by omega), List.getElem_tail]
      obtain ⟨x1, b, hb, x2, x3⟩ := h5 (i + 1) (by omega)
      exact ⟨x1, b, hb, by rw [a3 i (by omega)]; exact x2, rs b hb _ x3⟩
theorem fb_J.of {r r1 : fa_R} (h : fb_J r) (h1 : fb_inj r1 1) (hr : ∀ k, ¬ k = 2 → ¬ k = 114 → r1 k = r k) : fb_J r1 := fun b hb h57 => by
  have lo := fa_bs_in b hb
  by_cases z : b = 1
  · rw [z]; exact h1
  · refine fb_inj.congr (h b hb h57) (hr _ (by omega) (fun y => ?_))
    have : b = 113 := by omega
    rw [this] at hb
    exact absurd hb (by decide)
/-- an action: its State is copied, changed, and recorded -/
theorem fb_face {v v1 v2 v3 : fa_V} {r r2 r3 : fa_R} {A B : fb_At} {H : List fb_At} {x xr y : Int32} (hC : fa_CI v r) (hV : fb_CV v r A H) (hd : fb_dr v v1 r) (f2 : fa_fr 1 57 v1 v2) (rr : ∀ k, ¬ k = 2 → r2 k = r k) (ha : fb_cA v1 r 1 A → x = y ∧ fb_cA v2 r2 1 B) (ok : fb_okA B)  (hr : xr = x ∧ ((¬ (0 ≤ x ∨ x = (-6 : Int32)) ∧ v3 = v2 ∧ r3 = r2) ∨ ((0 ≤ x ∨ x = (-6 : Int32)) ∧ fa_kd v2 r2 v3 r3))) : xr = y ∧ fb_CV v3 r3 B (fb_rec H A y) := by
  obtain ⟨⟨d1, d2, d3, d4⟩, bd, hbd, e, c⟩ := hV.draft hC hd
  obtain ⟨a1, a2⟩ := ha d3
  have lo := fa_hb_lo bd hbd
  have h4 : fb_cH v2 r2 H := d4.cong (by rw [f2 113 (by omega)]) (fun k k1 k2 => f2 k (by omega)) (fun k k1 k2 => rr k (by omega))
  have c2 : fb_cA v2 r2 bd A := c.congr (fun k k1 k2 => f2 k (by omega)) (fa_RS_cong2 (fun q q1 q2 => rr q (by omega)) c.1) (rr _ (by omega))
  have j2 : fb_J r2 := d2.of a2.2.1 (fun k k1 _ => rr k k1)
  obtain ⟨h1, h2⟩ := hr
  refine ⟨h1.trans a1, ?_⟩
  unfold fb_rec
  rcases h2 with ⟨n, z1, z2⟩ | ⟨n, z⟩
  · rw [a1] at n
    rw [if_neg n, z1, z2]
    exact ⟨ok, j2, a2, h4⟩
  · rw [a1] at n
    rw [if_pos n]
    have p := h4.push d1 hbd (by rw [rr 114 (by decide)]; exact e) c2 z
    have q : (∀ k, ¬ k = 113 → v3 k = v2 k) ∧ ∀ k, ¬ k = 114 → r3 k = r2 k := by
      rcases z with ⟨m, -, -, b2, b3⟩ | ⟨-, b2, -, -, b5⟩
      · exact ⟨fun k hk => by rw [b2, fa_u_k _ _ hk], fun k _ => by rw [b3]⟩
      · exact ⟨fun k _ => by rw [b2], b5⟩
    have s1 : fb_cA v3 r3 1 B := a2.congr (fun k k1 k2 => q.1 k (by omega)) (fa_RS_cong2 (fun w w1 w2 => q.2 w (by omega)) a2.1) (q.2 _ (by omega))
    exact ⟨ok, j2.of s1.2.1 (fun k _ k2 => q.2 k k2), s1, p⟩
/-- the latest state comes back -/
def fb_undoA (A : fb_At) (H : List fb_At) : Int32 × fb_At × List fb_At := if H.length = 0 then ((-6 : Int32), A, H) else (nI (H.length - 1), (H[H.length - 1]?).getD A, H.take (H.length - 1))
theorem fb_undo0 {v : fa_V} {r : fa_R} {A : fb_At} {H : List fb_At} (hV : fb_CV v r A H) (h : v 113 0 = nI 0) : (-6 : Int32) = (fb_undoA A H).1 ∧ fb_CV v r (fb_undoA A H).2.1 (fb_undoA A H).2.2 := by
  have l4 := hV.2.2.2.2.1
  have e : H.length = 0 := fb_nIinj2 (by omega) (by omega) (hV.2.2.2.1.symm.trans h)
  have u : fb_undoA A H = ((-6 : Int32), A, H) := if_pos e
  rw [u]
  exact ⟨rfl, hV⟩
theorem fb_undo1 {v v1 v2 : fa_V} {r : fa_R} {A : fb_At} {H : List fb_At} {q k : Nat} (hV : fb_CV v r A H) (h1 : v 113 0 = nI (k + 1)) (h2 : v1 113 0 = nI k) (hk : k < 4) (e : r 114 k = some q) (f1 : fa_fr 113 114 v v1) (f2 : fa_fr 1 57 v1 v2) (hc : ∀ A, fb_inj r 1 → fb_cA v1 r q A → fb_cA v2 r 1 A) : v2 113 0 = (fb_undoA A H).1 ∧ fb_CV v2 r (fb_undoA A H).2.1 (fb_undoA A H).2.2 := by
  obtain ⟨o, j, s, z1, z2, z3⟩ := hV
  have el : H.length = k + 1 := fb_nIinj2 (by omega) (by omega) (z1.symm.trans h1)
  have u : fb_undoA A H = (nI k, (H[k]'(by omega)), H.take k) := by
    unfold fb_undoA
    rw [if_neg (by omega), show H.length - 1 = k by omega, List.getElem?_eq_getElem (by omega)]
    rfl
  rw [u]
  obtain ⟨ok, b, hb, e2, c⟩ := z3 k (by omega)
  have eb : b = q := by rw [e2] at e; exact Option.some.inj e
  subst eb
  have lo := fa_hb_lo b hb
  have c1 : fb_cA v1 r b (H[k]'(by omega)) := c.congr (fun i i1 i2 => f1 i (by omega)) c.1 rfl
  have lt : (H.take k).length = k := by rw [List.length_take]; omega
  refine ⟨by rw [f2 113 (by omega)]; exact h2, ok, j, hc _ s.2.1 c1, by rw [f2 113 (by omega), lt]; exact h2, by rw [lt]; omega, fun i hi => ?_⟩
  rw [lt] at hi
  rw [List.getElem_take]
  obtain ⟨y1, b2, hb2, y2, y3⟩ := z3 i (by omega)
  have lo2 := fa_hb_lo b2 hb2
  exact ⟨y1, b2, hb2, y2, y3.congr (fun w w1 w2 => by rw [f2 w (by omega), f1 w (by omega)]) y3.1 rfl⟩
