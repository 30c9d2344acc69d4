set_option maxHeartbeats 4000000 in
set_option maxRecDepth 100000 in
theorem g_draft (l : Launch) (G : fa_G) (n : Nat) (hn : 397 ≤ n) (v : fa_V) (r : fa_R) (hC : fa_CI v r) : fa_MV l G n yX0_draft cX0_draft 2 4 [.ref (fa_B G + (113)), .ref (fa_B G + (1))] v r (fa_vo r (fun v1 => ((fb_dr v v1 r) ∧ fa_CI v1 r) ∧ (fa_fr (115) (395) v v1))) := by
  refine fa_startV (by decide +kernel) (Nat.le_of_ble_eq_true rfl) (fun p e s m args below meth c ls Q CX hl HX RET => ?_)
  have hl : lv_has ls 2 [(0, .ref (fa_B G + (113))), (1, .ref (fa_B G + (1)))] := hl
  have hx := CX.1.1
  have hb := CX.1.2.1
  have hB : (1 : Nat) ∈ fa_bs := by decide
  obtain ⟨n3, hn3, h3⟩ := hC.N
  obtain ⟨bd, hbd, ebd⟩ := hC.H n3 (by omega)
  have hbl := fa_hb_lo bd hbd
  refine lv_aload_n hx hb dX0_draft_0 rfl (lv_at hl 0 rfl) ?_
  refine fa_getr (k := 113) (j := 114) CX HX fl_X0_11 (by omega) rfl rfl (fa_CI.A hC).2.2.2.2.1 dX0_draft_1 ?_
  refine lv_aload_n hx hb dX0_draft_4 rfl (lv_at hl 0 rfl) ?_
  refine fa_geti (k := 113) CX HX fl_X0_18 (by omega) rfl rfl dX0_draft_5 ?_
  rw [show v 113 0 = nI (n3) from h3]
  refine fa_aald (k := 114) (j := n3) (q := bd) CX HX (by omega) rfl rfl (by decide) (by omega) (by first | decide | assumption) ebd dX0_draft_8 ?_
  refine lv_aload_n hx hb dX0_draft_9 rfl (lv_at hl 1 rfl) ?_
  refine fa_callVvu (As := [.ref (fa_B G + (1))]) (rest := []) CX HX (g_copyFrom l G n hn v r bd (fa_hb_bs _ hbd) (fa_CI.S hC bd (fa_hb_bs _ hbd)).1 1 (by decide) (fa_CI.S hC 1 (by decide)).1 (by omega) (fa_CI.S hC bd (fa_hb_bs _ hbd)).2 (fa_CI.S hC 1 (by decide)).2) ln_X0_22 (fa_lt (fa_hb_bs _ hbd) 0 (by decide) hn) (fa_s0 (fa_hb_bs _ hbd)) rfl rfl rfl (Nat.le_of_ble_eq_true rfl) hl.1 ⟨Nat.le_of_ble_eq_true rfl, Nat.le_of_ble_eq_true rfl⟩ ⟨Nat.le_refl _, Nat.le_refl _⟩ dX0_draft_10 (fun v1394 H locs h1393 HX1395 => ?_)
  have h_copyFrom := h1393.1.2
  have hIS_v1394 : fa_IS v1394 bd := h1393.1.1
  have hC_v1394 : fa_CI v1394 r := fa_CI.st hC (fa_hb_bs _ hbd) hIS_v1394 (fa_CI.S hC bd (fa_hb_bs _ hbd)).1 (fa_fr.wide h1393.2 (by omega) (by omega)) (fun _ _ => rfl)
  exact RET _ _ _ _ _ _ HX1395 dX0_draft_13 (⟨rfl, ⟨⟨⟨bd, hbd, (by rw [h3, fa_N_nI (by omega)]; exact ebd), h1393.2, h_copyFrom⟩, hC_v1394⟩, (fa_fr.tr fa_fr.rf (fa_fr.wide h1393.2 (by omega) (by omega)))⟩⟩)
/-- what keepDraft does -/
def fa_kd (v : fa_V) (r : fa_R) (v1 : fa_V) (r1 : fa_R) : Prop := (∃ m, m < 4 ∧ v 113 0 = nI m ∧ v1 = fa_u v 113 0 (nI (m + 1)) ∧ r1 = r) ∨ (v 113 0 = nI 4 ∧ v1 = v ∧ (∀ i, i < 4 → r1 114 i = r 114 (i + 1)) ∧ r1 114 4 = r 114 0 ∧ ∀ k, ¬ k = 114 → r1 k = r k)
set_option maxHeartbeats 4000000 in
set_option maxRecDepth 100000 in
theorem g_keepDraft (l : Launch) (G : fa_G) (n : Nat) (hn : 397 ≤ n) (v : fa_V) (r : fa_R) (hC : fa_CI v r) : fa_MV l G n yX0_keepDraft cX0_keepDraft 3 1 [.ref (fa_B G + (113))] v r (fun w => (fa_kd v r w.1 w.2) ∧ (fa_CI w.1 w.2) ∧ (fa_fr 113 114 v w.1) ∧ (∀ k, 395 ≤ k → w.2 k = r k)) := by
  refine fa_startV (by decide +kernel) (Nat.le_of_ble_eq_true rfl) (fun p e s m args below meth c ls Q CX hl HX RET => ?_)
  have hl : lv_has ls 3 [(0, .ref (fa_B G + (113)))] := hl
  have hx := CX.1.1
  have hb := CX.1.2.1
  have hB : (1 : Nat) ∈ fa_bs := by decide
  obtain ⟨n3, hn3, h3⟩ := hC.N
  obtain ⟨bd, hbd, ebd⟩ := hC.H 0 (by omega)
  refine lv_aload_n hx hb dX0_keepDraft_0 rfl (lv_at hl 0 rfl) ?_
  refine fa_geti (k := 113) CX HX fl_X0_18 (by omega) rfl rfl dX0_keepDraft_1 ?_
  rw [show v 113 0 = nI (n3) from h3]
  refine lv_iconst (v := nI (4)) hx hb dX0_keepDraft_4 (by decide) ?_
  refine lv_icmp_ge (tgt := 19) hx hb dX0_keepDraft_5 (by decide) (fun c_5 => ?_) (fun c_5 => ?_)
  · have hm4 := fa_leN (by omega) (by omega) c_5
    refine lv_aload_n hx hb dX0_keepDraft_19 rfl (lv_at hl 0 rfl) ?_
    refine fa_getr (k := 113) (j := 114) CX HX fl_X0_11 (by omega) rfl rfl (fa_CI.A hC).2.2.2.2.1 dX0_keepDraft_20 ?_
    refine lv_iconst (v := nI (0)) hx hb dX0_keepDraft_23 (by decide) ?_
    refine fa_aald (k := 114) (j := 0) (q := bd) CX HX (by omega) rfl rfl (by decide) (by omega) (by first | decide | assumption) ebd dX0_keepDraft_24 ?_
    refine lv_astore_n (lv' := [(1, .ref (fa_B G + (bd))), (0, .ref (fa_B G + (113)))]) hx hb dX0_keepDraft_25 rfl hl (by decide) rfl (fun ls hl => ?_)
    refine lv_iconst (v := nI (0)) hx hb dX0_keepDraft_26 (by decide) ?_
    refine lv_istore_n (lv' := [(2, .int (nI (0))), (1, .ref (fa_B G + (bd))), (0, .ref (fa_B G + (113)))]) hx hb dX0_keepDraft_27 rfl hl (by decide) rfl (fun ls hl => ?_)
    have LOOP_28 : ∀ (fu : Nat) (j : Nat) (r1396 : fa_R) (H : Heap) (locs : List Loc) (ls : Array Slot), 4 - j < fu → (j ≤ 4 ∧ (∀ i, i < j → r1396 114 i = r 114 (i + 1)) ∧ (∀ i, j ≤ i → r1396 114 i = r 114 i) ∧ ∀ k, ¬ k = 114 → r1396 k = r k) → lv_has ls 3 [(0, .ref (fa_B G + (113))), (1, .ref (fa_B G + (bd))), (2, .int (nI (j)))] → fa_HX G (n) v r1396 s H locs → W p l e (fa_rm 1) s m args below meth c H locs (0) (0) Q (F0 m 28 ls []) := by
      intro fu
      induction fu with
      | zero => intro j r1396 H locs ls hk; exact absurd hk (Nat.not_lt_zero _)
      | succ fu ih_28 =>
        intro j r1396 H locs ls hk_28 hi_28 hl HX1397
        have hA_r1396 : fa_RA r1396 := fa_RA_cong2 (hi_28.2.2.2 0 (by decide)) (hi_28.2.2.2 113 (by decide)) (hi_28.2.2.2 395 (by decide)) (fa_CI.A hC)
        refine lv_iload_n hx hb dX0_keepDraft_28 rfl (lv_at hl 2 rfl) ?_
        refine lv_iconst (v := nI (4)) hx hb dX0_keepDraft_29 (by decide) ?_
        refine lv_icmp_ge (tgt := 53) hx hb dX0_keepDraft_30 (by decide) (fun c_30 => ?_) (fun c_30 => ?_)
        · have hj := fa_leN (by omega) (by omega) c_30
          have ej : j = 4 := by omega
          subst ej
          refine lv_aload_n hx hb dX0_keepDraft_53 rfl (lv_at hl 0 rfl) ?_
          refine fa_getr (k := 113) (j := 114) CX HX1397 fl_X0_11 (by omega) rfl rfl hA_r1396.2.2.2.2.1 dX0_keepDraft_54 ?_
          refine lv_iconst (v := nI (4)) hx hb dX0_keepDraft_57 (by decide) ?_
          refine lv_aload_n hx hb dX0_keepDraft_58 rfl (lv_at hl 1 rfl) ?_
          refine fa_aast (k := 114) (j := 4) (q := bd) CX HX1397 (by omega) rfl rfl (by decide) (by omega) (by first | decide | assumption) (fa_lt (fa_hb_bs _ hbd) 0 (by decide) hn) (fa_s0 (fa_hb_bs _ hbd)) rfl dX0_keepDraft_59 (fun H locs r1398 e1399 HX1400 => ?_)
          have hz : (∀ i, i < 4 → r1398 114 i = r 114 (i + 1)) ∧ r1398 114 4 = r 114 0 ∧ ∀ k, ¬ k = 114 → r1398 k = r k := ⟨(fun i hi => by (show r1398 114 i = _; rw [e1399, fa_u_n _ _ (by omega)]; exact hi_28.2.1 i (by omega))), (by show r1398 114 4 = _; rw [e1399, fa_u_s, ebd]), (fun k hk => by (show r1398 k = _; rw [e1399, fa_u_k _ _ hk]; exact hi_28.2.2.2 k hk))⟩
          exact RET _ _ _ _ _ _ HX1400 dX0_keepDraft_60 (⟨(Or.inr ⟨(by rw [h3]; exact congrArg nI (by omega)), rfl, hz⟩), (fa_CI.rot hC hz.1 hz.2.1 hz.2.2), fa_fr.rf, (fun k hk => (by (show r1398 k = _; rw [e1399, fa_u_k _ _ (by omega)]; exact (hi_28.2.2.2 k (by omega)))))⟩)
        · have hj := fa_ltN (by omega) (by omega) c_30
          obtain ⟨be, hbe, ebe⟩ := hC.H (j + 1) (by omega)
          refine lv_aload_n hx hb dX0_keepDraft_33 rfl (lv_at hl 0 rfl) ?_
          refine fa_getr (k := 113) (j := 114) CX HX1397 fl_X0_11 (by omega) rfl rfl hA_r1396.2.2.2.2.1 dX0_keepDraft_34 ?_
          refine lv_iload_n hx hb dX0_keepDraft_37 rfl (lv_at hl 2 rfl) ?_
          refine lv_aload_n hx hb dX0_keepDraft_38 rfl (lv_at hl 0 rfl) ?_
          refine fa_getr (k := 113) (j := 114) CX HX1397 fl_X0_11 (by omega) rfl rfl hA_r1396.2.2.2.2.1 dX0_keepDraft_39 ?_
          refine lv_iload_n hx hb dX0_keepDraft_42 rfl (lv_at hl 2 rfl) ?_
          refine lv_iconst (v := nI (1)) hx hb dX0_keepDraft_43 (by decide) ?_
          refine fa_iaddN hx hb dX0_keepDraft_44 ?_
          refine fa_aald (k := 114) (j := j + 1) (q := be) CX HX1397 (by omega) rfl rfl (by decide) (by omega) (by first | decide | assumption) (by rw [hi_28.2.2.1 (j + 1) (by omega)]; exact ebe) dX0_keepDraft_45 ?_
          refine fa_aast (k := 114) (j := j) (q := be) CX HX1397 (by omega) rfl rfl (by decide) (by omega) (by first | decide | assumption) (fa_lt (fa_hb_bs _ hbe) 0 (by decide) hn) (fa_s0 (fa_hb_bs _ hbe)) rfl dX0_keepDraft_46 (fun H locs r1401 e1402 HX1403 => ?_)
          refine lv_iinc (v := nI (j + 1)) (lv' := [(2, .int (nI (j + 1))), (0, .ref (fa_B G + (113))), (1, .ref (fa_B G + (bd)))]) hx hb dX0_keepDraft_47 hl (k := 2) rfl (nI_add (j) 1) (by decide) rfl (fun ls hl => ?_)
          refine lv_goto (tgt := 28) hx hb dX0_keepDraft_50 (by decide) ?_
          exact ih_28 (j + 1) r1401 _ _ _ (by omega) (⟨by omega, (fun i hi => by (rw [e1402]; by_cases z : i = j; (rw [z, fa_u_s, ebe]); rw [fa_u_n _ _ (by omega)]; exact hi_28.2.1 i (by omega))), (fun i hi => by rw [e1402, fa_u_n _ _ (by omega)]; exact hi_28.2.2.1 i (by omega)), (fun k hk => by rw [e1402, fa_u_k _ _ hk]; exact hi_28.2.2.2 k hk)⟩) (lv_sub hl [1, 2, 0] rfl) HX1403
    exact LOOP_28 (4 - 0 + 1) (0) r _ _ _ (Nat.lt_succ_self _) (⟨Nat.zero_le _, fun i hi => absurd hi (Nat.not_lt_zero _), fun i _ => rfl, fun k _ => rfl⟩) (lv_sub hl [2, 1, 0] rfl) HX
  · have hm4 := fa_ltN (by omega) (by omega) c_5
    refine lv_aload_n hx hb dX0_keepDraft_8 rfl (lv_at hl 0 rfl) ?_
    refine lv_dup hx hb dX0_keepDraft_9 rfl ?_
    refine fa_geti (k := 113) CX HX fl_X0_18 (by omega) rfl rfl dX0_keepDraft_10 ?_
    rw [show v 113 0 = nI (n3) from h3]
    refine lv_iconst (v := nI (1)) hx hb dX0_keepDraft_13 (by decide) ?_
    refine fa_iaddN hx hb dX0_keepDraft_14 ?_
    refine fa_puti (k := 113) CX HX fl_X0_18 (by omega) rfl rfl rfl rfl dX0_keepDraft_15 (fun H locs v1404 e1405 HX1406 => ?_)
    exact RET _ _ _ _ _ _ HX1406 dX0_keepDraft_18 (⟨(Or.inl ⟨n3, hm4, h3, (by show v1404 = _; rw [e1405]), rfl⟩), (show fa_CI v1404 r from by rw [e1405]; exact fa_CI.u113 hC (by omega)), (by rw [e1405]; exact fa_fr.u fa_fr.rf (by omega)), (fun k hk => rfl)⟩)
set_option maxHeartbeats 4000000 in
set_option maxRecDepth 100000 in
theorem g_takeLatest (l : Launch) (G : fa_G) (n : Nat) (hn : 397 ≤ n) (v : fa_V) (r : fa_R) (hC : fa_CI v r) : fa_MR l G n yX0_takeLatest cX0_takeLatest 1 (some (.object RX3)) 1 [.ref (fa_B G + (113))] v r (fa_voi r (fun x v1 => (((∀ q, x = some q → q ∈ fa_hb ∧ ∃ k, k < 4 ∧ v 113 0 = nI (k + 1) ∧ v1 113 0 = nI k ∧ r 114 k = some q) ∧ (x = none → v 113 0 = nI 0 ∧ v1 = v)) ∧ fa_CI v1 r) ∧ (fa_fr (113) (114) v v1))) := by
  refine fa_startR (by decide +kernel) (Nat.le_of_ble_eq_true rfl) (fun p e s m args below meth c ls Q CX hl HX RET => ?_)
  have hl : lv_has ls 1 [(0, .ref (fa_B G + (113)))] := hl
  have hx := CX.1.1
  have hb := CX.1.2.1
  have hB : (1 : Nat) ∈ fa_bs := by decide
  obtain ⟨n3, hn3, h3⟩ := hC.N
  refine lv_aload_n hx hb dX0_takeLatest_0 rfl (lv_at hl 0 rfl) ?_
  refine fa_geti (k := 113) CX HX fl_X0_18 (by omega) rfl rfl dX0_takeLatest_1 ?_
  rw [show v 113 0 = nI (n3) from h3]
  refine lv_if_ne (tgt := 9) hx hb dX0_takeLatest_4 (by decide) (fun c_4 => ?_) (fun c_4 => ?_)
  · have hp3 : 0 < n3 := by
      refine Nat.pos_of_ne_zero (fun z => c_4 ?_)
      rw [z]; decide
    obtain ⟨bd, hbd, ebd⟩ := hC.H (n3 - 1) (by omega)
    refine lv_aload_n hx hb dX0_takeLatest_9 rfl (lv_at hl 0 rfl) ?_
    refine lv_dup hx hb dX0_takeLatest_10 rfl ?_
    refine fa_geti (k := 113) CX HX fl_X0_18 (by omega) rfl rfl dX0_takeLatest_11 ?_
    rw [show v 113 0 = nI (n3) from h3]
    refine lv_iconst (v := nI (1)) hx hb dX0_takeLatest_14 (by decide) ?_
    refine fa_isubN hx hb dX0_takeLatest_15 (by omega) ?_
    refine fa_puti (k := 113) CX HX fl_X0_18 (by omega) rfl rfl rfl rfl dX0_takeLatest_16 (fun H locs v1407 e1408 HX1409 => ?_)
    refine lv_aload_n hx hb dX0_takeLatest_19 rfl (lv_at hl 0 rfl) ?_
    refine fa_getr (k := 113) (j := 114) CX HX1409 fl_X0_11 (by omega) rfl rfl (fa_CI.A (show fa_CI v1407 r from by rw [e1408]; exact fa_CI.u113 hC (by omega))).2.2.2.2.1 dX0_takeLatest_20 ?_
    refine lv_aload_n hx hb dX0_takeLatest_23 rfl (lv_at hl 0 rfl) ?_
    refine fa_geti (k := 113) CX HX1409 fl_X0_18 (by omega) rfl rfl dX0_takeLatest_24 ?_
    rw [show v1407 113 0 = nI (n3 - 1) from (by rw [e1408, fa_u_s])]
    refine fa_aald (k := 114) (j := n3 - 1) (q := bd) CX HX1409 (by omega) rfl rfl (by decide) (by omega) (by first | decide | assumption) ebd dX0_takeLatest_27 ?_
    exact RET (some (bd)) _ _ _ _ _ _ _ HX1409 dX0_takeLatest_28 rfl (⟨rfl, ⟨⟨⟨(fun q hq => by (cases hq; exact ⟨hbd, n3 - 1, (by omega), (by rw [h3]; exact congrArg nI (by omega)), (by show v1407 113 0 = _; rw [e1408, fa_u_s]), ebd⟩)), (fun h => by cases h)⟩, (show fa_CI v1407 r from by rw [e1408]; exact fa_CI.u113 hC (by omega))⟩, (by rw [e1408]; exact fa_fr.u fa_fr.rf (by omega))⟩⟩)
  · refine lv_null hx hb dX0_takeLatest_7 ?_
    exact RET none _ _ _ _ _ _ _ HX dX0_takeLatest_8 rfl (⟨rfl, ⟨⟨⟨(fun q hq => by cases hq), (fun _ => ⟨(by rw [h3]; exact c_4), rfl⟩)⟩, hC⟩, fa_fr.rf⟩⟩)
