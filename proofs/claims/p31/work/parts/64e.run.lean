set_option maxHeartbeats 4000000 in
set_option maxRecDepth 100000 in
theorem g_run5 (l : Launch) (G : fa_G) (n : Nat) (hn : 397 ≤ n) (v : fa_V) (r : fa_R) (hC : fa_CI v r) : fa_MI l G n yX6_run cX6_run 6 (some .int) 8 [.ref (fa_B G + (0))] v r (fun x w => ((w.1 395 1 = v 395 1) ∧ ∀ A H, fb_CV v r A H → (∃ j y, j ≤ 20 ∧ fa_FR (fa_sg (v 396) (fa_N (v 395 1))) (fa_N (v 395 1)) j y ∧ ¬ y = (-6 : Int32) ∧ x = (-3 : Int32) ∧ fb_CV w.1 w.2 A H ∧ w.1 0 = v 0 ∧ w.2 58 = r 58) ∨ (∃ j e, j ≤ 20 ∧ fa_FR (fa_sg (v 396) (fa_N (v 395 1))) (fa_N (v 395 1)) j (-6 : Int32) ∧ fb_runP A (fa_sg (v 396) (fa_N (v 395 1))) (j + 1) e ∧ x = nI e ∧ fb_CV w.1 w.2 (fb_fin A (fa_sg (v 396) (fa_N (v 395 1))) (j + 1) e) (fb_push H A) ∧ fb_rpt A (fa_sg (v 396) (fa_N (v 395 1))) (j + 1) e (w.1 0 6) (w.1 0 4) (w.1 0 5))) ∧ (fa_CI w.1 w.2) ∧ (fa_fr 0 396 v w.1) ∧ (∀ k, 395 ≤ k → w.2 k = r k)) := by
  refine fa_startI (by decide +kernel) (Nat.le_of_ble_eq_true rfl) (fun p e s m args below meth c ls Q CX hl HX RET => ?_)
  have hl : lv_has ls 6 [(0, .ref (fa_B G + (0)))] := hl
  have hx := CX.1.1
  have hb := CX.1.2.1
  have hB : (1 : Nat) ∈ fa_bs := by decide
  obtain ⟨⟨nt, hnt, ht⟩, hch⟩ := fa_CI.T hC
  have hX : fa_TX v nt (v 396) := ⟨hnt, ht, rfl⟩
  have ent : fa_N (v 395 1) = nt := by rw [ht]; exact fa_N_nI (by omega)
  rw [ent] at RET
  refine lv_aload_n hx hb dX6_run_0 rfl (lv_at hl 0 rfl) ?_
  refine fa_getr (k := 0) (j := 395) CX HX fl_X6_29 (by omega) rfl rfl (fa_CI.A hC).2.2.2.1 dX6_run_1 ?_
  refine fa_callViu (As := []) (rest := []) CX HX (g_findFault l G n hn v r (fa_CI.A hC) (fa_CI.T hC) nt (v 396) hX) ln_X6_78 (by omega) rfl rfl rfl rfl (Nat.le_of_ble_eq_true rfl) hl.1 ⟨Nat.le_of_ble_eq_true rfl, Nat.le_of_ble_eq_true rfl⟩ ⟨Nat.le_refl _, Nat.le_refl _⟩ dX6_run_4 (fun x1344 v1345 H locs h1343 HX1346 => ?_)
  obtain ⟨hx_x1344, hs_x1344⟩ := h1343.1
  have hC_v1345 : fa_CI v1345 r := fa_CI.tx hC (fa_IT.rows (fa_CI.T hC) (hs_x1344 1 (by decide) (by decide) (by decide) (by decide)) (h1343.2 396 (by decide))) (fa_fr.wide h1343.2 (by omega) (by omega))
  refine lv_bipush (v := (-6 : Int32)) hx hb dX6_run_7 (by decide) ?_
  refine lv_icmp_eq (tgt := 15) hx hb dX6_run_9 (by decide) (fun c_9 => ?_) (fun c_9 => ?_)
  · refine lv_aload_n hx hb dX6_run_15 rfl (lv_at hl 0 rfl) ?_
    refine fa_getr (k := 0) (j := 113) CX HX1346 fl_X6_22 (by omega) rfl rfl (fa_CI.A hC_v1345).2.2.1 dX6_run_16 ?_
    refine lv_aload_n hx hb dX6_run_19 rfl (lv_at hl 0 rfl) ?_
    refine fa_getr (k := 0) (j := 1) CX HX1346 fl_X6_10 (by omega) rfl rfl (fa_CI.A hC_v1345).1 dX6_run_20 ?_
    refine fa_callVvu (As := [.ref (fa_B G + (1))]) (rest := []) CX HX1346 (g_draft l G n hn v1345 r hC_v1345 ) ln_X6_33 (by omega) rfl rfl rfl rfl (Nat.le_of_ble_eq_true rfl) hl.1 ⟨Nat.le_of_ble_eq_true rfl, Nat.le_of_ble_eq_true rfl⟩ ⟨Nat.le_refl _, Nat.le_refl _⟩ dX6_run_23 (fun v1348 H locs h1347 HX1349 => ?_)
    have hC_v1348 := h1347.1.2
    have h_draft := h1347.1.1
    refine lv_aload_n hx hb dX6_run_26 rfl (lv_at hl 0 rfl) ?_
    refine lv_iconst (v := nI (0)) hx hb dX6_run_27 (by decide) ?_
    refine fa_puti (k := 0) CX HX1349 fl_X6_82 (by omega) rfl rfl rfl rfl dX6_run_28 (fun H locs v1350 e1351 HX1352 => ?_)
    refine lv_aload_n hx hb dX6_run_31 rfl (lv_at hl 0 rfl) ?_
    refine fa_getr (k := 0) (j := 395) CX HX1352 fl_X6_29 (by omega) rfl rfl (fa_CI.A (show fa_CI v1350 r from by rw [e1351]; exact fa_CI.u0 hC_v1348)).2.2.2.1 dX6_run_32 ?_
    refine lv_iconst (v := nI (0)) hx hb dX6_run_35 (by decide) ?_
    refine fa_puti (k := 395) CX HX1352 fl_X6_85 (by omega) rfl rfl rfl rfl dX6_run_36 (fun H locs v1353 e1354 HX1355 => ?_)
    refine lv_iconst (v := nI (0)) hx hb dX6_run_39 (by decide) ?_
    refine lv_istore_n (lv' := [(1, .int (nI (0))), (0, .ref (fa_B G + (0)))]) hx hb dX6_run_40 rfl hl (by decide) rfl (fun ls hl => ?_)
    refine lv_iconst (v := nI (1)) hx hb dX6_run_41 (by decide) ?_
    refine lv_istore_n (lv' := [(2, .int (nI (1))), (1, .int (nI (0))), (0, .ref (fa_B G + (0)))]) hx hb dX6_run_42 rfl hl (by decide) rfl (fun ls hl => ?_)
    refine lv_iconst (v := nI (0)) hx hb dX6_run_43 (by decide) ?_
    refine lv_istore_n (lv' := [(3, .int (nI (0))), (2, .int (nI (1))), (1, .int (nI (0))), (0, .ref (fa_B G + (0)))]) hx hb dX6_run_44 rfl hl (by decide) rfl (fun ls hl => ?_)
    have LOOP_45 : ∀ (fu : Nat) (j : Nat) (ex : Int32) (mo : Int32) (mt : Nat) (v1356 : fa_V) (r1357 : fa_R) (H : Heap) (locs : List Loc) (ls : Array Slot), 60 - j < fu → (j ≤ 60 ∧ fa_CI v1356 r1357 ∧ v1356 395 1 = v 395 1 ∧ (mt ≤ nt ∧ v1356 395 2 = nI mt) ∧ fa_fr 0 396 v v1356 ∧ (∀ k, 395 ≤ k → r1357 k = r k) ∧ (∀ A H o, fb_CV v r A H → fb_txo (fa_sg (v 396) nt) nt o → fb_rnI A H (fa_sg (v 396) nt) o v1356 r1357 j mt ex mo)) → lv_has ls 6 [(0, .ref (fa_B G + (0))), (1, .int (ex)), (2, .int (mo)), (3, .int (nI (j)))] → fa_HX G (n) v1356 r1357 s H locs → W p l e (fa_rm 8) s m args below meth c H locs (0) (0) Q (F0 m 45 ls []) := by
      intro fu
      induction fu with
      | zero => intro j ex mo mt v1356 r1357 H locs ls hk; exact absurd hk (Nat.not_lt_zero _)
      | succ fu ih_45 =>
        intro j ex mo mt v1356 r1357 H locs ls hk_45 hi_45 hl HX1358
        refine lv_iload_n hx hb dX6_run_45 rfl (lv_at hl 2 rfl) ?_
        refine lv_if_eq (tgt := 120) hx hb dX6_run_46 (by decide) (fun c_46 => ?_) (fun c_46 => ?_)
        · refine lv_aload_n hx hb dX6_run_120 rfl (lv_at hl 0 rfl) ?_
          refine fa_getr (k := 0) (j := 113) CX HX1358 fl_X6_22 (by omega) rfl rfl (fa_CI.A hi_45.2.1).2.2.1 dX6_run_121 ?_
          refine fa_callVv (As := []) (rest := []) CX HX1358 (g_keepDraft l G n hn v1356 r1357 hi_45.2.1 ) ln_X6_106 (by omega) rfl rfl rfl rfl (Nat.le_of_ble_eq_true rfl) hl.1 ⟨Nat.le_of_ble_eq_true rfl, Nat.le_of_ble_eq_true rfl⟩ ⟨Nat.le_refl _, Nat.le_refl _⟩ dX6_run_124 (fun v1360 r1361 H locs h1359 HX1362 => ?_)
          dsimp only at h1359
          have hC_v1360 := h1359.2.1
          have h_keepDraft := h1359.1
          refine lv_iload_n hx hb dX6_run_127 rfl (lv_at hl 1 rfl) ?_
          exact RET _ _ _ _ _ _ _ HX1362 dX6_run_128 (⟨⟨(show v1360 395 1 = v 395 1 from ((congrFun (h1359.2.2.1 395 (by omega)) 1).trans hi_45.2.2.1)), fun A H hV => by (obtain ⟨j0, hj0, hF⟩ := hx_x1344; have hO := fb_txo_of (by omega) hF c_9; obtain ⟨e, q1, q2, q3, q4⟩ := fb_rnI.e hnt hV.1 hO (hi_45.2.2.2.2.2.2 A H _ hV hO) (Or.inl (by first | exact c_46 | exact Decidable.not_not.mp c_46)) h_keepDraft; rw [c_9] at hF; exact Or.inr ⟨j0, e, hj0, hF, q1, q2, q3, q4⟩)⟩, hC_v1360, (fa_fr.tr (fa_fr.tr fa_fr.rf (fa_fr.wide hi_45.2.2.2.2.1 (by omega) (by omega))) (fa_fr.wide h1359.2.2.1 (by omega) (by omega))), (fun k hk => ((h1359.2.2.2 k hk).trans ((hi_45.2.2.2.2.2.1 k hk).trans rfl)))⟩)
        · refine lv_iload_n hx hb dX6_run_49 rfl (lv_at hl 3 rfl) ?_
          refine lv_bipush (v := nI (60)) hx hb dX6_run_50 (by decide) ?_
          refine lv_icmp_ge (tgt := 120) hx hb dX6_run_52 (by decide) (fun c_52 => ?_) (fun c_52 => ?_)
          · refine lv_aload_n hx hb dX6_run_120 rfl (lv_at hl 0 rfl) ?_
            refine fa_getr (k := 0) (j := 113) CX HX1358 fl_X6_22 (by omega) rfl rfl (fa_CI.A hi_45.2.1).2.2.1 dX6_run_121 ?_
            refine fa_callVv (As := []) (rest := []) CX HX1358 (g_keepDraft l G n hn v1356 r1357 hi_45.2.1 ) ln_X6_106 (by omega) rfl rfl rfl rfl (Nat.le_of_ble_eq_true rfl) hl.1 ⟨Nat.le_of_ble_eq_true rfl, Nat.le_of_ble_eq_true rfl⟩ ⟨Nat.le_refl _, Nat.le_refl _⟩ dX6_run_124 (fun v1364 r1365 H locs h1363 HX1366 => ?_)
            dsimp only at h1363
            have hC_v1364 := h1363.2.1
            have h_keepDraft := h1363.1
            refine lv_iload_n hx hb dX6_run_127 rfl (lv_at hl 1 rfl) ?_
            exact RET _ _ _ _ _ _ _ HX1366 dX6_run_128 (⟨⟨(show v1364 395 1 = v 395 1 from ((congrFun (h1363.2.2.1 395 (by omega)) 1).trans hi_45.2.2.1)), fun A H hV => by (obtain ⟨j0, hj0, hF⟩ := hx_x1344; have hO := fb_txo_of (by omega) hF c_9; obtain ⟨e, q1, q2, q3, q4⟩ := fb_rnI.e hnt hV.1 hO (hi_45.2.2.2.2.2.2 A H _ hV hO) (Or.inr (fa_leN (by omega) (by omega) c_52)) h_keepDraft; rw [c_9] at hF; exact Or.inr ⟨j0, e, hj0, hF, q1, q2, q3, q4⟩)⟩, hC_v1364, (fa_fr.tr (fa_fr.tr fa_fr.rf (fa_fr.wide hi_45.2.2.2.2.1 (by omega) (by omega))) (fa_fr.wide h1363.2.2.1 (by omega) (by omega))), (fun k hk => ((h1363.2.2.2 k hk).trans ((hi_45.2.2.2.2.2.1 k hk).trans rfl)))⟩)
          · have hj := fa_ltN (by omega) (by omega) c_52
            refine lv_aload_n hx hb dX6_run_55 rfl (lv_at hl 0 rfl) ?_
            refine fa_getr (k := 0) (j := 395) CX HX1358 fl_X6_29 (by omega) rfl rfl (fa_CI.A hi_45.2.1).2.2.2.1 dX6_run_56 ?_
            refine fa_geti (k := 395) CX HX1358 fl_X6_85 (by omega) rfl rfl dX6_run_59 ?_
            rw [show v1356 395 2 = nI (mt) from hi_45.2.2.2.1.2]
            refine lv_istore (lv' := [(4, .int (nI (mt))), (0, .ref (fa_B G + (0))), (1, .int (ex)), (2, .int (mo)), (3, .int (nI (j)))]) hx hb dX6_run_62 hl (by decide) rfl (fun ls hl => ?_)
            refine lv_aload_n hx hb dX6_run_64 rfl (lv_at hl 1 rfl) ?_
            refine fa_getr (k := 0) (j := 395) CX HX1358 fl_X6_29 (by omega) rfl rfl (fa_CI.A hi_45.2.1).2.2.2.1 dX6_run_65 ?_
            refine fa_callViu (As := []) (rest := []) CX HX1358 (g_readOrder l G n hn v1356 r1357 (fa_CI.A hi_45.2.1) (fa_CI.T hi_45.2.1) nt (v 396) (fa_TX.rows hX hi_45.2.2.1 ((hi_45.2.2.2.2.1 396 (by omega)).trans rfl)) (mt) (by omega) hi_45.2.2.2.1.2) ln_X6_88 (by omega) rfl rfl rfl rfl (Nat.le_of_ble_eq_true rfl) hl.1 ⟨Nat.le_of_ble_eq_true rfl, Nat.le_of_ble_eq_true rfl⟩ ⟨Nat.le_refl _, Nat.le_refl _⟩ dX6_run_68 (fun x1368 v1369 H locs h1367 HX1370 => ?_)
            obtain ⟨hx_x1368, ⟨m_x1368, hm_x1368, hle_x1368, gm_x1368, he_x1368⟩, hs_x1368⟩ := h1367.1
            have hC_v1369 : fa_CI v1369 r1357 := fa_CI.tx hi_45.2.1 (fa_IT.rows (fa_CI.T hi_45.2.1) (hs_x1368 1 (by decide) (by decide) (by decide) (by decide)) (h1367.2 396 (by decide))) (fa_fr.wide h1367.2 (by omega) (by omega))
            refine lv_pop hx hb dX6_run_71 rfl ?_
            refine lv_aload_n hx hb dX6_run_72 rfl (lv_at hl 1 rfl) ?_
            refine fa_callVi (As := []) (rest := []) CX HX1370 (g_obey l G n hn v1369 r1357 hC_v1369 ) ln_X6_92 (by omega) rfl rfl rfl rfl (Nat.le_of_ble_eq_true rfl) hl.1 ⟨Nat.le_of_ble_eq_true rfl, Nat.le_of_ble_eq_true rfl⟩ ⟨Nat.le_refl _, Nat.le_refl _⟩ dX6_run_73 (fun x1372 v1373 r1374 H locs h1371 HX1375 => ?_)
            dsimp only at h1371
            have hC_v1373 := h1371.2.1
            have h_obey := h1371.1
            refine lv_istore (lv' := [(5, .int (x1372)), (4, .int (nI (mt))), (0, .ref (fa_B G + (0))), (1, .int (ex)), (2, .int (mo)), (3, .int (nI (j)))]) hx hb dX6_run_76 hl (by decide) rfl (fun ls hl => ?_)
            refine lv_iload hx hb dX6_run_78 (lv_at hl 0 rfl) ?_
            refine fa_callSip (As := [.int (x1372)]) (rest := []) CX HX1375 (c_X6_isError l G n v1373 r1374 (x1372)) ln_X6_95 rfl rfl (Nat.le_of_ble_eq_true rfl) hl.1 ⟨Nat.le_of_ble_eq_true rfl, Nat.le_of_ble_eq_true rfl⟩ ⟨Nat.le_refl _, Nat.le_refl _⟩ dX6_run_80 (fun x1377 H locs h1376 HX1378 => ?_)
            have h_isError := h1376
            refine lv_if_eq (tgt := 101) hx hb dX6_run_83 (by decide) (fun c_83 => ?_) (fun c_83 => ?_)
            · refine lv_iinc (v := ex + (1)) (lv' := [(1, .int (ex + (1))), (5, .int (x1372)), (4, .int (nI (mt))), (0, .ref (fa_B G + (0))), (2, .int (mo)), (3, .int (nI (j)))]) hx hb dX6_run_101 hl (k := 3) rfl rfl (by decide) rfl (fun ls hl => ?_)
              refine lv_aload_n hx hb dX6_run_104 rfl (lv_at hl 3 rfl) ?_
              refine fa_getr (k := 0) (j := 395) CX HX1378 fl_X6_29 (by omega) rfl rfl (fa_CI.A hC_v1373).2.2.2.1 dX6_run_105 ?_
              refine lv_bipush (v := nI (59)) hx hb dX6_run_108 (by decide) ?_
              refine fa_callViu (As := [.int (nI (59))]) (rest := []) CX HX1378 (g_readSign l G n hn v1373 r1374 (fa_CI.A hC_v1373) (fa_CI.T hC_v1373) nt (v 396) (fa_TX.rows hX ((congrFun (h1371.2.2.1 395 (by omega)) 1).trans ((hs_x1368 1 (by decide) (by decide) (by decide) (by decide)).trans hi_45.2.2.1)) ((h1371.2.2.1 396 (by omega)).trans ((h1367.2 396 (by omega)).trans ((hi_45.2.2.2.2.1 396 (by omega)).trans rfl)))) (m_x1368) (by omega) (by rw [h1371.2.2.1 _ (by omega)]; exact gm_x1368) (nI (59)) (by decide)) ln_X6_103 (by omega) rfl rfl rfl rfl (Nat.le_of_ble_eq_true rfl) hl.1 ⟨Nat.le_of_ble_eq_true rfl, Nat.le_of_ble_eq_true rfl⟩ ⟨Nat.le_refl _, Nat.le_refl _⟩ dX6_run_110 (fun x1380 v1381 H locs h1379 HX1382 => ?_)
              obtain ⟨hx_x1380, ⟨m_x1380, hm_x1380, hle_x1380, gm_x1380⟩, hs_x1380⟩ := h1379.1
              have hC_v1381 : fa_CI v1381 r1374 := fa_CI.tx hC_v1373 (fa_IT.rows (fa_CI.T hC_v1373) (hs_x1380 1 (by decide)) (h1379.2 396 (by decide))) (fa_fr.wide h1379.2 (by omega) (by omega))
              refine lv_istore_n (lv' := [(2, .int (x1380)), (1, .int (ex + (1))), (5, .int (x1372)), (4, .int (nI (mt))), (0, .ref (fa_B G + (0))), (3, .int (nI (j)))]) hx hb dX6_run_113 rfl hl (by decide) rfl (fun ls hl => ?_)
              refine lv_iinc (v := nI (j + 1)) (lv' := [(3, .int (nI (j + 1))), (2, .int (x1380)), (1, .int (ex + (1))), (5, .int (x1372)), (4, .int (nI (mt))), (0, .ref (fa_B G + (0)))]) hx hb dX6_run_114 hl (k := 5) rfl (nI_add (j) 1) (by decide) rfl (fun ls hl => ?_)
              refine lv_goto (tgt := 45) hx hb dX6_run_117 (by decide) ?_
              exact ih_45 (j + 1) (ex + (1)) (x1380) (m_x1380) v1381 r1374 _ _ _ (by omega) (⟨by omega, hC_v1381, ((hs_x1380 1 (by decide)).trans ((congrFun (h1371.2.2.1 395 (by omega)) 1).trans ((hs_x1368 1 (by decide) (by decide) (by decide) (by decide)).trans hi_45.2.2.1))), ⟨by omega, gm_x1380⟩, (fa_fr.tr (fa_fr.tr (fa_fr.tr (fa_fr.tr fa_fr.rf (fa_fr.wide hi_45.2.2.2.2.1 (by omega) (by omega))) (fa_fr.wide h1367.2 (by omega) (by omega))) (fa_fr.wide h1371.2.2.1 (by omega) (by omega))) (fa_fr.wide h1379.2 (by omega) (by omega))), (fun k hk => ((h1371.2.2.2 k hk).trans ((hi_45.2.2.2.2.2.1 k hk).trans rfl))), (fun A H o hV hO => fb_rnI.ok hO ((hi_45.2.2.2.2.2.2 A H o hV hO).s hV.1 hO (by first | exact c_46 | exact Decidable.not_not.mp c_46) h1367.2 hm_x1368 he_x1368.1 he_x1368.2 h1371.2.2.1 h_obey.1 h_obey.2) (fa_err0 h_isError (by first | exact c_83 | exact Decidable.not_not.mp c_83)) h1379.2 hx_x1380 hm_x1380)⟩) (lv_sub hl [5, 2, 1, 0] rfl) HX1382
            · refine lv_aload_n hx hb dX6_run_86 rfl (lv_at hl 2 rfl) ?_
              refine lv_iload_n hx hb dX6_run_87 rfl (lv_at hl 3 rfl) ?_
              refine lv_iload hx hb dX6_run_88 (lv_at hl 1 rfl) ?_
              refine lv_iload hx hb dX6_run_90 (lv_at hl 0 rfl) ?_
              refine lv_ineg hx hb dX6_run_92 ?_
              refine fa_callVvu (As := [.int (ex), .int (nI (mt)), .int (-(x1372))]) (rest := []) CX HX1378 (g_report l G n hn v1373 r1374 hC_v1373 (ex) (nI (mt)) (-(x1372))) ln_X6_99 (by omega) rfl rfl rfl rfl (Nat.le_of_ble_eq_true rfl) hl.1 ⟨Nat.le_of_ble_eq_true rfl, Nat.le_of_ble_eq_true rfl⟩ ⟨Nat.le_refl _, Nat.le_refl _⟩ dX6_run_93 (fun v1384 H locs h1383 HX1385 => ?_)
              have hC_v1384 := h1383.1.2
              have h_report := h1383.1.1
              refine lv_iconst (v := nI (0)) hx hb dX6_run_96 (by decide) ?_
              refine lv_istore_n (lv' := [(2, .int (nI (0))), (5, .int (x1372)), (4, .int (nI (mt))), (0, .ref (fa_B G + (0))), (1, .int (ex)), (3, .int (nI (j)))]) hx hb dX6_run_97 rfl hl (by decide) rfl (fun ls hl => ?_)
              refine lv_goto (tgt := 114) hx hb dX6_run_98 (by decide) ?_
              refine lv_iinc (v := nI (j + 1)) (lv' := [(3, .int (nI (j + 1))), (2, .int (nI (0))), (5, .int (x1372)), (4, .int (nI (mt))), (0, .ref (fa_B G + (0))), (1, .int (ex))]) hx hb dX6_run_114 hl (k := 5) rfl (nI_add (j) 1) (by decide) rfl (fun ls hl => ?_)
              refine lv_goto (tgt := 45) hx hb dX6_run_117 (by decide) ?_
              exact ih_45 (j + 1) (ex) (nI (0)) (m_x1368) v1384 r1374 _ _ _ (by omega) (⟨by omega, hC_v1384, ((congrFun (h1383.2 395 (by omega)) 1).trans ((congrFun (h1371.2.2.1 395 (by omega)) 1).trans ((hs_x1368 1 (by decide) (by decide) (by decide) (by decide)).trans hi_45.2.2.1))), ⟨by omega, (by rw [h1383.2 _ (by omega)]; exact (by rw [h1371.2.2.1 _ (by omega)]; exact gm_x1368))⟩, (fa_fr.tr (fa_fr.tr (fa_fr.tr (fa_fr.tr fa_fr.rf (fa_fr.wide hi_45.2.2.2.2.1 (by omega) (by omega))) (fa_fr.wide h1367.2 (by omega) (by omega))) (fa_fr.wide h1371.2.2.1 (by omega) (by omega))) (fa_fr.wide h1383.2 (by omega) (by omega))), (fun k hk => ((h1371.2.2.2 k hk).trans ((hi_45.2.2.2.2.2.1 k hk).trans rfl))), (fun A H o hV hO => fb_rnI.er ((hi_45.2.2.2.2.2.2 A H o hV hO).s hV.1 hO (by first | exact c_46 | exact Decidable.not_not.mp c_46) h1367.2 hm_x1368 he_x1368.1 he_x1368.2 h1371.2.2.1 h_obey.1 h_obey.2) (fa_err1 h_isError c_83) h1383.2 ⟨h_report.1, h_report.2.1, h_report.2.2⟩)⟩) (lv_sub hl [4, 5, 1, 0] rfl) HX1385
    exact LOOP_45 (60 - 0 + 1) (0) (nI (0)) (nI (1)) (0) v1353 r _ _ _ (Nat.lt_succ_self _) (⟨Nat.zero_le _, (show fa_CI v1353 r from by rw [e1354]; exact fa_CI.u395 (show fa_CI v1350 r from by rw [e1351]; exact fa_CI.u0 hC_v1348) (by decide)), ((congrFun (congrFun e1354 395) 1).trans ((fa_u_n _ _ (by decide)).trans ((congrFun (congrFun e1351 395) 1).trans ((fa_u_n _ _ (by decide)).trans ((congrFun (h1347.2 395 (by omega)) 1).trans (hs_x1344 1 (by decide) (by decide) (by decide) (by decide))))))), ⟨by omega, (by rw [e1354, fa_u_s])⟩, (by rw [e1354]; exact fa_fr.u (by rw [e1351]; exact fa_fr.u (fa_fr.tr (fa_fr.tr fa_fr.rf (fa_fr.wide h1343.2 (by omega) (by omega))) (fa_fr.wide h1347.2 (by omega) (by omega))) (by omega)) (by omega)), (fun k hk => rfl), (fun A H o hV hO => fb_rnI.start hV hC_v1345 h1343.2 h_draft e1351 e1354 hO)⟩) (lv_sub hl [3, 2, 1, 0] rfl) HX1355
  · refine lv_bipush (v := (-3 : Int32)) hx hb dX6_run_12 (by decide) ?_
    exact RET _ _ _ _ _ _ _ HX1346 dX6_run_14 (⟨⟨(show v1345 395 1 = v 395 1 from (hs_x1344 1 (by decide) (by decide) (by decide) (by decide))), fun A H hV => by (obtain ⟨j, hj, hF⟩ := hx_x1344; exact Or.inl ⟨j, x1344, hj, hF, c_9, rfl, hV.cong (fun k k1 k2 => h1343.2 k (by omega)), h1343.2 0 (by omega), rfl⟩)⟩, hC_v1345, (fa_fr.tr fa_fr.rf (fa_fr.wide h1343.2 (by omega) (by omega))), (fun k hk => rfl)⟩)
