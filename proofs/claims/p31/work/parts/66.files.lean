set_option maxHeartbeats 4000000 in
set_option maxRecDepth 100000 in
theorem l_areFiles (l : Launch) (G : fa_G) (n : Nat) (hn : 397 ≤ n) (v : fa_V) (r : fa_R) (hC : fa_CI v r) (A : fb_At) (H0 : List fb_At) (dy cm bu kn : Nat) (hV : fb_CV v r A H0) (hk : fc_ok A dy cm bu (dy / 90) kn) (hd : dy ≤ 6400) (hcm : cm ≤ 100) (hkn : kn ≤ 1000) : fa_MI l G n yL_areFiles cL_areFiles 16 (some .boolean) 7 [.ref (fa_B G + (0))] v r (fa_voi r (fun x v1 => (x = nI 1 ∧ fa_CI v1 r ∧ fa_rsn 1 v v1) ∧ (fa_fr (9) (57) v v1))) := by
  refine fa_startZ (by decide +kernel) (Nat.le_of_ble_eq_true rfl) (fun p e s m args below meth c ls Q CX hl HX RET => ?_)
  have hl : lv_has ls 16 [(0, .ref (fa_B G + (0)))] := hl
  have hx := CX.1.1
  have hb := CX.1.2.1
  have hB : (1 : Nat) ∈ fa_bs := by decide
  have hok := hV.1
  have hn24 : A.n ≤ 24 := hok.1.1
  have hm12 : A.m ≤ 12 := hok.2.1
  have hq8 : A.q.length ≤ 8 := hok.2.2.1
  refine lv_iconst (v := nI (0)) hx hb dL_areFiles_0 (by decide) ?_
  refine lv_istore_n (lv' := [(1, .int (nI (0))), (0, .ref (fa_B G + (0)))]) hx hb dL_areFiles_1 rfl hl (by decide) rfl (fun ls hl => ?_)
  refine lv_iconst (v := nI (0)) hx hb dL_areFiles_2 (by decide) ?_
  refine lv_istore_n (lv' := [(2, .int (nI (0))), (1, .int (nI (0))), (0, .ref (fa_B G + (0)))]) hx hb dL_areFiles_3 rfl hl (by decide) rfl (fun ls hl => ?_)
  refine lv_iconst (v := (-1 : Int32)) hx hb dL_areFiles_4 (by decide) ?_
  refine lv_istore_n (lv' := [(3, .int ((-1 : Int32))), (2, .int (nI (0))), (1, .int (nI (0))), (0, .ref (fa_B G + (0)))]) hx hb dL_areFiles_5 rfl hl (by decide) rfl (fun ls hl => ?_)
  refine lv_aload_n hx hb dL_areFiles_6 rfl (lv_at hl 3 rfl) ?_
  refine lv_iconst (v := (-1 : Int32)) hx hb dL_areFiles_7 (by decide) ?_
  refine lv_iconst (v := nI (0)) hx hb dL_areFiles_8 (by decide) ?_
  refine fa_callVip (As := [.int ((-1 : Int32)), .int (nI (0))]) (rest := []) CX HX (g_file l G n hn v r hC ((-1 : Int32)) (nI (0))) ln_L_9 (by omega) rfl rfl rfl rfl (Nat.le_of_ble_eq_true rfl) hl.1 ⟨Nat.le_of_ble_eq_true rfl, Nat.le_of_ble_eq_true rfl⟩ ⟨Nat.le_refl _, Nat.le_refl _⟩ dL_areFiles_9 (fun x1387 H locs h1386 HX1388 => ?_)
  have h_file := h1386
  have e_9 : x1387 = (-1 : Int32) := ((h_file A hV.1 hV.2.2.1).trans (fc_fil0 hok (Or.inl (by decide))))
  subst e_9
  refine lv_iconst (v := (-1 : Int32)) hx hb dL_areFiles_12 (by decide) ?_
  refine lv_icmp_ne (tgt := 58) hx hb dL_areFiles_13 (by decide) (fun c_13 => ?_) (fun c_13 => ?_)
  · exact absurd (by try decide) c_13
  · refine lv_aload_n hx hb dL_areFiles_16 rfl (lv_at hl 3 rfl) ?_
    refine lv_aload_n hx hb dL_areFiles_17 rfl (lv_at hl 3 rfl) ?_
    refine lv_iconst (v := nI (1)) hx hb dL_areFiles_18 (by decide) ?_
    refine fa_callVip (As := [.int (nI (1))]) (rest := [.ref (fa_B G + (0))]) CX HX1388 (g_count l G n hn v r hC (nI (1))) ln_L_15 (by omega) rfl rfl rfl rfl (Nat.le_of_ble_eq_true rfl) hl.1 ⟨Nat.le_of_ble_eq_true rfl, Nat.le_of_ble_eq_true rfl⟩ ⟨Nat.le_refl _, Nat.le_refl _⟩ dL_areFiles_19 (fun x1390 H locs h1389 HX1391 => ?_)
    have h_count := h1389
    have e_19 : x1390 = nI (cm) := (((h_count A hV.1 hV.2.2.1).trans (fb_cntA_1 (by decide))).trans hk.2.1)
    subst e_19
    refine lv_iconst (v := nI (0)) hx hb dL_areFiles_22 (by decide) ?_
    refine fa_callVip (As := [.int (nI (cm)), .int (nI (0))]) (rest := []) CX HX1391 (g_file l G n hn v r hC (nI (cm)) (nI (0))) ln_L_9 (by omega) rfl rfl rfl rfl (Nat.le_of_ble_eq_true rfl) hl.1 ⟨Nat.le_of_ble_eq_true rfl, Nat.le_of_ble_eq_true rfl⟩ ⟨Nat.le_refl _, Nat.le_refl _⟩ dL_areFiles_23 (fun x1393 H locs h1392 HX1394 => ?_)
    have h_file := h1392
    have e_23 : x1393 = (-1 : Int32) := ((h_file A hV.1 hV.2.2.1).trans (fc_fil0 hok (Or.inr (by rw [hk.2.1]; exact Int32.lt_irrefl))))
    subst e_23
    refine lv_iconst (v := (-1 : Int32)) hx hb dL_areFiles_26 (by decide) ?_
    refine lv_icmp_ne (tgt := 58) hx hb dL_areFiles_27 (by decide) (fun c_27 => ?_) (fun c_27 => ?_)
    · exact absurd (by try decide) c_27
    · refine lv_aload_n hx hb dL_areFiles_30 rfl (lv_at hl 3 rfl) ?_
      refine lv_iconst (v := (-1 : Int32)) hx hb dL_areFiles_31 (by decide) ?_
      refine fa_callVip (As := [.int ((-1 : Int32))]) (rest := []) CX HX1394 (g_fileAt l G n hn v r hC ((-1 : Int32))) ln_L_19 (by omega) rfl rfl rfl rfl (Nat.le_of_ble_eq_true rfl) hl.1 ⟨Nat.le_of_ble_eq_true rfl, Nat.le_of_ble_eq_true rfl⟩ ⟨Nat.le_refl _, Nat.le_refl _⟩ dL_areFiles_32 (fun x1396 H locs h1395 HX1397 => ?_)
      have h_fileAt := h1395
      have e_32 : x1396 = (-2 : Int32) := ((h_fileAt A hV.1 hV.2.2.1).trans (if_pos (by decide)))
      subst e_32
      refine lv_bipush (v := (-2 : Int32)) hx hb dL_areFiles_35 (by decide) ?_
      refine lv_icmp_ne (tgt := 58) hx hb dL_areFiles_37 (by decide) (fun c_37 => ?_) (fun c_37 => ?_)
      · exact absurd (by try decide) c_37
      · refine lv_aload_n hx hb dL_areFiles_40 rfl (lv_at hl 3 rfl) ?_
        refine lv_aload_n hx hb dL_areFiles_41 rfl (lv_at hl 3 rfl) ?_
        refine lv_iconst (v := nI (0)) hx hb dL_areFiles_42 (by decide) ?_
        refine fa_callVip (As := [.int (nI (0))]) (rest := [.ref (fa_B G + (0))]) CX HX1397 (g_count l G n hn v r hC (nI (0))) ln_L_15 (by omega) rfl rfl rfl rfl (Nat.le_of_ble_eq_true rfl) hl.1 ⟨Nat.le_of_ble_eq_true rfl, Nat.le_of_ble_eq_true rfl⟩ ⟨Nat.le_refl _, Nat.le_refl _⟩ dL_areFiles_43 (fun x1399 H locs h1398 HX1400 => ?_)
        have h_count := h1398
        have e_43 : x1399 = nI (A.n) := ((h_count A hV.1 hV.2.2.1).trans (fb_cntA_0 (by decide)))
        subst e_43
        refine fa_callVip (As := [.int (nI (A.n))]) (rest := []) CX HX1400 (g_fileAt l G n hn v r hC (nI (A.n))) ln_L_19 (by omega) rfl rfl rfl rfl (Nat.le_of_ble_eq_true rfl) hl.1 ⟨Nat.le_of_ble_eq_true rfl, Nat.le_of_ble_eq_true rfl⟩ ⟨Nat.le_refl _, Nat.le_refl _⟩ dL_areFiles_46 (fun x1402 H locs h1401 HX1403 => ?_)
        have h_fileAt := h1401
        have e_46 : x1402 = (-6 : Int32) := ((h_fileAt A hV.1 hV.2.2.1).trans (fc_fat0 (Nat.le_refl _) (by omega)))
        subst e_46
        refine lv_bipush (v := (-6 : Int32)) hx hb dL_areFiles_49 (by decide) ?_
        refine lv_icmp_ne (tgt := 58) hx hb dL_areFiles_51 (by decide) (fun c_51 => ?_) (fun c_51 => ?_)
        · exact absurd (by try decide) c_51
        · refine lv_iconst (v := nI (1)) hx hb dL_areFiles_54 (by decide) ?_
          refine lv_goto (tgt := 59) hx hb dL_areFiles_55 (by decide) ?_
          refine lv_istore (lv' := [(4, .int (nI (1))), (3, .int ((-1 : Int32))), (2, .int (nI (0))), (1, .int (nI (0))), (0, .ref (fa_B G + (0)))]) hx hb dL_areFiles_59 hl (by decide) rfl (fun ls hl => ?_)
          refine lv_iconst (v := nI (0)) hx hb dL_areFiles_61 (by decide) ?_
          refine lv_istore (lv' := [(5, .int (nI (0))), (4, .int (nI (1))), (3, .int ((-1 : Int32))), (2, .int (nI (0))), (1, .int (nI (0))), (0, .ref (fa_B G + (0)))]) hx hb dL_areFiles_62 hl (by decide) rfl (fun ls hl => ?_)
          have LOOP_64 : ∀ (fu : Nat) (pl : Nat) (pg : Int32) (rs : Int32) (la : Int32) (v1404 : fa_V) (H : Heap) (locs : List Loc) (ls : Array Slot), A.n - pl < fu → (pl ≤ A.n ∧ fa_CI v1404 r ∧ fa_fr 9 57 v v1404 ∧ fa_rsn 1 v v1404 ∧ pg = fa_sum (fun p => A.F p 2) pl ∧ rs = fa_sum (fun p => fb_nres A (A.F p 0)) pl ∧ la = fc_last A pl) → lv_has ls 16 [(0, .ref (fa_B G + (0))), (1, .int (pg)), (2, .int (rs)), (3, .int (la)), (4, .int (nI (1))), (5, .int (nI (pl)))] → fa_HX G (n) v1404 r s H locs → W p l e (fa_rm 7) s m args below meth c H locs (0) (0) Q (F0 m 64 ls []) := by
            intro fu
            induction fu with
            | zero => intro pl pg rs la v1404 H locs ls hk; exact absurd hk (Nat.not_lt_zero _)
            | succ fu ih_64 =>
              intro pl pg rs la v1404 H locs ls hk_64 hi_64 hl HX1405
              have hV_64 := hV.rsn hi_64.2.2.2.1 hi_64.2.2.1
              refine lv_iload hx hb dL_areFiles_64 (lv_at hl 5 rfl) ?_
              refine lv_aload_n hx hb dL_areFiles_66 rfl (lv_at hl 0 rfl) ?_
              refine lv_iconst (v := nI (0)) hx hb dL_areFiles_67 (by decide) ?_
              refine fa_callVip (As := [.int (nI (0))]) (rest := [.int (nI (pl))]) CX HX1405 (g_count l G n hn v1404 r hi_64.2.1 (nI (0))) ln_L_15 (by omega) rfl rfl rfl rfl (Nat.le_of_ble_eq_true rfl) hl.1 ⟨Nat.le_of_ble_eq_true rfl, Nat.le_of_ble_eq_true rfl⟩ ⟨Nat.le_refl _, Nat.le_refl _⟩ dL_areFiles_68 (fun x1407 H locs h1406 HX1408 => ?_)
              have h_count := h1406
              have e_68 : x1407 = nI (A.n) := ((h_count A hV_64.1 hV_64.2.2.1).trans (fb_cntA_0 (by decide)))
              subst e_68
              refine lv_icmp_ge (tgt := 573) hx hb dL_areFiles_71 (by decide) (fun c_71 => ?_) (fun c_71 => ?_)
              · have hpn : pl = A.n := by
                  have := fa_leN (by omega) (by omega) c_71
                  have := hi_64.1
                  omega
                refine lv_iload hx hb dL_areFiles_573 (lv_at hl 4 rfl) ?_
                refine lv_if_eq (tgt := 620) hx hb dL_areFiles_575 (by decide) (fun c_575 => ?_) (fun c_575 => ?_)
                · exact absurd c_575 (by try decide)
                · refine lv_iload_n hx hb dL_areFiles_578 rfl (lv_at hl 1 rfl) ?_
                  refine lv_aload_n hx hb dL_areFiles_579 rfl (lv_at hl 0 rfl) ?_
                  refine lv_iconst (v := nI (2)) hx hb dL_areFiles_580 (by decide) ?_
                  refine fa_callVip (As := [.int (nI (2))]) (rest := [.int (pg)]) CX HX1408 (g_count l G n hn v1404 r hi_64.2.1 (nI (2))) ln_L_15 (by omega) rfl rfl rfl rfl (Nat.le_of_ble_eq_true rfl) hl.1 ⟨Nat.le_of_ble_eq_true rfl, Nat.le_of_ble_eq_true rfl⟩ ⟨Nat.le_refl _, Nat.le_refl _⟩ dL_areFiles_581 (fun x1410 H locs h1409 HX1411 => ?_)
                  have h_count := h1409
                  have e_581 : x1410 = fb_pgs A := ((h_count A hV_64.1 hV_64.2.2.1).trans (fb_cntA_2 (by decide)))
                  subst e_581
                  refine lv_icmp_ne (tgt := 620) hx hb dL_areFiles_584 (by decide) (fun c_584 => ?_) (fun c_584 => ?_)
                  · exact absurd (hi_64.2.2.2.2.1.trans (by rw [hpn]; rfl)) c_584
                  · refine lv_iload_n hx hb dL_areFiles_587 rfl (lv_at hl 2 rfl) ?_
                    refine lv_aload_n hx hb dL_areFiles_588 rfl (lv_at hl 0 rfl) ?_
                    refine lv_bipush (v := nI (8)) hx hb dL_areFiles_589 (by decide) ?_
                    refine fa_callVip (As := [.int (nI (8))]) (rest := [.int (rs)]) CX HX1411 (g_count l G n hn v1404 r hi_64.2.1 (nI (8))) ln_L_15 (by omega) rfl rfl rfl rfl (Nat.le_of_ble_eq_true rfl) hl.1 ⟨Nat.le_of_ble_eq_true rfl, Nat.le_of_ble_eq_true rfl⟩ ⟨Nat.le_refl _, Nat.le_refl _⟩ dL_areFiles_591 (fun x1413 H locs h1412 HX1414 => ?_)
                    have h_count := h1412
                    have e_591 : x1413 = nI (A.q.length) := ((h_count A hV_64.1 hV_64.2.2.1).trans (fb_cntA_8 (by decide)))
                    subst e_591
                    refine lv_icmp_ne (tgt := 620) hx hb dL_areFiles_594 (by decide) (fun c_594 => ?_) (fun c_594 => ?_)
                    · exact absurd (hi_64.2.2.2.2.2.1.trans (by rw [hpn]; exact fc_res hok)) c_594
                    · refine lv_aload_n hx hb dL_areFiles_597 rfl (lv_at hl 0 rfl) ?_
                      refine lv_iconst (v := nI (0)) hx hb dL_areFiles_598 (by decide) ?_
                      refine fa_callVip (As := [.int (nI (0))]) (rest := []) CX HX1414 (g_count l G n hn v1404 r hi_64.2.1 (nI (0))) ln_L_15 (by omega) rfl rfl rfl rfl (Nat.le_of_ble_eq_true rfl) hl.1 ⟨Nat.le_of_ble_eq_true rfl, Nat.le_of_ble_eq_true rfl⟩ ⟨Nat.le_refl _, Nat.le_refl _⟩ dL_areFiles_599 (fun x1416 H locs h1415 HX1417 => ?_)
                      have h_count := h1415
                      have e_599 : x1416 = nI (A.n) := ((h_count A hV_64.1 hV_64.2.2.1).trans (fb_cntA_0 (by decide)))
                      subst e_599
                      refine lv_aload_n hx hb dL_areFiles_602 rfl (lv_at hl 0 rfl) ?_
                      refine lv_iconst (v := nI (3)) hx hb dL_areFiles_603 (by decide) ?_
                      refine fa_callVip (As := [.int (nI (3))]) (rest := [.int (nI (A.n))]) CX HX1417 (g_count l G n hn v1404 r hi_64.2.1 (nI (3))) ln_L_15 (by omega) rfl rfl rfl rfl (Nat.le_of_ble_eq_true rfl) hl.1 ⟨Nat.le_of_ble_eq_true rfl, Nat.le_of_ble_eq_true rfl⟩ ⟨Nat.le_refl _, Nat.le_refl _⟩ dL_areFiles_604 (fun x1419 H locs h1418 HX1420 => ?_)
                      have h_count := h1418
                      have e_604 : x1419 = nI (bu) := (((h_count A hV_64.1 hV_64.2.2.1).trans (fb_cntA_3 (by decide))).trans hk.2.2.1)
                      subst e_604
                      refine fa_iaddN hx hb dL_areFiles_607 ?_
                      refine lv_aload_n hx hb dL_areFiles_608 rfl (lv_at hl 0 rfl) ?_
                      refine lv_iconst (v := nI (1)) hx hb dL_areFiles_609 (by decide) ?_
                      refine fa_callVip (As := [.int (nI (1))]) (rest := [.int (nI (A.n + bu))]) CX HX1420 (g_count l G n hn v1404 r hi_64.2.1 (nI (1))) ln_L_15 (by omega) rfl rfl rfl rfl (Nat.le_of_ble_eq_true rfl) hl.1 ⟨Nat.le_of_ble_eq_true rfl, Nat.le_of_ble_eq_true rfl⟩ ⟨Nat.le_refl _, Nat.le_refl _⟩ dL_areFiles_610 (fun x1422 H locs h1421 HX1423 => ?_)
                      have h_count := h1421
                      have e_610 : x1422 = nI (cm) := (((h_count A hV_64.1 hV_64.2.2.1).trans (fb_cntA_1 (by decide))).trans hk.2.1)
                      subst e_610
                      refine lv_icmp_ne (tgt := 620) hx hb dL_areFiles_613 (by decide) (fun c_613 => ?_) (fun c_613 => ?_)
                      · exact absurd (congrArg nI (show A.n + bu = cm by have := hk.2.2.2.2.1; omega)) c_613
                      · refine lv_iconst (v := nI (1)) hx hb dL_areFiles_616 (by decide) ?_
                        refine lv_goto (tgt := 621) hx hb dL_areFiles_617 (by decide) ?_
                        exact RET _ _ _ _ _ _ _ HX1423 dL_areFiles_621 (by decide) (⟨rfl, ⟨⟨rfl, hi_64.2.1, hi_64.2.2.2.1⟩, (fa_fr.tr fa_fr.rf (fa_fr.wide hi_64.2.2.1 (by omega) (by omega)))⟩⟩)
              · have hp : pl < A.n := fa_ltN (by omega) (by omega) c_71
                obtain ⟨kd, hkd, ekd⟩ := (hok.1.2.2.2.2.2 pl hp).1
                have hfil := hk.2.2.2.2.2.2.2.1 pl hp
                refine lv_iload hx hb dL_areFiles_74 (lv_at hl 4 rfl) ?_
                refine lv_if_eq (tgt := 573) hx hb dL_areFiles_76 (by decide) (fun c_76 => ?_) (fun c_76 => ?_)
                · exact absurd c_76 (by try decide)
                · refine lv_aload_n hx hb dL_areFiles_79 rfl (lv_at hl 0 rfl) ?_
                  refine lv_iload hx hb dL_areFiles_80 (lv_at hl 5 rfl) ?_
                  refine fa_callVip (As := [.int (nI (pl))]) (rest := []) CX HX1408 (g_fileAt l G n hn v1404 r hi_64.2.1 (nI (pl))) ln_L_19 (by omega) rfl rfl rfl rfl (Nat.le_of_ble_eq_true rfl) hl.1 ⟨Nat.le_of_ble_eq_true rfl, Nat.le_of_ble_eq_true rfl⟩ ⟨Nat.le_refl _, Nat.le_refl _⟩ dL_areFiles_82 (fun x1425 H locs h1424 HX1426 => ?_)
                  have h_fileAt := h1424
                  have e_82 : x1425 = A.F pl 0 := ((h_fileAt A hV_64.1 hV_64.2.2.1).trans (fc_fat1 hp hn24))
                  subst e_82
                  refine lv_istore (lv' := [(6, .int (A.F pl 0)), (0, .ref (fa_B G + (0))), (1, .int (pg)), (2, .int (rs)), (3, .int (la)), (4, .int (nI (1))), (5, .int (nI (pl)))]) hx hb dL_areFiles_85 hl (by decide) rfl (fun ls hl => ?_)
                  refine lv_aload_n hx hb dL_areFiles_87 rfl (lv_at hl 1 rfl) ?_
                  refine lv_iload hx hb dL_areFiles_88 (lv_at hl 0 rfl) ?_
                  refine lv_iconst (v := nI (3)) hx hb dL_areFiles_90 (by decide) ?_
                  refine fa_callVip (As := [.int (A.F pl 0), .int (nI (3))]) (rest := []) CX HX1426 (g_file l G n hn v1404 r hi_64.2.1 (A.F pl 0) (nI (3))) ln_L_9 (by omega) rfl rfl rfl rfl (Nat.le_of_ble_eq_true rfl) hl.1 ⟨Nat.le_of_ble_eq_true rfl, Nat.le_of_ble_eq_true rfl⟩ ⟨Nat.le_refl _, Nat.le_refl _⟩ dL_areFiles_91 (fun x1428 H locs h1427 HX1429 => ?_)
                  have h_file := h1427
                  have e_91 : x1428 = fb_m6 (A.F pl 4) := (((h_file A hV_64.1 hV_64.2.2.1).trans (fc_fil1 hok hp _)).trans (fb_filP_3 (by decide)))
                  subst e_91
                  refine lv_istore (lv' := [(7, .int (fb_m6 (A.F pl 4))), (6, .int (A.F pl 0)), (0, .ref (fa_B G + (0))), (1, .int (pg)), (2, .int (rs)), (3, .int (la)), (4, .int (nI (1))), (5, .int (nI (pl)))]) hx hb dL_areFiles_94 hl (by decide) rfl (fun ls hl => ?_)
                  refine lv_aload_n hx hb dL_areFiles_96 rfl (lv_at hl 2 rfl) ?_
                  refine lv_iload hx hb dL_areFiles_97 (lv_at hl 1 rfl) ?_
                  refine lv_iconst (v := nI (4)) hx hb dL_areFiles_99 (by decide) ?_
                  refine fa_callVip (As := [.int (A.F pl 0), .int (nI (4))]) (rest := []) CX HX1429 (g_file l G n hn v1404 r hi_64.2.1 (A.F pl 0) (nI (4))) ln_L_9 (by omega) rfl rfl rfl rfl (Nat.le_of_ble_eq_true rfl) hl.1 ⟨Nat.le_of_ble_eq_true rfl, Nat.le_of_ble_eq_true rfl⟩ ⟨Nat.le_refl _, Nat.le_refl _⟩ dL_areFiles_100 (fun x1431 H locs h1430 HX1432 => ?_)
                  have h_file := h1430
                  have e_100 : x1431 = A.F pl 5 := (((h_file A hV_64.1 hV_64.2.2.1).trans (fc_fil1 hok hp _)).trans (fb_filP_4 (by decide)))
                  subst e_100
                  refine lv_istore (lv' := [(8, .int (A.F pl 5)), (7, .int (fb_m6 (A.F pl 4))), (6, .int (A.F pl 0)), (0, .ref (fa_B G + (0))), (1, .int (pg)), (2, .int (rs)), (3, .int (la)), (4, .int (nI (1))), (5, .int (nI (pl)))]) hx hb dL_areFiles_103 hl (by decide) rfl (fun ls hl => ?_)
                  refine lv_aload_n hx hb dL_areFiles_105 rfl (lv_at hl 3 rfl) ?_
                  refine lv_aload_n hx hb dL_areFiles_106 rfl (lv_at hl 3 rfl) ?_
                  refine lv_iload hx hb dL_areFiles_107 (lv_at hl 2 rfl) ?_
                  refine lv_iconst (v := nI (0)) hx hb dL_areFiles_109 (by decide) ?_
                  refine fa_callVip (As := [.int (A.F pl 0), .int (nI (0))]) (rest := [.ref (fa_B G + (0))]) CX HX1432 (g_file l G n hn v1404 r hi_64.2.1 (A.F pl 0) (nI (0))) ln_L_9 (by omega) rfl rfl rfl rfl (Nat.le_of_ble_eq_true rfl) hl.1 ⟨Nat.le_of_ble_eq_true rfl, Nat.le_of_ble_eq_true rfl⟩ ⟨Nat.le_refl _, Nat.le_refl _⟩ dL_areFiles_110 (fun x1434 H locs h1433 HX1435 => ?_)
                  have h_file := h1433
                  have e_110 : x1434 = nI (kd) := ((((h_file A hV_64.1 hV_64.2.2.1).trans (fc_fil1 hok hp _)).trans (fb_filP_0 (by decide))).trans ekd)
                  subst e_110
                  refine fa_callVip (As := [.int (nI (kd))]) (rest := []) CX HX1435 (g_setting l G n hn v1404 r hi_64.2.1 (nI (kd))) ln_L_22 (by omega) rfl rfl rfl rfl (Nat.le_of_ble_eq_true rfl) hl.1 ⟨Nat.le_of_ble_eq_true rfl, Nat.le_of_ble_eq_true rfl⟩ ⟨Nat.le_refl _, Nat.le_refl _⟩ dL_areFiles_113 (fun x1437 H locs h1436 HX1438 => ?_)
                  have h_setting := h1436
                  have e_113 : x1437 = A.g kd := ((h_setting A hV_64.1 hV_64.2.2.1).trans (fc_stg (by omega)))
                  subst e_113
                  refine lv_iload hx hb dL_areFiles_116 (lv_at hl 0 rfl) ?_
                  refine lv_aload_n hx hb dL_areFiles_118 rfl (lv_at hl 3 rfl) ?_
                  refine lv_iconst (v := nI (5)) hx hb dL_areFiles_119 (by decide) ?_
                  refine fa_callVip (As := [.int (nI (5))]) (rest := [.int (A.F pl 5), .int (A.g kd)]) CX HX1438 (g_setting l G n hn v1404 r hi_64.2.1 (nI (5))) ln_L_22 (by omega) rfl rfl rfl rfl (Nat.le_of_ble_eq_true rfl) hl.1 ⟨Nat.le_of_ble_eq_true rfl, Nat.le_of_ble_eq_true rfl⟩ ⟨Nat.le_refl _, Nat.le_refl _⟩ dL_areFiles_120 (fun x1440 H locs h1439 HX1441 => ?_)
                  have h_setting := h1439
                  have e_120 : x1440 = A.g 5 := ((h_setting A hV_64.1 hV_64.2.2.1).trans (fc_stg (k := 5) (by decide)))
                  subst e_120
                  have JOIN_134 : ∀ (pe : Int32) (H : Heap) (locs : List Loc) (ls : Array Slot), (pe = if A.F pl 5 < A.g 5 then (A.g kd) * (nI (1)) else (A.g kd) * (nI (2))) → lv_has ls 16 [(0, .ref (fa_B G + (0))), (1, .int (pg)), (2, .int (rs)), (3, .int (la)), (4, .int (nI (1))), (5, .int (nI (pl))), (6, .int (A.F pl 0)), (7, .int (fb_m6 (A.F pl 4))), (8, .int (A.F pl 5)), (9, .int (pe))] → fa_HX G (n) v1404 r s H locs → W p l e (fa_rm 7) s m args below meth c H locs (0) (0) Q (F0 m 134 ls []) := by
                    intro pe H locs ls hi_134 hl HX1442
                    refine lv_iload hx hb dL_areFiles_134 (lv_at hl 9 rfl) ?_
                    refine lv_iload hx hb dL_areFiles_136 (lv_at hl 7 rfl) ?_
                    have JOIN_156 : ∀ (du : Int32) (H : Heap) (locs : List Loc) (ls : Array Slot), (du = fb_dueA A pl) → lv_has ls 16 [(0, .ref (fa_B G + (0))), (1, .int (pg)), (2, .int (rs)), (3, .int (la)), (4, .int (nI (1))), (5, .int (nI (pl))), (6, .int (A.F pl 0)), (7, .int (fb_m6 (A.F pl 4))), (8, .int (A.F pl 5)), (9, .int (pe)), (10, .int (du))] → fa_HX G (n) v1404 r s H locs → W p l e (fa_rm 7) s m args below meth c H locs (0) (0) Q (F0 m 156 ls []) := by
                      intro du H locs ls hi_156 hl HX1443
                      refine lv_iconst (v := nI (0)) hx hb dL_areFiles_156 (by decide) ?_
                      refine lv_istore (lv' := [(11, .int (nI (0))), (0, .ref (fa_B G + (0))), (1, .int (pg)), (2, .int (rs)), (3, .int (la)), (4, .int (nI (1))), (5, .int (nI (pl))), (6, .int (A.F pl 0)), (7, .int (fb_m6 (A.F pl 4))), (8, .int (A.F pl 5)), (9, .int (pe)), (10, .int (du))]) hx hb dL_areFiles_157 hl (by decide) rfl (fun ls hl => ?_)
                      refine lv_bipush (v := (-6 : Int32)) hx hb dL_areFiles_159 (by decide) ?_
                      refine lv_istore (lv' := [(12, .int ((-6 : Int32))), (11, .int (nI (0))), (0, .ref (fa_B G + (0))), (1, .int (pg)), (2, .int (rs)), (3, .int (la)), (4, .int (nI (1))), (5, .int (nI (pl))), (6, .int (A.F pl 0)), (7, .int (fb_m6 (A.F pl 4))), (8, .int (A.F pl 5)), (9, .int (pe)), (10, .int (du))]) hx hb dL_areFiles_161 hl (by decide) rfl (fun ls hl => ?_)
                      refine lv_iconst (v := nI (0)) hx hb dL_areFiles_163 (by decide) ?_
                      refine lv_istore (lv' := [(13, .int (nI (0))), (12, .int ((-6 : Int32))), (11, .int (nI (0))), (0, .ref (fa_B G + (0))), (1, .int (pg)), (2, .int (rs)), (3, .int (la)), (4, .int (nI (1))), (5, .int (nI (pl))), (6, .int (A.F pl 0)), (7, .int (fb_m6 (A.F pl 4))), (8, .int (A.F pl 5)), (9, .int (pe)), (10, .int (du))]) hx hb dL_areFiles_164 hl (by decide) rfl (fun ls hl => ?_)
                      refine lv_aload_n hx hb dL_areFiles_166 rfl (lv_at hl 3 rfl) ?_
                      refine lv_iconst (v := nI (0)) hx hb dL_areFiles_167 (by decide) ?_
                      refine fa_callVip (As := [.int (nI (0))]) (rest := []) CX HX1443 (g_count l G n hn v1404 r hi_64.2.1 (nI (0))) ln_L_15 (by omega) rfl rfl rfl rfl (Nat.le_of_ble_eq_true rfl) hl.1 ⟨Nat.le_of_ble_eq_true rfl, Nat.le_of_ble_eq_true rfl⟩ ⟨Nat.le_refl _, Nat.le_refl _⟩ dL_areFiles_168 (fun x1445 H locs h1444 HX1446 => ?_)
                      have h_count := h1444
                      have e_168 : x1445 = nI (A.n) := ((h_count A hV_64.1 hV_64.2.2.1).trans (fb_cntA_0 (by decide)))
                      subst e_168
                      refine lv_iconst (v := nI (1)) hx hb dL_areFiles_171 (by decide) ?_
                      refine lv_isub hx hb dL_areFiles_172 ?_
                      refine lv_istore (lv' := [(14, .int ((nI (A.n)) - (nI (1)))), (13, .int (nI (0))), (12, .int ((-6 : Int32))), (11, .int (nI (0))), (0, .ref (fa_B G + (0))), (1, .int (pg)), (2, .int (rs)), (3, .int (la)), (4, .int (nI (1))), (5, .int (nI (pl))), (6, .int (A.F pl 0)), (7, .int (fb_m6 (A.F pl 4))), (8, .int (A.F pl 5)), (9, .int (pe)), (10, .int (du))]) hx hb dL_areFiles_173 hl (by decide) rfl (fun ls hl => ?_)
                      have LOOP_175 : ∀ (fu : Nat) (kv : Int32) (kk : Nat) (rf : Int32) (kp : Int32) (v1447 : fa_V) (H : Heap) (locs : List Loc) (ls : Array Slot), kk < fu → (kv = nI kk - nI 1 ∧ kk ≤ A.n ∧ fa_CI v1447 r ∧ fa_fr 9 57 v1404 v1447 ∧ fa_rsn 1 v1404 v1447 ∧ fa_sum (fun k => if A.F k 6 = A.F pl 0 then 1 else 0) kk + rf = fb_refs A (A.F pl 0) ∧ fc_kq A (A.F pl 0) kk kp) → lv_has ls 16 [(0, .ref (fa_B G + (0))), (1, .int (pg)), (2, .int (rs)), (3, .int (la)), (4, .int (nI (1))), (5, .int (nI (pl))), (6, .int (A.F pl 0)), (7, .int (fb_m6 (A.F pl 4))), (8, .int (A.F pl 5)), (9, .int (pe)), (10, .int (du)), (11, .int (rf)), (12, .int (kp)), (13, .int (nI (0))), (14, .int (kv))] → fa_HX G (n) v1447 r s H locs → W p l e (fa_rm 7) s m args below meth c H locs (0) (0) Q (F0 m 175 ls []) := by
                        intro fu
                        induction fu with
                        | zero => intro kv kk rf kp v1447 H locs ls hk; exact absurd hk (Nat.not_lt_zero _)
                        | succ fu ih_175 =>
                          intro kv kk rf kp v1447 H locs ls hk_175 hi_175 hl HX1448
                          have hV_175 := hV_64.rsn hi_175.2.2.2.2.1 hi_175.2.2.2.1
                          refine lv_iload hx hb dL_areFiles_175 (lv_at hl 14 rfl) ?_
                          refine lv_if_lt (tgt := 255) hx hb dL_areFiles_177 (by decide) (fun c_177 => ?_) (fun c_177 => ?_)
                          · have hk0 := fc_kk0 (by have := hi_175.2.1; omega) hi_175.1 c_177
                            have hrf : rf = fb_refs A (A.F pl 0) := by
                              have z := hi_175.2.2.2.2.2.1
                              rw [hk0] at z
                              exact (Int32.zero_add rf).symm.trans z
                            have hkq : fc_kq A (A.F pl 0) 0 kp := by
                              have z := hi_175.2.2.2.2.2.2
                              rw [hk0] at z
                              exact z
                            refine lv_iconst (v := nI (0)) hx hb dL_areFiles_255 (by decide) ?_
                            refine lv_istore (lv' := [(14, .int (nI (0))), (0, .ref (fa_B G + (0))), (1, .int (pg)), (2, .int (rs)), (3, .int (la)), (4, .int (nI (1))), (5, .int (nI (pl))), (6, .int (A.F pl 0)), (7, .int (fb_m6 (A.F pl 4))), (8, .int (A.F pl 5)), (9, .int (pe)), (10, .int (du)), (11, .int (rf)), (12, .int (kp)), (13, .int (nI (0)))]) hx hb dL_areFiles_256 hl (by decide) rfl (fun ls hl => ?_)
                            have LOOP_258 : ∀ (fu : Nat) (hh : Nat) (se : Int32) (H : Heap) (locs : List Loc) (ls : Array Slot), 8 - hh < fu → (hh ≤ 8 ∧ se = fa_mask (fun h => decide (A.g 7 < A.F pl (7 + h))) hh) → lv_has ls 16 [(0, .ref (fa_B G + (0))), (1, .int (pg)), (2, .int (rs)), (3, .int (la)), (4, .int (nI (1))), (5, .int (nI (pl))), (6, .int (A.F pl 0)), (7, .int (fb_m6 (A.F pl 4))), (8, .int (A.F pl 5)), (9, .int (pe)), (10, .int (du)), (11, .int (rf)), (12, .int (kp)), (13, .int (se)), (14, .int (nI (hh)))] → fa_HX G (n) v1447 r s H locs → W p l e (fa_rm 7) s m args below meth c H locs (0) (0) Q (F0 m 258 ls []) := by
                              intro fu
                              induction fu with
                              | zero => intro hh se H locs ls hk; exact absurd hk (Nat.not_lt_zero _)
                              | succ fu ih_258 =>
                                intro hh se H locs ls hk_258 hi_258 hl HX1449
                                refine lv_iload hx hb dL_areFiles_258 (lv_at hl 14 rfl) ?_
                                refine lv_bipush (v := nI (8)) hx hb dL_areFiles_260 (by decide) ?_
                                refine lv_icmp_ge (tgt := 299) hx hb dL_areFiles_262 (by decide) (fun c_262 => ?_) (fun c_262 => ?_)
                                · have hse : se = fa_mask (fun h => decide (A.g 7 < A.F pl (7 + h))) 8 := by
                                    have h88 : hh = 8 := by
                                      have := fa_leN (by omega) (by omega) c_262
                                      have := hi_258.1
                                      omega
                                    rw [hi_258.2, h88]
                                  have hse2 : se = fb_maskA A pl := hse
                                  refine lv_iload hx hb dL_areFiles_299 (lv_at hl 10 rfl) ?_
                                  refine lv_aload_n hx hb dL_areFiles_301 rfl (lv_at hl 0 rfl) ?_
                                  refine fa_callVip (As := []) (rest := [.int (du)]) CX HX1449 (g_now l G n hn v1447 r hi_175.2.2.1 ) ln_L_31 (by omega) rfl rfl rfl rfl (Nat.le_of_ble_eq_true rfl) hl.1 ⟨Nat.le_of_ble_eq_true rfl, Nat.le_of_ble_eq_true rfl⟩ ⟨Nat.le_refl _, Nat.le_refl _⟩ dL_areFiles_302 (fun x1451 H locs h1450 HX1452 => ?_)
                                  have h_now := h1450
                                  have e_302 : x1451 = nI (dy) := ((h_now.trans hV_175.2.2.1.now).trans hk.1)
                                  subst e_302
                                  have JOIN_339 : ∀ (ow : Int32) (H : Heap) (locs : List Loc) (ls : Array Slot), (ow = fb_ownA A pl) → lv_has ls 16 [(0, .ref (fa_B G + (0))), (1, .int (pg)), (2, .int (rs)), (3, .int (la)), (4, .int (nI (1))), (5, .int (nI (pl))), (6, .int (A.F pl 0)), (7, .int (fb_m6 (A.F pl 4))), (8, .int (A.F pl 5)), (9, .int (pe)), (10, .int (du)), (11, .int (rf)), (12, .int (kp)), (13, .int (se)), (14, .int (ow))] → fa_HX G (n) v1447 r s H locs → W p l e (fa_rm 7) s m args below meth c H locs (0) (0) Q (F0 m 339 ls []) := by
                                    intro ow H locs ls hi_339 hl HX1453
                                    refine lv_aload_n hx hb dL_areFiles_339 rfl (lv_at hl 0 rfl) ?_
                                    refine lv_iload hx hb dL_areFiles_340 (lv_at hl 6 rfl) ?_
                                    refine fa_callViu (As := [.int (A.F pl 0)]) (rest := []) CX HX1453 (g_stays l G n hn v1447 r hi_175.2.2.1 (A.F pl 0)) ln_L_25 (by omega) rfl rfl rfl rfl (Nat.le_of_ble_eq_true rfl) hl.1 ⟨Nat.le_of_ble_eq_true rfl, Nat.le_of_ble_eq_true rfl⟩ ⟨Nat.le_refl _, Nat.le_refl _⟩ dL_areFiles_342 (fun x1455 v1456 H locs h1454 HX1457 => ?_)
                                    have hC_v1456 := h1454.1.2
                                    have h_stays := h1454.1.1
                                    have hV_342 := hV_175.rsn h_stays.1 h1454.2
                                    have hq_342 := h_stays.2 A hV_175.1 hV_175.2.2.1
                                    have e_342 : x1455 = fb_styA A (A.F pl 0) := hq_342.1
                                    subst e_342
                                    refine lv_istore (lv' := [(15, .int (fb_styA A (A.F pl 0))), (0, .ref (fa_B G + (0))), (1, .int (pg)), (2, .int (rs)), (3, .int (la)), (4, .int (nI (1))), (5, .int (nI (pl))), (6, .int (A.F pl 0)), (7, .int (fb_m6 (A.F pl 4))), (8, .int (A.F pl 5)), (9, .int (pe)), (10, .int (du)), (11, .int (rf)), (12, .int (kp)), (13, .int (se)), (14, .int (ow))]) hx hb dL_areFiles_345 hl (by decide) rfl (fun ls hl => ?_)
                                    refine lv_iload_n hx hb dL_areFiles_347 rfl (lv_at hl 2 rfl) ?_
                                    refine lv_aload_n hx hb dL_areFiles_348 rfl (lv_at hl 1 rfl) ?_
                                    refine lv_iload hx hb dL_areFiles_349 (lv_at hl 7 rfl) ?_
                                    refine lv_iconst (v := nI (1)) hx hb dL_areFiles_351 (by decide) ?_
                                    refine fa_callVip (As := [.int (A.F pl 0), .int (nI (1))]) (rest := [.int (pg)]) CX HX1457 (g_file l G n hn v1456 r hC_v1456 (A.F pl 0) (nI (1))) ln_L_9 (by omega) rfl rfl rfl rfl (Nat.le_of_ble_eq_true rfl) hl.1 ⟨Nat.le_of_ble_eq_true rfl, Nat.le_of_ble_eq_true rfl⟩ ⟨Nat.le_refl _, Nat.le_refl _⟩ dL_areFiles_352 (fun x1459 H locs h1458 HX1460 => ?_)
                                    have h_file := h1458
                                    have e_352 : x1459 = A.F pl 2 := (((h_file A hV_342.1 hV_342.2.2.1).trans (fc_fil1 hok hp _)).trans (fb_filP_1 (by decide)))
                                    subst e_352
                                    refine lv_iadd hx hb dL_areFiles_355 ?_
                                    refine lv_istore_n (lv' := [(1, .int ((pg) + (A.F pl 2))), (15, .int (fb_styA A (A.F pl 0))), (0, .ref (fa_B G + (0))), (2, .int (rs)), (3, .int (la)), (4, .int (nI (1))), (5, .int (nI (pl))), (6, .int (A.F pl 0)), (7, .int (fb_m6 (A.F pl 4))), (8, .int (A.F pl 5)), (9, .int (pe)), (10, .int (du)), (11, .int (rf)), (12, .int (kp)), (13, .int (se)), (14, .int (ow))]) hx hb dL_areFiles_356 rfl hl (by decide) rfl (fun ls hl => ?_)
                                    refine lv_iload_n hx hb dL_areFiles_357 rfl (lv_at hl 3 rfl) ?_
                                    refine lv_aload_n hx hb dL_areFiles_358 rfl (lv_at hl 2 rfl) ?_
                                    refine lv_iload hx hb dL_areFiles_359 (lv_at hl 7 rfl) ?_
                                    refine lv_bipush (v := nI (9)) hx hb dL_areFiles_361 (by decide) ?_
                                    refine fa_callVip (As := [.int (A.F pl 0), .int (nI (9))]) (rest := [.int (rs)]) CX HX1460 (g_file l G n hn v1456 r hC_v1456 (A.F pl 0) (nI (9))) ln_L_9 (by omega) rfl rfl rfl rfl (Nat.le_of_ble_eq_true rfl) hl.1 ⟨Nat.le_of_ble_eq_true rfl, Nat.le_of_ble_eq_true rfl⟩ ⟨Nat.le_refl _, Nat.le_refl _⟩ dL_areFiles_363 (fun x1462 H locs h1461 HX1463 => ?_)
                                    have h_file := h1461
                                    have e_363 : x1462 = fb_nres A (A.F pl 0) := (((h_file A hV_342.1 hV_342.2.2.1).trans (fc_fil1 hok hp _)).trans (fb_filP_9 (by decide)))
                                    subst e_363
                                    refine lv_iadd hx hb dL_areFiles_366 ?_
                                    refine lv_istore_n (lv' := [(2, .int ((rs) + (fb_nres A (A.F pl 0)))), (1, .int ((pg) + (A.F pl 2))), (15, .int (fb_styA A (A.F pl 0))), (0, .ref (fa_B G + (0))), (3, .int (la)), (4, .int (nI (1))), (5, .int (nI (pl))), (6, .int (A.F pl 0)), (7, .int (fb_m6 (A.F pl 4))), (8, .int (A.F pl 5)), (9, .int (pe)), (10, .int (du)), (11, .int (rf)), (12, .int (kp)), (13, .int (se)), (14, .int (ow))]) hx hb dL_areFiles_367 rfl hl (by decide) rfl (fun ls hl => ?_)
                                    refine lv_iload hx hb dL_areFiles_368 (lv_at hl 7 rfl) ?_
                                    refine lv_iload_n hx hb dL_areFiles_370 rfl (lv_at hl 4 rfl) ?_
                                    refine lv_icmp_le (tgt := 475) hx hb dL_areFiles_371 (by decide) (fun c_371 => ?_) (fun c_371 => ?_)
                                    · exact absurd c_371 (by rw [hi_64.2.2.2.2.2.2]; exact fc_last_lt hok hp)
                                    · refine lv_iload hx hb dL_areFiles_374 (lv_at hl 7 rfl) ?_
                                      refine lv_aload_n hx hb dL_areFiles_376 rfl (lv_at hl 3 rfl) ?_
                                      refine lv_iconst (v := nI (1)) hx hb dL_areFiles_377 (by decide) ?_
                                      refine fa_callVip (As := [.int (nI (1))]) (rest := [.int (A.F pl 0)]) CX HX1463 (g_count l G n hn v1456 r hC_v1456 (nI (1))) ln_L_15 (by omega) rfl rfl rfl rfl (Nat.le_of_ble_eq_true rfl) hl.1 ⟨Nat.le_of_ble_eq_true rfl, Nat.le_of_ble_eq_true rfl⟩ ⟨Nat.le_refl _, Nat.le_refl _⟩ dL_areFiles_378 (fun x1465 H locs h1464 HX1466 => ?_)
                                      have h_count := h1464
                                      have e_378 : x1465 = nI (cm) := (((h_count A hV_342.1 hV_342.2.2.1).trans (fb_cntA_1 (by decide))).trans hk.2.1)
                                      subst e_378
                                      refine lv_icmp_ge (tgt := 475) hx hb dL_areFiles_381 (by decide) (fun c_381 => ?_) (fun c_381 => ?_)
                                      · exact absurd c_381 (by rw [← hk.2.1]; exact Int32.not_le.mpr (hok.1.2.2.2.2.1 pl hp).2)
                                      · refine lv_aload_n hx hb dL_areFiles_384 rfl (lv_at hl 3 rfl) ?_
                                        refine lv_iload hx hb dL_areFiles_385 (lv_at hl 7 rfl) ?_
                                        refine lv_bipush (v := nI (6)) hx hb dL_areFiles_387 (by decide) ?_
                                        refine fa_callVip (As := [.int (A.F pl 0), .int (nI (6))]) (rest := []) CX HX1466 (g_file l G n hn v1456 r hC_v1456 (A.F pl 0) (nI (6))) ln_L_9 (by omega) rfl rfl rfl rfl (Nat.le_of_ble_eq_true rfl) hl.1 ⟨Nat.le_of_ble_eq_true rfl, Nat.le_of_ble_eq_true rfl⟩ ⟨Nat.le_refl _, Nat.le_refl _⟩ dL_areFiles_389 (fun x1468 H locs h1467 HX1469 => ?_)
                                        have h_file := h1467
                                        have e_389 : x1468 = fb_dueA A pl := (((h_file A hV_342.1 hV_342.2.2.1).trans (fc_fil1 hok hp _)).trans (fb_filP_6 (by decide)))
                                        subst e_389
                                        refine lv_iload hx hb dL_areFiles_392 (lv_at hl 11 rfl) ?_
                                        refine lv_icmp_ne (tgt := 475) hx hb dL_areFiles_394 (by decide) (fun c_394 => ?_) (fun c_394 => ?_)
                                        · exact absurd hi_156.symm c_394
                                        · refine lv_aload_n hx hb dL_areFiles_397 rfl (lv_at hl 3 rfl) ?_
                                          refine lv_iload hx hb dL_areFiles_398 (lv_at hl 7 rfl) ?_
                                          refine lv_bipush (v := nI (7)) hx hb dL_areFiles_400 (by decide) ?_
                                          refine fa_callVip (As := [.int (A.F pl 0), .int (nI (7))]) (rest := []) CX HX1469 (g_file l G n hn v1456 r hC_v1456 (A.F pl 0) (nI (7))) ln_L_9 (by omega) rfl rfl rfl rfl (Nat.le_of_ble_eq_true rfl) hl.1 ⟨Nat.le_of_ble_eq_true rfl, Nat.le_of_ble_eq_true rfl⟩ ⟨Nat.le_refl _, Nat.le_refl _⟩ dL_areFiles_402 (fun x1471 H locs h1470 HX1472 => ?_)
                                          have h_file := h1470
                                          have e_402 : x1471 = fb_maskA A pl := (((h_file A hV_342.1 hV_342.2.2.1).trans (fc_fil1 hok hp _)).trans (fb_filP_7 (by decide)))
                                          subst e_402
                                          refine lv_iload hx hb dL_areFiles_405 (lv_at hl 14 rfl) ?_
                                          refine lv_icmp_ne (tgt := 475) hx hb dL_areFiles_407 (by decide) (fun c_407 => ?_) (fun c_407 => ?_)
                                          · exact absurd hse2.symm c_407
                                          · refine lv_aload_n hx hb dL_areFiles_410 rfl (lv_at hl 3 rfl) ?_
                                            refine lv_iload hx hb dL_areFiles_411 (lv_at hl 7 rfl) ?_
                                            refine lv_bipush (v := nI (8)) hx hb dL_areFiles_413 (by decide) ?_
                                            refine fa_callVip (As := [.int (A.F pl 0), .int (nI (8))]) (rest := []) CX HX1472 (g_file l G n hn v1456 r hC_v1456 (A.F pl 0) (nI (8))) ln_L_9 (by omega) rfl rfl rfl rfl (Nat.le_of_ble_eq_true rfl) hl.1 ⟨Nat.le_of_ble_eq_true rfl, Nat.le_of_ble_eq_true rfl⟩ ⟨Nat.le_refl _, Nat.le_refl _⟩ dL_areFiles_415 (fun x1474 H locs h1473 HX1475 => ?_)
                                            have h_file := h1473
                                            have e_415 : x1474 = fb_refs A (A.F pl 0) := (((h_file A hV_342.1 hV_342.2.2.1).trans (fc_fil1 hok hp _)).trans (fb_filP_8 (by decide)))
                                            subst e_415
                                            refine lv_iload hx hb dL_areFiles_418 (lv_at hl 12 rfl) ?_
                                            refine lv_icmp_ne (tgt := 475) hx hb dL_areFiles_420 (by decide) (fun c_420 => ?_) (fun c_420 => ?_)
                                            · exact absurd hrf.symm c_420
                                            · have JOIN_448 : ∀  (H : Heap) (locs : List Loc) (ls : Array Slot), (True) → lv_has ls 16 [(0, .ref (fa_B G + (0))), (1, .int ((pg) + (A.F pl 2))), (2, .int ((rs) + (fb_nres A (A.F pl 0)))), (3, .int (la)), (4, .int (nI (1))), (5, .int (nI (pl))), (6, .int (A.F pl 0)), (7, .int (fb_m6 (A.F pl 4))), (8, .int (A.F pl 5)), (9, .int (pe)), (10, .int (du)), (11, .int (rf)), (12, .int (kp)), (13, .int (se)), (14, .int (ow)), (15, .int (fb_styA A (A.F pl 0)))] → fa_HX G (n) v1456 r s H locs → W p l e (fa_rm 7) s m args below meth c H locs (0) (0) Q (F0 m 448 ls []) := by
                                                intro  H locs ls hi_448 hl HX1476
                                                refine lv_iload hx hb dL_areFiles_448 (lv_at hl 7 rfl) ?_
                                                refine lv_aload_n hx hb dL_areFiles_450 rfl (lv_at hl 0 rfl) ?_
                                                refine fa_callVip (As := []) (rest := [.int (fb_m6 (A.F pl 4))]) CX HX1476 (g_now l G n hn v1456 r hC_v1456 ) ln_L_31 (by omega) rfl rfl rfl rfl (Nat.le_of_ble_eq_true rfl) hl.1 ⟨Nat.le_of_ble_eq_true rfl, Nat.le_of_ble_eq_true rfl⟩ ⟨Nat.le_refl _, Nat.le_refl _⟩ dL_areFiles_451 (fun x1478 H locs h1477 HX1479 => ?_)
                                                have h_now := h1477
                                                have e_451 : x1478 = nI (dy) := ((h_now.trans hV_342.2.2.1.now).trans hk.1)
                                                subst e_451
                                                refine lv_icmp_gt (tgt := 475) hx hb dL_areFiles_454 (by decide) (fun c_454 => ?_) (fun c_454 => ?_)
                                                · exact absurd c_454 (fc_asked hfil (by omega))
                                                · refine lv_aload_n hx hb dL_areFiles_457 rfl (lv_at hl 0 rfl) ?_
                                                  refine lv_iload hx hb dL_areFiles_458 (lv_at hl 6 rfl) ?_
                                                  refine lv_iconst (v := nI (2)) hx hb dL_areFiles_460 (by decide) ?_
                                                  refine fa_callVip (As := [.int (A.F pl 0), .int (nI (2))]) (rest := []) CX HX1479 (g_file l G n hn v1456 r hC_v1456 (A.F pl 0) (nI (2))) ln_L_9 (by omega) rfl rfl rfl rfl (Nat.le_of_ble_eq_true rfl) hl.1 ⟨Nat.le_of_ble_eq_true rfl, Nat.le_of_ble_eq_true rfl⟩ ⟨Nat.le_refl _, Nat.le_refl _⟩ dL_areFiles_461 (fun x1481 H locs h1480 HX1482 => ?_)
                                                  have h_file := h1480
                                                  have e_461 : x1481 = A.F pl 3 := (((h_file A hV_342.1 hV_342.2.2.1).trans (fc_fil1 hok hp _)).trans (fb_filP_2 (by decide)))
                                                  subst e_461
                                                  refine lv_aload_n hx hb dL_areFiles_464 rfl (lv_at hl 0 rfl) ?_
                                                  refine fa_callVip (As := []) (rest := [.int (A.F pl 3)]) CX HX1482 (g_now l G n hn v1456 r hC_v1456 ) ln_L_31 (by omega) rfl rfl rfl rfl (Nat.le_of_ble_eq_true rfl) hl.1 ⟨Nat.le_of_ble_eq_true rfl, Nat.le_of_ble_eq_true rfl⟩ ⟨Nat.le_refl _, Nat.le_refl _⟩ dL_areFiles_465 (fun x1484 H locs h1483 HX1485 => ?_)
                                                  have h_now := h1483
                                                  have e_465 : x1484 = nI (dy) := ((h_now.trans hV_342.2.2.1.now).trans hk.1)
                                                  subst e_465
                                                  refine lv_icmp_gt (tgt := 475) hx hb dL_areFiles_468 (by decide) (fun c_468 => ?_) (fun c_468 => ?_)
                                                  · exact absurd c_468 (fc_camed hfil (by omega))
                                                  · refine lv_iconst (v := nI (1)) hx hb dL_areFiles_471 (by decide) ?_
                                                    refine lv_goto (tgt := 476) hx hb dL_areFiles_472 (by decide) ?_
                                                    refine lv_istore (lv' := [(4, .int (nI (1))), (0, .ref (fa_B G + (0))), (1, .int ((pg) + (A.F pl 2))), (2, .int ((rs) + (fb_nres A (A.F pl 0)))), (3, .int (la)), (5, .int (nI (pl))), (6, .int (A.F pl 0)), (7, .int (fb_m6 (A.F pl 4))), (8, .int (A.F pl 5)), (9, .int (pe)), (10, .int (du)), (11, .int (rf)), (12, .int (kp)), (13, .int (se)), (14, .int (ow)), (15, .int (fb_styA A (A.F pl 0)))]) hx hb dL_areFiles_476 hl (by decide) rfl (fun ls hl => ?_)
                                                    refine lv_iload hx hb dL_areFiles_478 (lv_at hl 0 rfl) ?_
                                                    refine lv_if_eq (tgt := 561) hx hb dL_areFiles_480 (by decide) (fun c_480 => ?_) (fun c_480 => ?_)
                                                    · exact absurd c_480 (by try decide)
                                                    · refine lv_iload hx hb dL_areFiles_483 (lv_at hl 14 rfl) ?_
                                                      refine lv_if_le (tgt := 509) hx hb dL_areFiles_485 (by decide) (fun c_485 => ?_) (fun c_485 => ?_)
                                                      · have hz := (fc_kq1 hok hp hkq).2 (fc_own_le (by rw [← hi_339]; exact c_485))
                                                        refine lv_iload hx hb dL_areFiles_509 (lv_at hl 15 rfl) ?_
                                                        refine lv_if_ne (tgt := 535) hx hb dL_areFiles_511 (by decide) (fun c_511 => ?_) (fun c_511 => ?_)
                                                        · have hz4 := hz.resolve_left (fun y => c_511 y.1)
                                                          refine lv_iload hx hb dL_areFiles_535 (lv_at hl 15 rfl) ?_
                                                          refine lv_iconst (v := nI (4)) hx hb dL_areFiles_537 (by decide) ?_
                                                          refine lv_icmp_ne (tgt := 561) hx hb dL_areFiles_538 (by decide) (fun c_538 => ?_) (fun c_538 => ?_)
                                                          · exact absurd hz4.1 c_538
                                                          · refine lv_aload_n hx hb dL_areFiles_541 rfl (lv_at hl 1 rfl) ?_
                                                            refine lv_iload hx hb dL_areFiles_542 (lv_at hl 6 rfl) ?_
                                                            refine fa_callViu (As := [.int (A.F pl 0)]) (rest := []) CX HX1485 (g_keeper l G n hn v1456 r hC_v1456 (A.F pl 0)) ln_L_35 (by omega) rfl rfl rfl rfl (Nat.le_of_ble_eq_true rfl) hl.1 ⟨Nat.le_of_ble_eq_true rfl, Nat.le_of_ble_eq_true rfl⟩ ⟨Nat.le_refl _, Nat.le_refl _⟩ dL_areFiles_544 (fun x1487 v1488 H locs h1486 HX1489 => ?_)
                                                            have hC_v1488 := h1486.1.2
                                                            have h_keeper := h1486.1.1
                                                            have hV_544 := hV_342.rsn h_keeper.1 h1486.2
                                                            have hq_544 := h_keeper.2 A hV_342.1 hV_342.2.2.1
                                                            have e_544 : x1487 = fb_kprA A (A.F pl 0) := hq_544
                                                            subst e_544
                                                            refine lv_iload hx hb dL_areFiles_547 (lv_at hl 12 rfl) ?_
                                                            refine lv_icmp_ne (tgt := 561) hx hb dL_areFiles_549 (by decide) (fun c_549 => ?_) (fun c_549 => ?_)
                                                            · exact absurd hz4.2.1 c_549
                                                            · refine lv_iload hx hb dL_areFiles_552 (lv_at hl 12 rfl) ?_
                                                              refine lv_if_lt (tgt := 561) hx hb dL_areFiles_554 (by decide) (fun c_554 => ?_) (fun c_554 => ?_)
                                                              · exact absurd c_554 (Int32.not_lt.mpr hz4.2.2)
                                                              · refine lv_iconst (v := nI (1)) hx hb dL_areFiles_557 (by decide) ?_
                                                                refine lv_goto (tgt := 562) hx hb dL_areFiles_558 (by decide) ?_
                                                                refine lv_istore (lv' := [(4, .int (nI (1))), (0, .ref (fa_B G + (0))), (1, .int ((pg) + (A.F pl 2))), (2, .int ((rs) + (fb_nres A (A.F pl 0)))), (3, .int (la)), (5, .int (nI (pl))), (6, .int (A.F pl 0)), (7, .int (fb_m6 (A.F pl 4))), (8, .int (A.F pl 5)), (9, .int (pe)), (10, .int (du)), (11, .int (rf)), (12, .int (kp)), (13, .int (se)), (14, .int (ow)), (15, .int (fb_styA A (A.F pl 0)))]) hx hb dL_areFiles_562 hl (by decide) rfl (fun ls hl => ?_)
                                                                refine lv_iload hx hb dL_areFiles_564 (lv_at hl 6 rfl) ?_
                                                                refine lv_istore_n (lv' := [(3, .int (A.F pl 0)), (4, .int (nI (1))), (0, .ref (fa_B G + (0))), (1, .int ((pg) + (A.F pl 2))), (2, .int ((rs) + (fb_nres A (A.F pl 0)))), (5, .int (nI (pl))), (6, .int (A.F pl 0)), (7, .int (fb_m6 (A.F pl 4))), (8, .int (A.F pl 5)), (9, .int (pe)), (10, .int (du)), (11, .int (rf)), (12, .int (kp)), (13, .int (se)), (14, .int (ow)), (15, .int (fb_styA A (A.F pl 0)))]) hx hb dL_areFiles_566 rfl hl (by decide) rfl (fun ls hl => ?_)
                                                                refine lv_iinc (v := nI (pl + 1)) (lv' := [(5, .int (nI (pl + 1))), (3, .int (A.F pl 0)), (4, .int (nI (1))), (0, .ref (fa_B G + (0))), (1, .int ((pg) + (A.F pl 2))), (2, .int ((rs) + (fb_nres A (A.F pl 0)))), (6, .int (A.F pl 0)), (7, .int (fb_m6 (A.F pl 4))), (8, .int (A.F pl 5)), (9, .int (pe)), (10, .int (du)), (11, .int (rf)), (12, .int (kp)), (13, .int (se)), (14, .int (ow)), (15, .int (fb_styA A (A.F pl 0)))]) hx hb dL_areFiles_567 hl (k := 5) rfl (nI_add (pl) 1) (by decide) rfl (fun ls hl => ?_)
                                                                refine lv_goto (tgt := 64) hx hb dL_areFiles_570 (by decide) ?_
                                                                exact ih_64 (pl + 1) ((pg) + (A.F pl 2)) ((rs) + (fb_nres A (A.F pl 0))) (A.F pl 0) v1488 _ _ _ (by omega) (⟨by omega, hC_v1488, (fa_fr.tr (fa_fr.tr (fa_fr.tr (fa_fr.tr fa_fr.rf (fa_fr.wide hi_64.2.2.1 (by omega) (by omega))) (fa_fr.wide hi_175.2.2.2.1 (by omega) (by omega))) (fa_fr.wide h1454.2 (by omega) (by omega))) (fa_fr.wide h1486.2 (by omega) (by omega))), (((hi_64.2.2.2.1.tr hi_175.2.2.2.2.1).tr h_stays.1).tr h_keeper.1), by rw [hi_64.2.2.2.2.1]; rfl, by rw [hi_64.2.2.2.2.2.1]; rfl, (show _ = fc_last A (pl + 1) from (if_neg (Nat.succ_ne_zero pl)).symm)⟩) (lv_sub hl [3, 4, 5, 1, 2, 0] rfl) HX1489
                                                        · have hz0 := hz.resolve_right (fun y => absurd (y.1.symm.trans (by first | exact c_511 | exact Decidable.not_not.mp c_511)) (by decide))
                                                          refine lv_iload hx hb dL_areFiles_514 (lv_at hl 12 rfl) ?_
                                                          refine lv_bipush (v := (-6 : Int32)) hx hb dL_areFiles_516 (by decide) ?_
                                                          refine lv_icmp_ne (tgt := 561) hx hb dL_areFiles_518 (by decide) (fun c_518 => ?_) (fun c_518 => ?_)
                                                          · exact absurd hz0.2.1 c_518
                                                          · refine lv_aload_n hx hb dL_areFiles_521 rfl (lv_at hl 1 rfl) ?_
                                                            refine lv_iload hx hb dL_areFiles_522 (lv_at hl 6 rfl) ?_
                                                            refine fa_callViu (As := [.int (A.F pl 0)]) (rest := []) CX HX1485 (g_keeper l G n hn v1456 r hC_v1456 (A.F pl 0)) ln_L_35 (by omega) rfl rfl rfl rfl (Nat.le_of_ble_eq_true rfl) hl.1 ⟨Nat.le_of_ble_eq_true rfl, Nat.le_of_ble_eq_true rfl⟩ ⟨Nat.le_refl _, Nat.le_refl _⟩ dL_areFiles_524 (fun x1491 v1492 H locs h1490 HX1493 => ?_)
                                                            have hC_v1492 := h1490.1.2
                                                            have h_keeper := h1490.1.1
                                                            have hV_524 := hV_342.rsn h_keeper.1 h1490.2
                                                            have hq_524 := h_keeper.2 A hV_342.1 hV_342.2.2.1
                                                            have e_524 : x1491 = fb_kprA A (A.F pl 0) := hq_524
                                                            subst e_524
                                                            refine lv_bipush (v := (-6 : Int32)) hx hb dL_areFiles_527 (by decide) ?_
                                                            refine lv_icmp_ne (tgt := 561) hx hb dL_areFiles_529 (by decide) (fun c_529 => ?_) (fun c_529 => ?_)
                                                            · exact absurd hz0.2.2 c_529
                                                            · refine lv_goto (tgt := 557) hx hb dL_areFiles_532 (by decide) ?_
                                                              refine lv_iconst (v := nI (1)) hx hb dL_areFiles_557 (by decide) ?_
                                                              refine lv_goto (tgt := 562) hx hb dL_areFiles_558 (by decide) ?_
                                                              refine lv_istore (lv' := [(4, .int (nI (1))), (0, .ref (fa_B G + (0))), (1, .int ((pg) + (A.F pl 2))), (2, .int ((rs) + (fb_nres A (A.F pl 0)))), (3, .int (la)), (5, .int (nI (pl))), (6, .int (A.F pl 0)), (7, .int (fb_m6 (A.F pl 4))), (8, .int (A.F pl 5)), (9, .int (pe)), (10, .int (du)), (11, .int (rf)), (12, .int (kp)), (13, .int (se)), (14, .int (ow)), (15, .int (fb_styA A (A.F pl 0)))]) hx hb dL_areFiles_562 hl (by decide) rfl (fun ls hl => ?_)
                                                              refine lv_iload hx hb dL_areFiles_564 (lv_at hl 6 rfl) ?_
                                                              refine lv_istore_n (lv' := [(3, .int (A.F pl 0)), (4, .int (nI (1))), (0, .ref (fa_B G + (0))), (1, .int ((pg) + (A.F pl 2))), (2, .int ((rs) + (fb_nres A (A.F pl 0)))), (5, .int (nI (pl))), (6, .int (A.F pl 0)), (7, .int (fb_m6 (A.F pl 4))), (8, .int (A.F pl 5)), (9, .int (pe)), (10, .int (du)), (11, .int (rf)), (12, .int (kp)), (13, .int (se)), (14, .int (ow)), (15, .int (fb_styA A (A.F pl 0)))]) hx hb dL_areFiles_566 rfl hl (by decide) rfl (fun ls hl => ?_)
                                                              refine lv_iinc (v := nI (pl + 1)) (lv' := [(5, .int (nI (pl + 1))), (3, .int (A.F pl 0)), (4, .int (nI (1))), (0, .ref (fa_B G + (0))), (1, .int ((pg) + (A.F pl 2))), (2, .int ((rs) + (fb_nres A (A.F pl 0)))), (6, .int (A.F pl 0)), (7, .int (fb_m6 (A.F pl 4))), (8, .int (A.F pl 5)), (9, .int (pe)), (10, .int (du)), (11, .int (rf)), (12, .int (kp)), (13, .int (se)), (14, .int (ow)), (15, .int (fb_styA A (A.F pl 0)))]) hx hb dL_areFiles_567 hl (k := 5) rfl (nI_add (pl) 1) (by decide) rfl (fun ls hl => ?_)
                                                              refine lv_goto (tgt := 64) hx hb dL_areFiles_570 (by decide) ?_
                                                              exact ih_64 (pl + 1) ((pg) + (A.F pl 2)) ((rs) + (fb_nres A (A.F pl 0))) (A.F pl 0) v1492 _ _ _ (by omega) (⟨by omega, hC_v1492, (fa_fr.tr (fa_fr.tr (fa_fr.tr (fa_fr.tr fa_fr.rf (fa_fr.wide hi_64.2.2.1 (by omega) (by omega))) (fa_fr.wide hi_175.2.2.2.1 (by omega) (by omega))) (fa_fr.wide h1454.2 (by omega) (by omega))) (fa_fr.wide h1490.2 (by omega) (by omega))), (((hi_64.2.2.2.1.tr hi_175.2.2.2.2.1).tr h_stays.1).tr h_keeper.1), by rw [hi_64.2.2.2.2.1]; rfl, by rw [hi_64.2.2.2.2.2.1]; rfl, (show _ = fc_last A (pl + 1) from (if_neg (Nat.succ_ne_zero pl)).symm)⟩) (lv_sub hl [3, 4, 5, 1, 2, 0] rfl) HX1493
                                                      · refine lv_iload hx hb dL_areFiles_488 (lv_at hl 15 rfl) ?_
                                                        refine lv_iload hx hb dL_areFiles_490 (lv_at hl 14 rfl) ?_
                                                        refine lv_icmp_ne (tgt := 561) hx hb dL_areFiles_492 (by decide) (fun c_492 => ?_) (fun c_492 => ?_)
                                                        · exact absurd (((fc_kq1 hok hp hkq).1 (fc_own_pos (by rw [← hi_339]; exact c_485))).1.trans hi_339.symm) c_492
                                                        · refine lv_aload_n hx hb dL_areFiles_495 rfl (lv_at hl 1 rfl) ?_
                                                          refine lv_iload hx hb dL_areFiles_496 (lv_at hl 6 rfl) ?_
                                                          refine fa_callViu (As := [.int (A.F pl 0)]) (rest := []) CX HX1485 (g_keeper l G n hn v1456 r hC_v1456 (A.F pl 0)) ln_L_35 (by omega) rfl rfl rfl rfl (Nat.le_of_ble_eq_true rfl) hl.1 ⟨Nat.le_of_ble_eq_true rfl, Nat.le_of_ble_eq_true rfl⟩ ⟨Nat.le_refl _, Nat.le_refl _⟩ dL_areFiles_498 (fun x1495 v1496 H locs h1494 HX1497 => ?_)
                                                          have hC_v1496 := h1494.1.2
                                                          have h_keeper := h1494.1.1
                                                          have hV_498 := hV_342.rsn h_keeper.1 h1494.2
                                                          have hq_498 := h_keeper.2 A hV_342.1 hV_342.2.2.1
                                                          have e_498 : x1495 = fb_kprA A (A.F pl 0) := hq_498
                                                          subst e_498
                                                          refine lv_bipush (v := (-6 : Int32)) hx hb dL_areFiles_501 (by decide) ?_
                                                          refine lv_icmp_ne (tgt := 561) hx hb dL_areFiles_503 (by decide) (fun c_503 => ?_) (fun c_503 => ?_)
                                                          · exact absurd ((fc_kq1 hok hp hkq).1 (fc_own_pos (by rw [← hi_339]; exact c_485))).2 c_503
                                                          · refine lv_goto (tgt := 557) hx hb dL_areFiles_506 (by decide) ?_
                                                            refine lv_iconst (v := nI (1)) hx hb dL_areFiles_557 (by decide) ?_
                                                            refine lv_goto (tgt := 562) hx hb dL_areFiles_558 (by decide) ?_
                                                            refine lv_istore (lv' := [(4, .int (nI (1))), (0, .ref (fa_B G + (0))), (1, .int ((pg) + (A.F pl 2))), (2, .int ((rs) + (fb_nres A (A.F pl 0)))), (3, .int (la)), (5, .int (nI (pl))), (6, .int (A.F pl 0)), (7, .int (fb_m6 (A.F pl 4))), (8, .int (A.F pl 5)), (9, .int (pe)), (10, .int (du)), (11, .int (rf)), (12, .int (kp)), (13, .int (se)), (14, .int (ow)), (15, .int (fb_styA A (A.F pl 0)))]) hx hb dL_areFiles_562 hl (by decide) rfl (fun ls hl => ?_)
                                                            refine lv_iload hx hb dL_areFiles_564 (lv_at hl 6 rfl) ?_
                                                            refine lv_istore_n (lv' := [(3, .int (A.F pl 0)), (4, .int (nI (1))), (0, .ref (fa_B G + (0))), (1, .int ((pg) + (A.F pl 2))), (2, .int ((rs) + (fb_nres A (A.F pl 0)))), (5, .int (nI (pl))), (6, .int (A.F pl 0)), (7, .int (fb_m6 (A.F pl 4))), (8, .int (A.F pl 5)), (9, .int (pe)), (10, .int (du)), (11, .int (rf)), (12, .int (kp)), (13, .int (se)), (14, .int (ow)), (15, .int (fb_styA A (A.F pl 0)))]) hx hb dL_areFiles_566 rfl hl (by decide) rfl (fun ls hl => ?_)
                                                            refine lv_iinc (v := nI (pl + 1)) (lv' := [(5, .int (nI (pl + 1))), (3, .int (A.F pl 0)), (4, .int (nI (1))), (0, .ref (fa_B G + (0))), (1, .int ((pg) + (A.F pl 2))), (2, .int ((rs) + (fb_nres A (A.F pl 0)))), (6, .int (A.F pl 0)), (7, .int (fb_m6 (A.F pl 4))), (8, .int (A.F pl 5)), (9, .int (pe)), (10, .int (du)), (11, .int (rf)), (12, .int (kp)), (13, .int (se)), (14, .int (ow)), (15, .int (fb_styA A (A.F pl 0)))]) hx hb dL_areFiles_567 hl (k := 5) rfl (nI_add (pl) 1) (by decide) rfl (fun ls hl => ?_)
                                                            refine lv_goto (tgt := 64) hx hb dL_areFiles_570 (by decide) ?_
                                                            exact ih_64 (pl + 1) ((pg) + (A.F pl 2)) ((rs) + (fb_nres A (A.F pl 0))) (A.F pl 0) v1496 _ _ _ (by omega) (⟨by omega, hC_v1496, (fa_fr.tr (fa_fr.tr (fa_fr.tr (fa_fr.tr fa_fr.rf (fa_fr.wide hi_64.2.2.1 (by omega) (by omega))) (fa_fr.wide hi_175.2.2.2.1 (by omega) (by omega))) (fa_fr.wide h1454.2 (by omega) (by omega))) (fa_fr.wide h1494.2 (by omega) (by omega))), (((hi_64.2.2.2.1.tr hi_175.2.2.2.2.1).tr h_stays.1).tr h_keeper.1), by rw [hi_64.2.2.2.2.1]; rfl, by rw [hi_64.2.2.2.2.2.1]; rfl, (show _ = fc_last A (pl + 1) from (if_neg (Nat.succ_ne_zero pl)).symm)⟩) (lv_sub hl [3, 4, 5, 1, 2, 0] rfl) HX1497
                                              refine lv_iload hx hb dL_areFiles_423 (lv_at hl 8 rfl) ?_
                                              refine lv_bipush (v := (-6 : Int32)) hx hb dL_areFiles_425 (by decide) ?_
                                              refine lv_icmp_ne (tgt := 434) hx hb dL_areFiles_427 (by decide) (fun c_427 => ?_) (fun c_427 => ?_)
                                              · refine lv_iconst (v := nI (0)) hx hb dL_areFiles_434 (by decide) ?_
                                                refine lv_iload hx hb dL_areFiles_435 (lv_at hl 9 rfl) ?_
                                                refine lv_if_ne (tgt := 444) hx hb dL_areFiles_437 (by decide) (fun c_437 => ?_) (fun c_437 => ?_)
                                                · refine lv_iconst (v := nI (0)) hx hb dL_areFiles_444 (by decide) ?_
                                                  refine lv_icmp_ne (tgt := 475) hx hb dL_areFiles_445 (by decide) (fun c_445 => ?_) (fun c_445 => ?_)
                                                  · exact absurd (by try decide) c_445
                                                  · exact JOIN_448   _ _ _ (trivial) (lv_sub hl [3, 1, 0, 4, 5, 6, 7, 8, 9, 10, 11, 12, 13, 14, 15, 2] rfl) HX1475
                                                · exact absurd c_437 (fc_at_t hfil c_427 (by omega))
                                              · refine lv_iconst (v := nI (1)) hx hb dL_areFiles_430 (by decide) ?_
                                                refine lv_goto (tgt := 435) hx hb dL_areFiles_431 (by decide) ?_
                                                refine lv_iload hx hb dL_areFiles_435 (lv_at hl 9 rfl) ?_
                                                refine lv_if_ne (tgt := 444) hx hb dL_areFiles_437 (by decide) (fun c_437 => ?_) (fun c_437 => ?_)
                                                · exact absurd (fc_at_f hfil (by first | exact c_427 | exact Decidable.not_not.mp c_427) (by omega)) c_437
                                                · refine lv_iconst (v := nI (1)) hx hb dL_areFiles_440 (by decide) ?_
                                                  refine lv_goto (tgt := 445) hx hb dL_areFiles_441 (by decide) ?_
                                                  refine lv_icmp_ne (tgt := 475) hx hb dL_areFiles_445 (by decide) (fun c_445 => ?_) (fun c_445 => ?_)
                                                  · exact absurd (by try decide) c_445
                                                  · exact JOIN_448   _ _ _ (trivial) (lv_sub hl [3, 1, 0, 4, 5, 6, 7, 8, 9, 10, 11, 12, 13, 14, 15, 2] rfl) HX1475
                                  refine lv_icmp_le (tgt := 312) hx hb dL_areFiles_305 (by decide) (fun c_305 => ?_) (fun c_305 => ?_)
                                  · refine lv_iload hx hb dL_areFiles_312 (lv_at hl 13 rfl) ?_
                                    refine lv_if_le (tgt := 321) hx hb dL_areFiles_314 (by decide) (fun c_314 => ?_) (fun c_314 => ?_)
                                    · refine lv_aload_n hx hb dL_areFiles_321 rfl (lv_at hl 0 rfl) ?_
                                      refine lv_iload hx hb dL_areFiles_322 (lv_at hl 6 rfl) ?_
                                      refine lv_bipush (v := nI (9)) hx hb dL_areFiles_324 (by decide) ?_
                                      refine fa_callVip (As := [.int (A.F pl 0), .int (nI (9))]) (rest := []) CX HX1452 (g_file l G n hn v1447 r hi_175.2.2.1 (A.F pl 0) (nI (9))) ln_L_9 (by omega) rfl rfl rfl rfl (Nat.le_of_ble_eq_true rfl) hl.1 ⟨Nat.le_of_ble_eq_true rfl, Nat.le_of_ble_eq_true rfl⟩ ⟨Nat.le_refl _, Nat.le_refl _⟩ dL_areFiles_326 (fun x1499 H locs h1498 HX1500 => ?_)
                                      have h_file := h1498
                                      have e_326 : x1499 = fb_nres A (A.F pl 0) := (((h_file A hV_175.1 hV_175.2.2.1).trans (fc_fil1 hok hp _)).trans (fb_filP_9 (by decide)))
                                      subst e_326
                                      refine lv_if_le (tgt := 336) hx hb dL_areFiles_329 (by decide) (fun c_329 => ?_) (fun c_329 => ?_)
                                      · refine lv_iconst (v := nI (0)) hx hb dL_areFiles_336 (by decide) ?_
                                        refine lv_istore (lv' := [(14, .int (nI (0))), (0, .ref (fa_B G + (0))), (1, .int (pg)), (2, .int (rs)), (3, .int (la)), (4, .int (nI (1))), (5, .int (nI (pl))), (6, .int (A.F pl 0)), (7, .int (fb_m6 (A.F pl 4))), (8, .int (A.F pl 5)), (9, .int (pe)), (10, .int (du)), (11, .int (rf)), (12, .int (kp)), (13, .int (se))]) hx hb dL_areFiles_337 hl (by decide) rfl (fun ls hl => ?_)
                                        exact JOIN_339 (nI (0))  _ _ _ (fc_own_0 (by rw [hk.1, ← hi_156]; exact c_305) ((fc_mask0 _).mp (by rw [← hse]; exact c_314)) c_329) (lv_sub hl [1, 2, 3, 4, 5, 6, 7, 8, 9, 10, 11, 12, 13, 14, 0] rfl) HX1500
                                      · refine lv_iconst (v := nI (3)) hx hb dL_areFiles_332 (by decide) ?_
                                        refine lv_goto (tgt := 337) hx hb dL_areFiles_333 (by decide) ?_
                                        refine lv_istore (lv' := [(14, .int (nI (3))), (0, .ref (fa_B G + (0))), (1, .int (pg)), (2, .int (rs)), (3, .int (la)), (4, .int (nI (1))), (5, .int (nI (pl))), (6, .int (A.F pl 0)), (7, .int (fb_m6 (A.F pl 4))), (8, .int (A.F pl 5)), (9, .int (pe)), (10, .int (du)), (11, .int (rf)), (12, .int (kp)), (13, .int (se))]) hx hb dL_areFiles_337 hl (by decide) rfl (fun ls hl => ?_)
                                        exact JOIN_339 (nI (3))  _ _ _ (fc_own_3 (by rw [hk.1, ← hi_156]; exact c_305) ((fc_mask0 _).mp (by rw [← hse]; exact c_314)) c_329) (lv_sub hl [1, 2, 3, 4, 5, 6, 7, 8, 9, 10, 11, 12, 13, 14, 0] rfl) HX1500
                                    · refine lv_iconst (v := nI (2)) hx hb dL_areFiles_317 (by decide) ?_
                                      refine lv_goto (tgt := 337) hx hb dL_areFiles_318 (by decide) ?_
                                      refine lv_istore (lv' := [(14, .int (nI (2))), (0, .ref (fa_B G + (0))), (1, .int (pg)), (2, .int (rs)), (3, .int (la)), (4, .int (nI (1))), (5, .int (nI (pl))), (6, .int (A.F pl 0)), (7, .int (fb_m6 (A.F pl 4))), (8, .int (A.F pl 5)), (9, .int (pe)), (10, .int (du)), (11, .int (rf)), (12, .int (kp)), (13, .int (se))]) hx hb dL_areFiles_337 hl (by decide) rfl (fun ls hl => ?_)
                                      exact JOIN_339 (nI (2))  _ _ _ (fc_own_2 (by rw [hk.1, ← hi_156]; exact c_305) (fun z => c_314 (by rw [hse2]; exact (fc_mask0 _).mpr z))) (lv_sub hl [1, 2, 3, 4, 5, 6, 7, 8, 9, 10, 11, 12, 13, 14, 0] rfl) HX1452
                                  · refine lv_iconst (v := nI (1)) hx hb dL_areFiles_308 (by decide) ?_
                                    refine lv_goto (tgt := 337) hx hb dL_areFiles_309 (by decide) ?_
                                    refine lv_istore (lv' := [(14, .int (nI (1))), (0, .ref (fa_B G + (0))), (1, .int (pg)), (2, .int (rs)), (3, .int (la)), (4, .int (nI (1))), (5, .int (nI (pl))), (6, .int (A.F pl 0)), (7, .int (fb_m6 (A.F pl 4))), (8, .int (A.F pl 5)), (9, .int (pe)), (10, .int (du)), (11, .int (rf)), (12, .int (kp)), (13, .int (se))]) hx hb dL_areFiles_337 hl (by decide) rfl (fun ls hl => ?_)
                                    exact JOIN_339 (nI (1))  _ _ _ (fc_own_t (by rw [hk.1, ← hi_156]; exact c_305)) (lv_sub hl [1, 2, 3, 4, 5, 6, 7, 8, 9, 10, 11, 12, 13, 14, 0] rfl) HX1452
                                · have h8 : hh < 8 := fa_ltN (by omega) (by omega) c_262
                                  refine lv_iload hx hb dL_areFiles_265 (lv_at hl 13 rfl) ?_
                                  refine lv_aload_n hx hb dL_areFiles_267 rfl (lv_at hl 0 rfl) ?_
                                  refine lv_iload hx hb dL_areFiles_268 (lv_at hl 14 rfl) ?_
                                  refine lv_iload hx hb dL_areFiles_270 (lv_at hl 6 rfl) ?_
                                  refine fa_callVip (As := [.int (nI (hh)), .int (A.F pl 0)]) (rest := [.int (se)]) CX HX1449 (g_sealOf l G n hn v1447 r hi_175.2.2.1 (nI (hh)) (A.F pl 0)) ln_L_28 (by omega) rfl rfl rfl rfl (Nat.le_of_ble_eq_true rfl) hl.1 ⟨Nat.le_of_ble_eq_true rfl, Nat.le_of_ble_eq_true rfl⟩ ⟨Nat.le_refl _, Nat.le_refl _⟩ dL_areFiles_272 (fun x1502 H locs h1501 HX1503 => ?_)
                                  have h_sealOf := h1501
                                  have e_272 : x1502 = fb_sloA A (nI (hh)) (A.F pl 0) := (h_sealOf A hV_175.1 hV_175.2.2.1)
                                  subst e_272
                                  refine lv_aload_n hx hb dL_areFiles_275 rfl (lv_at hl 0 rfl) ?_
                                  refine fa_callVip (As := []) (rest := [.int (fb_sloA A (nI (hh)) (A.F pl 0)), .int (se)]) CX HX1503 (g_now l G n hn v1447 r hi_175.2.2.1 ) ln_L_31 (by omega) rfl rfl rfl rfl (Nat.le_of_ble_eq_true rfl) hl.1 ⟨Nat.le_of_ble_eq_true rfl, Nat.le_of_ble_eq_true rfl⟩ ⟨Nat.le_refl _, Nat.le_refl _⟩ dL_areFiles_276 (fun x1505 H locs h1504 HX1506 => ?_)
                                  have h_now := h1504
                                  have e_276 : x1505 = nI (dy) := ((h_now.trans hV_175.2.2.1.now).trans hk.1)
                                  subst e_276
                                  refine lv_icmp_lt (tgt := 289) hx hb dL_areFiles_279 (by decide) (fun c_279 => ?_) (fun c_279 => ?_)
                                  · refine lv_iconst (v := nI (0)) hx hb dL_areFiles_289 (by decide) ?_
                                    refine lv_ior hx hb dL_areFiles_290 ?_
                                    refine lv_istore (lv' := [(13, .int ((se) ||| (nI (0)))), (0, .ref (fa_B G + (0))), (1, .int (pg)), (2, .int (rs)), (3, .int (la)), (4, .int (nI (1))), (5, .int (nI (pl))), (6, .int (A.F pl 0)), (7, .int (fb_m6 (A.F pl 4))), (8, .int (A.F pl 5)), (9, .int (pe)), (10, .int (du)), (11, .int (rf)), (12, .int (kp)), (14, .int (nI (hh)))]) hx hb dL_areFiles_291 hl (by decide) rfl (fun ls hl => ?_)
                                    refine lv_iinc (v := nI (hh + 1)) (lv' := [(14, .int (nI (hh + 1))), (13, .int ((se) ||| (nI (0)))), (0, .ref (fa_B G + (0))), (1, .int (pg)), (2, .int (rs)), (3, .int (la)), (4, .int (nI (1))), (5, .int (nI (pl))), (6, .int (A.F pl 0)), (7, .int (fb_m6 (A.F pl 4))), (8, .int (A.F pl 5)), (9, .int (pe)), (10, .int (du)), (11, .int (rf)), (12, .int (kp))]) hx hb dL_areFiles_293 hl (k := 14) rfl (nI_add (hh) 1) (by decide) rfl (fun ls hl => ?_)
                                    refine lv_goto (tgt := 258) hx hb dL_areFiles_296 (by decide) ?_
                                    exact ih_258 (hh + 1) ((se) ||| (nI (0)))  _ _ _ (by omega) (⟨by omega, by rw [hi_258.2]; exact fc_mask_f (fun z => Int32.not_le.mpr c_279 ((fc_seal hok hp h8 hk.1 (by omega)).mpr (of_decide_eq_true z)))⟩) (lv_sub hl [2, 3, 4, 5, 6, 7, 8, 9, 10, 11, 12, 13, 14, 1, 0] rfl) HX1506
                                  · refine lv_iconst (v := nI (1)) hx hb dL_areFiles_282 (by decide) ?_
                                    refine lv_iload hx hb dL_areFiles_283 (lv_at hl 14 rfl) ?_
                                    refine lv_ishl hx hb dL_areFiles_285 ?_
                                    refine lv_goto (tgt := 290) hx hb dL_areFiles_286 (by decide) ?_
                                    refine lv_ior hx hb dL_areFiles_290 ?_
                                    refine lv_istore (lv' := [(13, .int ((se) ||| ((nI (1)) <<< ((nI (hh)) &&& 31)))), (0, .ref (fa_B G + (0))), (1, .int (pg)), (2, .int (rs)), (3, .int (la)), (4, .int (nI (1))), (5, .int (nI (pl))), (6, .int (A.F pl 0)), (7, .int (fb_m6 (A.F pl 4))), (8, .int (A.F pl 5)), (9, .int (pe)), (10, .int (du)), (11, .int (rf)), (12, .int (kp)), (14, .int (nI (hh)))]) hx hb dL_areFiles_291 hl (by decide) rfl (fun ls hl => ?_)
                                    refine lv_iinc (v := nI (hh + 1)) (lv' := [(14, .int (nI (hh + 1))), (13, .int ((se) ||| ((nI (1)) <<< ((nI (hh)) &&& 31)))), (0, .ref (fa_B G + (0))), (1, .int (pg)), (2, .int (rs)), (3, .int (la)), (4, .int (nI (1))), (5, .int (nI (pl))), (6, .int (A.F pl 0)), (7, .int (fb_m6 (A.F pl 4))), (8, .int (A.F pl 5)), (9, .int (pe)), (10, .int (du)), (11, .int (rf)), (12, .int (kp))]) hx hb dL_areFiles_293 hl (k := 14) rfl (nI_add (hh) 1) (by decide) rfl (fun ls hl => ?_)
                                    refine lv_goto (tgt := 258) hx hb dL_areFiles_296 (by decide) ?_
                                    exact ih_258 (hh + 1) ((se) ||| ((nI (1)) <<< ((nI (hh)) &&& 31)))  _ _ _ (by omega) (⟨by omega, by rw [hi_258.2]; exact fa_mask_t (decide_eq_true ((fc_seal hok hp h8 hk.1 (by omega)).mp (Int32.not_lt.mp c_279)))⟩) (lv_sub hl [2, 3, 4, 5, 6, 7, 8, 9, 10, 11, 12, 13, 14, 1, 0] rfl) HX1506
                            exact LOOP_258 (8 - 0 + 1) (0) (nI (0))  _ _ _ (Nat.lt_succ_self _) (⟨Nat.zero_le _, rfl⟩) (lv_sub hl [1, 2, 3, 4, 5, 6, 7, 8, 9, 10, 11, 12, 13, 14, 0] rfl) HX1448
                          · obtain ⟨jj, ejj, ejk⟩ := fc_pred (by omega) (show ¬ (nI kk - nI 1 : Int32) < 0 from by rw [← hi_175.1]; exact c_177)
                            have ejk := hi_175.1.trans ejk
                            have hjj : jj < A.n := by
                              have := hi_175.2.1
                              omega
                            refine lv_aload_n hx hb dL_areFiles_180 rfl (lv_at hl 0 rfl) ?_
                            refine lv_aload_n hx hb dL_areFiles_181 rfl (lv_at hl 0 rfl) ?_
                            refine lv_iload hx hb dL_areFiles_182 (lv_at hl 14 rfl) ?_
                            rw [show kv = nI (jj) from ejk]
                            refine fa_callVip (As := [.int (nI (jj))]) (rest := [.ref (fa_B G + (0))]) CX HX1448 (g_fileAt l G n hn v1447 r hi_175.2.2.1 (nI (jj))) ln_L_19 (by omega) rfl rfl rfl rfl (Nat.le_of_ble_eq_true rfl) hl.1 ⟨Nat.le_of_ble_eq_true rfl, Nat.le_of_ble_eq_true rfl⟩ ⟨Nat.le_refl _, Nat.le_refl _⟩ dL_areFiles_184 (fun x1508 H locs h1507 HX1509 => ?_)
                            have h_fileAt := h1507
                            have e_184 : x1508 = A.F jj 0 := ((h_fileAt A hV_175.1 hV_175.2.2.1).trans (fc_fat1 hjj hn24))
                            subst e_184
                            refine lv_iconst (v := nI (5)) hx hb dL_areFiles_187 (by decide) ?_
                            refine fa_callVip (As := [.int (A.F jj 0), .int (nI (5))]) (rest := []) CX HX1509 (g_file l G n hn v1447 r hi_175.2.2.1 (A.F jj 0) (nI (5))) ln_L_9 (by omega) rfl rfl rfl rfl (Nat.le_of_ble_eq_true rfl) hl.1 ⟨Nat.le_of_ble_eq_true rfl, Nat.le_of_ble_eq_true rfl⟩ ⟨Nat.le_refl _, Nat.le_refl _⟩ dL_areFiles_188 (fun x1511 H locs h1510 HX1512 => ?_)
                            have h_file := h1510
                            have e_188 : x1511 = fb_m6 (A.F jj 6) := (((h_file A hV_175.1 hV_175.2.2.1).trans (fc_fil1 hok hjj _)).trans (fb_filP_5 (by decide)))
                            subst e_188
                            refine lv_iload hx hb dL_areFiles_191 (lv_at hl 6 rfl) ?_
                            refine lv_icmp_ne (tgt := 200) hx hb dL_areFiles_193 (by decide) (fun c_193 => ?_) (fun c_193 => ?_)
                            · refine lv_iconst (v := nI (0)) hx hb dL_areFiles_200 (by decide) ?_
                              refine lv_istore (lv' := [(15, .int (nI (0))), (0, .ref (fa_B G + (0))), (1, .int (pg)), (2, .int (rs)), (3, .int (la)), (4, .int (nI (1))), (5, .int (nI (pl))), (6, .int (A.F pl 0)), (7, .int (fb_m6 (A.F pl 4))), (8, .int (A.F pl 5)), (9, .int (pe)), (10, .int (du)), (11, .int (rf)), (12, .int (kp)), (13, .int (nI (0))), (14, .int (kv))]) hx hb dL_areFiles_201 hl (by decide) rfl (fun ls hl => ?_)
                              refine lv_iload hx hb dL_areFiles_203 (lv_at hl 12 rfl) ?_
                              refine lv_iload hx hb dL_areFiles_205 (lv_at hl 0 rfl) ?_
                              refine lv_if_eq (tgt := 214) hx hb dL_areFiles_207 (by decide) (fun c_207 => ?_) (fun c_207 => ?_)
                              · refine lv_iconst (v := nI (0)) hx hb dL_areFiles_214 (by decide) ?_
                                refine lv_iadd hx hb dL_areFiles_215 ?_
                                refine lv_istore (lv' := [(11, .int ((rf) + (nI (0)))), (15, .int (nI (0))), (0, .ref (fa_B G + (0))), (1, .int (pg)), (2, .int (rs)), (3, .int (la)), (4, .int (nI (1))), (5, .int (nI (pl))), (6, .int (A.F pl 0)), (7, .int (fb_m6 (A.F pl 4))), (8, .int (A.F pl 5)), (9, .int (pe)), (10, .int (du)), (12, .int (kp)), (13, .int (nI (0))), (14, .int (kv))]) hx hb dL_areFiles_216 hl (by decide) rfl (fun ls hl => ?_)
                                refine lv_iload hx hb dL_areFiles_218 (lv_at hl 1 rfl) ?_
                                refine lv_if_eq (tgt := 245) hx hb dL_areFiles_220 (by decide) (fun c_220 => ?_) (fun c_220 => ?_)
                                · refine lv_iload hx hb dL_areFiles_245 (lv_at hl 13 rfl) ?_
                                  refine lv_istore (lv' := [(12, .int (kp)), (11, .int ((rf) + (nI (0)))), (15, .int (nI (0))), (0, .ref (fa_B G + (0))), (1, .int (pg)), (2, .int (rs)), (3, .int (la)), (4, .int (nI (1))), (5, .int (nI (pl))), (6, .int (A.F pl 0)), (7, .int (fb_m6 (A.F pl 4))), (8, .int (A.F pl 5)), (9, .int (pe)), (10, .int (du)), (13, .int (nI (0))), (14, .int (kv))]) hx hb dL_areFiles_247 hl (by decide) rfl (fun ls hl => ?_)
                                  refine lv_iinc (v := kv + (-1)) (lv' := [(14, .int (kv + (-1))), (12, .int (kp)), (11, .int ((rf) + (nI (0)))), (15, .int (nI (0))), (0, .ref (fa_B G + (0))), (1, .int (pg)), (2, .int (rs)), (3, .int (la)), (4, .int (nI (1))), (5, .int (nI (pl))), (6, .int (A.F pl 0)), (7, .int (fb_m6 (A.F pl 4))), (8, .int (A.F pl 5)), (9, .int (pe)), (10, .int (du)), (13, .int (nI (0)))]) hx hb dL_areFiles_249 hl (k := 15) rfl rfl (by decide) rfl (fun ls hl => ?_)
                                  refine lv_goto (tgt := 175) hx hb dL_areFiles_252 (by decide) ?_
                                  exact ih_175 (kv + (-1)) (jj) ((rf) + (nI (0))) (kp) v1447 _ _ _ (by omega) (⟨(by rw [ejk]; exact fc_predS jj), by omega, hi_175.2.2.1, (fa_fr.tr fa_fr.rf (fa_fr.wide hi_175.2.2.2.1 (by omega) (by omega))), hi_175.2.2.2.2.1, (by have z : fa_sum (fun k => if A.F k 6 = A.F pl 0 then 1 else 0) jj + (rf + (if A.F jj 6 = A.F pl 0 then 1 else 0)) = fb_refs A (A.F pl 0) := fc_sum_dn (f := fun k => if A.F k 6 = A.F pl 0 then 1 else 0) (by have z := hi_175.2.2.2.2.2.1; rw [ejj] at z; exact z); rw [if_neg (fun y => c_193 ((fc_m6_iff (hok.npos hp)).mpr y))] at z; exact z), (by have hq := hi_175.2.2.2.2.2.2; rw [ejj] at hq; exact hq.no (fun y => c_193 ((fc_m6_iff (hok.npos hp)).mpr y.1)))⟩) (lv_sub hl [4, 5, 6, 7, 8, 9, 10, 11, 12, 13, 14, 2, 1, 15, 0] rfl) HX1512
                                · exact absurd (by try decide) c_220
                              · exact absurd (by try decide) c_207
                            · refine lv_iconst (v := nI (1)) hx hb dL_areFiles_196 (by decide) ?_
                              refine lv_goto (tgt := 201) hx hb dL_areFiles_197 (by decide) ?_
                              refine lv_istore (lv' := [(15, .int (nI (1))), (0, .ref (fa_B G + (0))), (1, .int (pg)), (2, .int (rs)), (3, .int (la)), (4, .int (nI (1))), (5, .int (nI (pl))), (6, .int (A.F pl 0)), (7, .int (fb_m6 (A.F pl 4))), (8, .int (A.F pl 5)), (9, .int (pe)), (10, .int (du)), (11, .int (rf)), (12, .int (kp)), (13, .int (nI (0))), (14, .int (kv))]) hx hb dL_areFiles_201 hl (by decide) rfl (fun ls hl => ?_)
                              refine lv_iload hx hb dL_areFiles_203 (lv_at hl 12 rfl) ?_
                              refine lv_iload hx hb dL_areFiles_205 (lv_at hl 0 rfl) ?_
                              refine lv_if_eq (tgt := 214) hx hb dL_areFiles_207 (by decide) (fun c_207 => ?_) (fun c_207 => ?_)
                              · exact absurd c_207 (by try decide)
                              · refine lv_iconst (v := nI (1)) hx hb dL_areFiles_210 (by decide) ?_
                                refine lv_goto (tgt := 215) hx hb dL_areFiles_211 (by decide) ?_
                                refine lv_iadd hx hb dL_areFiles_215 ?_
                                refine lv_istore (lv' := [(11, .int ((rf) + (nI (1)))), (15, .int (nI (1))), (0, .ref (fa_B G + (0))), (1, .int (pg)), (2, .int (rs)), (3, .int (la)), (4, .int (nI (1))), (5, .int (nI (pl))), (6, .int (A.F pl 0)), (7, .int (fb_m6 (A.F pl 4))), (8, .int (A.F pl 5)), (9, .int (pe)), (10, .int (du)), (12, .int (kp)), (13, .int (nI (0))), (14, .int (kv))]) hx hb dL_areFiles_216 hl (by decide) rfl (fun ls hl => ?_)
                                refine lv_iload hx hb dL_areFiles_218 (lv_at hl 1 rfl) ?_
                                refine lv_if_eq (tgt := 245) hx hb dL_areFiles_220 (by decide) (fun c_220 => ?_) (fun c_220 => ?_)
                                · exact absurd c_220 (by try decide)
                                · refine lv_aload_n hx hb dL_areFiles_223 rfl (lv_at hl 2 rfl) ?_
                                  refine lv_aload_n hx hb dL_areFiles_224 rfl (lv_at hl 2 rfl) ?_
                                  refine lv_iload hx hb dL_areFiles_225 (lv_at hl 15 rfl) ?_
                                  rw [show kv = nI (jj) from ejk]
                                  refine fa_callVip (As := [.int (nI (jj))]) (rest := [.ref (fa_B G + (0))]) CX HX1512 (g_fileAt l G n hn v1447 r hi_175.2.2.1 (nI (jj))) ln_L_19 (by omega) rfl rfl rfl rfl (Nat.le_of_ble_eq_true rfl) hl.1 ⟨Nat.le_of_ble_eq_true rfl, Nat.le_of_ble_eq_true rfl⟩ ⟨Nat.le_refl _, Nat.le_refl _⟩ dL_areFiles_227 (fun x1514 H locs h1513 HX1515 => ?_)
                                  have h_fileAt := h1513
                                  have e_227 : x1514 = A.F jj 0 := ((h_fileAt A hV_175.1 hV_175.2.2.1).trans (fc_fat1 hjj hn24))
                                  subst e_227
                                  refine fa_callViu (As := [.int (A.F jj 0)]) (rest := []) CX HX1515 (g_stays l G n hn v1447 r hi_175.2.2.1 (A.F jj 0)) ln_L_25 (by omega) rfl rfl rfl rfl (Nat.le_of_ble_eq_true rfl) hl.1 ⟨Nat.le_of_ble_eq_true rfl, Nat.le_of_ble_eq_true rfl⟩ ⟨Nat.le_refl _, Nat.le_refl _⟩ dL_areFiles_230 (fun x1517 v1518 H locs h1516 HX1519 => ?_)
                                  have hC_v1518 := h1516.1.2
                                  have h_stays := h1516.1.1
                                  have hV_230 := hV_175.rsn h_stays.1 h1516.2
                                  have hq_230 := h_stays.2 A hV_175.1 hV_175.2.2.1
                                  have e_230 : x1517 = fb_styA A (A.F jj 0) := hq_230.1
                                  subst e_230
                                  refine lv_if_le (tgt := 245) hx hb dL_areFiles_233 (by decide) (fun c_233 => ?_) (fun c_233 => ?_)
                                  · refine lv_iload hx hb dL_areFiles_245 (lv_at hl 13 rfl) ?_
                                    refine lv_istore (lv' := [(12, .int (kp)), (11, .int ((rf) + (nI (1)))), (15, .int (nI (1))), (0, .ref (fa_B G + (0))), (1, .int (pg)), (2, .int (rs)), (3, .int (la)), (4, .int (nI (1))), (5, .int (nI (pl))), (6, .int (A.F pl 0)), (7, .int (fb_m6 (A.F pl 4))), (8, .int (A.F pl 5)), (9, .int (pe)), (10, .int (du)), (13, .int (nI (0))), (14, .int (kv))]) hx hb dL_areFiles_247 hl (by decide) rfl (fun ls hl => ?_)
                                    refine lv_iinc (v := kv + (-1)) (lv' := [(14, .int (kv + (-1))), (12, .int (kp)), (11, .int ((rf) + (nI (1)))), (15, .int (nI (1))), (0, .ref (fa_B G + (0))), (1, .int (pg)), (2, .int (rs)), (3, .int (la)), (4, .int (nI (1))), (5, .int (nI (pl))), (6, .int (A.F pl 0)), (7, .int (fb_m6 (A.F pl 4))), (8, .int (A.F pl 5)), (9, .int (pe)), (10, .int (du)), (13, .int (nI (0)))]) hx hb dL_areFiles_249 hl (k := 15) rfl rfl (by decide) rfl (fun ls hl => ?_)
                                    refine lv_goto (tgt := 175) hx hb dL_areFiles_252 (by decide) ?_
                                    exact ih_175 (kv + (-1)) (jj) ((rf) + (nI (1))) (kp) v1518 _ _ _ (by omega) (⟨(by rw [ejk]; exact fc_predS jj), by omega, hC_v1518, (fa_fr.tr (fa_fr.tr fa_fr.rf (fa_fr.wide hi_175.2.2.2.1 (by omega) (by omega))) (fa_fr.wide h1516.2 (by omega) (by omega))), (hi_175.2.2.2.2.1.tr h_stays.1), (by have z : fa_sum (fun k => if A.F k 6 = A.F pl 0 then 1 else 0) jj + (rf + (if A.F jj 6 = A.F pl 0 then 1 else 0)) = fb_refs A (A.F pl 0) := fc_sum_dn (f := fun k => if A.F k 6 = A.F pl 0 then 1 else 0) (by have z := hi_175.2.2.2.2.2.1; rw [ejj] at z; exact z); rw [if_pos ((fc_m6_iff (hok.npos hp)).mp (by first | exact c_193 | exact Decidable.not_not.mp c_193))] at z; exact z), (by have hq := hi_175.2.2.2.2.2.2; rw [ejj] at hq; exact hq.no (fun y => Int32.not_lt.mpr (by rw [← fc_sty hok hjj]; exact c_233) ((fc_stay hjj).mpr y.2)))⟩) (lv_sub hl [4, 5, 6, 7, 8, 9, 10, 11, 12, 13, 14, 2, 1, 15, 0] rfl) HX1519
                                  · refine lv_aload_n hx hb dL_areFiles_236 rfl (lv_at hl 2 rfl) ?_
                                    refine lv_iload hx hb dL_areFiles_237 (lv_at hl 15 rfl) ?_
                                    rw [show kv = nI (jj) from ejk]
                                    refine fa_callVip (As := [.int (nI (jj))]) (rest := []) CX HX1519 (g_fileAt l G n hn v1518 r hC_v1518 (nI (jj))) ln_L_19 (by omega) rfl rfl rfl rfl (Nat.le_of_ble_eq_true rfl) hl.1 ⟨Nat.le_of_ble_eq_true rfl, Nat.le_of_ble_eq_true rfl⟩ ⟨Nat.le_refl _, Nat.le_refl _⟩ dL_areFiles_239 (fun x1521 H locs h1520 HX1522 => ?_)
                                    have h_fileAt := h1520
                                    have e_239 : x1521 = A.F jj 0 := ((h_fileAt A hV_230.1 hV_230.2.2.1).trans (fc_fat1 hjj hn24))
                                    subst e_239
                                    refine lv_goto (tgt := 247) hx hb dL_areFiles_242 (by decide) ?_
                                    refine lv_istore (lv' := [(12, .int (A.F jj 0)), (11, .int ((rf) + (nI (1)))), (15, .int (nI (1))), (0, .ref (fa_B G + (0))), (1, .int (pg)), (2, .int (rs)), (3, .int (la)), (4, .int (nI (1))), (5, .int (nI (pl))), (6, .int (A.F pl 0)), (7, .int (fb_m6 (A.F pl 4))), (8, .int (A.F pl 5)), (9, .int (pe)), (10, .int (du)), (13, .int (nI (0))), (14, .int (kv))]) hx hb dL_areFiles_247 hl (by decide) rfl (fun ls hl => ?_)
                                    refine lv_iinc (v := kv + (-1)) (lv' := [(14, .int (kv + (-1))), (12, .int (A.F jj 0)), (11, .int ((rf) + (nI (1)))), (15, .int (nI (1))), (0, .ref (fa_B G + (0))), (1, .int (pg)), (2, .int (rs)), (3, .int (la)), (4, .int (nI (1))), (5, .int (nI (pl))), (6, .int (A.F pl 0)), (7, .int (fb_m6 (A.F pl 4))), (8, .int (A.F pl 5)), (9, .int (pe)), (10, .int (du)), (13, .int (nI (0)))]) hx hb dL_areFiles_249 hl (k := 15) rfl rfl (by decide) rfl (fun ls hl => ?_)
                                    refine lv_goto (tgt := 175) hx hb dL_areFiles_252 (by decide) ?_
                                    exact ih_175 (kv + (-1)) (jj) ((rf) + (nI (1))) (A.F jj 0) v1518 _ _ _ (by omega) (⟨(by rw [ejk]; exact fc_predS jj), by omega, hC_v1518, (fa_fr.tr (fa_fr.tr fa_fr.rf (fa_fr.wide hi_175.2.2.2.1 (by omega) (by omega))) (fa_fr.wide h1516.2 (by omega) (by omega))), (hi_175.2.2.2.2.1.tr h_stays.1), (by have z : fa_sum (fun k => if A.F k 6 = A.F pl 0 then 1 else 0) jj + (rf + (if A.F jj 6 = A.F pl 0 then 1 else 0)) = fb_refs A (A.F pl 0) := fc_sum_dn (f := fun k => if A.F k 6 = A.F pl 0 then 1 else 0) (by have z := hi_175.2.2.2.2.2.1; rw [ejj] at z; exact z); rw [if_pos ((fc_m6_iff (hok.npos hp)).mp (by first | exact c_193 | exact Decidable.not_not.mp c_193))] at z; exact z), (fc_kq.yes hjj ⟨((fc_m6_iff (hok.npos hp)).mp (by first | exact c_193 | exact Decidable.not_not.mp c_193)), (fc_stay hjj).mp (by rw [← fc_sty hok hjj]; exact Int32.not_le.mp c_233)⟩ rfl)⟩) (lv_sub hl [4, 5, 6, 7, 8, 9, 10, 11, 12, 13, 14, 2, 1, 15, 0] rfl) HX1522
                      exact LOOP_175 (A.n + 1) ((nI (A.n)) - (nI (1))) (A.n) (nI (0)) ((-6 : Int32)) v1404 _ _ _ (Nat.lt_succ_self _) (⟨rfl, Nat.le_refl _, hi_64.2.1, fa_fr.rf, fa_rsn.rf, Int32.add_zero _, fc_kq.start rfl⟩) (lv_sub hl [4, 5, 6, 7, 8, 9, 10, 11, 12, 13, 14, 3, 2, 1, 0] rfl) HX1446
                    refine lv_if_ge (tgt := 151) hx hb dL_areFiles_138 (by decide) (fun c_138 => ?_) (fun c_138 => ?_)
                    · refine lv_iload hx hb dL_areFiles_151 (lv_at hl 7 rfl) ?_
                      refine lv_iadd hx hb dL_areFiles_153 ?_
                      refine lv_istore (lv' := [(10, .int ((pe) + (fb_m6 (A.F pl 4)))), (0, .ref (fa_B G + (0))), (1, .int (pg)), (2, .int (rs)), (3, .int (la)), (4, .int (nI (1))), (5, .int (nI (pl))), (6, .int (A.F pl 0)), (7, .int (fb_m6 (A.F pl 4))), (8, .int (A.F pl 5)), (9, .int (pe))]) hx hb dL_areFiles_154 hl (by decide) rfl (fun ls hl => ?_)
                      exact JOIN_156 ((pe) + (fb_m6 (A.F pl 4)))  _ _ _ (fc_due_t hok hp ekd hkd hi_134 c_138) (lv_sub hl [1, 2, 3, 4, 5, 6, 7, 8, 9, 10, 0] rfl) HX1442
                    · refine lv_aload_n hx hb dL_areFiles_141 rfl (lv_at hl 0 rfl) ?_
                      refine lv_iload hx hb dL_areFiles_142 (lv_at hl 6 rfl) ?_
                      refine lv_iconst (v := nI (2)) hx hb dL_areFiles_144 (by decide) ?_
                      refine fa_callVip (As := [.int (A.F pl 0), .int (nI (2))]) (rest := [.int (pe)]) CX HX1442 (g_file l G n hn v1404 r hi_64.2.1 (A.F pl 0) (nI (2))) ln_L_9 (by omega) rfl rfl rfl rfl (Nat.le_of_ble_eq_true rfl) hl.1 ⟨Nat.le_of_ble_eq_true rfl, Nat.le_of_ble_eq_true rfl⟩ ⟨Nat.le_refl _, Nat.le_refl _⟩ dL_areFiles_145 (fun x1524 H locs h1523 HX1525 => ?_)
                      have h_file := h1523
                      have e_145 : x1524 = A.F pl 3 := (((h_file A hV_64.1 hV_64.2.2.1).trans (fc_fil1 hok hp _)).trans (fb_filP_2 (by decide)))
                      subst e_145
                      refine lv_goto (tgt := 153) hx hb dL_areFiles_148 (by decide) ?_
                      refine lv_iadd hx hb dL_areFiles_153 ?_
                      refine lv_istore (lv' := [(10, .int ((pe) + (A.F pl 3))), (0, .ref (fa_B G + (0))), (1, .int (pg)), (2, .int (rs)), (3, .int (la)), (4, .int (nI (1))), (5, .int (nI (pl))), (6, .int (A.F pl 0)), (7, .int (fb_m6 (A.F pl 4))), (8, .int (A.F pl 5)), (9, .int (pe))]) hx hb dL_areFiles_154 hl (by decide) rfl (fun ls hl => ?_)
                      exact JOIN_156 ((pe) + (A.F pl 3))  _ _ _ (fc_due_f hok hp ekd hkd hi_134 c_138) (lv_sub hl [1, 2, 3, 4, 5, 6, 7, 8, 9, 10, 0] rfl) HX1525
                  refine lv_icmp_lt (tgt := 130) hx hb dL_areFiles_123 (by decide) (fun c_123 => ?_) (fun c_123 => ?_)
                  · refine lv_iconst (v := nI (1)) hx hb dL_areFiles_130 (by decide) ?_
                    refine lv_imul hx hb dL_areFiles_131 ?_
                    refine lv_istore (lv' := [(9, .int ((A.g kd) * (nI (1)))), (8, .int (A.F pl 5)), (7, .int (fb_m6 (A.F pl 4))), (6, .int (A.F pl 0)), (0, .ref (fa_B G + (0))), (1, .int (pg)), (2, .int (rs)), (3, .int (la)), (4, .int (nI (1))), (5, .int (nI (pl)))]) hx hb dL_areFiles_132 hl (by decide) rfl (fun ls hl => ?_)
                    exact JOIN_134 ((A.g kd) * (nI (1)))  _ _ _ ((if_pos c_123).symm) (lv_sub hl [4, 5, 6, 7, 8, 9, 3, 2, 1, 0] rfl) HX1441
                  · refine lv_iconst (v := nI (2)) hx hb dL_areFiles_126 (by decide) ?_
                    refine lv_goto (tgt := 131) hx hb dL_areFiles_127 (by decide) ?_
                    refine lv_imul hx hb dL_areFiles_131 ?_
                    refine lv_istore (lv' := [(9, .int ((A.g kd) * (nI (2)))), (8, .int (A.F pl 5)), (7, .int (fb_m6 (A.F pl 4))), (6, .int (A.F pl 0)), (0, .ref (fa_B G + (0))), (1, .int (pg)), (2, .int (rs)), (3, .int (la)), (4, .int (nI (1))), (5, .int (nI (pl)))]) hx hb dL_areFiles_132 hl (by decide) rfl (fun ls hl => ?_)
                    exact JOIN_134 ((A.g kd) * (nI (2)))  _ _ _ ((if_neg c_123).symm) (lv_sub hl [4, 5, 6, 7, 8, 9, 3, 2, 1, 0] rfl) HX1441
          exact LOOP_64 (A.n - 0 + 1) (0) (nI (0)) (nI (0)) ((-1 : Int32)) v _ _ _ (Nat.lt_succ_self _) (⟨Nat.zero_le _, hC, fa_fr.rf, fa_rsn.rf, rfl, rfl, rfl⟩) (lv_sub hl [5, 4, 3, 2, 1, 0] rfl) HX1403
