set_option maxHeartbeats 4000000 in
set_option maxRecDepth 100000 in
theorem l_areLists (l : Launch) (G : fa_G) (n : Nat) (hn : 397 ≤ n) (v : fa_V) (r : fa_R) (hC : fa_CI v r) (A : fb_At) (H0 : List fb_At) (dy cm bu kn : Nat) (hV : fb_CV v r A H0) (hk : fc_ok A dy cm bu (dy / 90) kn) (hd : dy ≤ 6400) (hcm : cm ≤ 100) (hkn : kn ≤ 1000) : fa_MI l G n yL_areLists cL_areLists 4 (some .boolean) 4 [.ref (fa_B G + (0))] v r (fun x w => w = (v, r) ∧ (x = nI 1)) := by
  refine fa_startZ (by decide +kernel) (Nat.le_of_ble_eq_true rfl) (fun p e s m args below meth c ls Q CX hl HX RET => ?_)
  have hl : lv_has ls 4 [(0, .ref (fa_B G + (0)))] := hl
  have hx := CX.1.1
  have hb := CX.1.2.1
  have hB : (1 : Nat) ∈ fa_bs := by decide
  have hok := hV.1
  have hn24 : A.n ≤ 24 := hok.1.1
  have hm12 : A.m ≤ 12 := hok.2.1
  have hq8 : A.q.length ≤ 8 := hok.2.2.1
  obtain ⟨L, -, hP, hS⟩ := hV.2.2.1.2.2.2.2.1
  refine lv_aload_n hx hb dL_areLists_0 rfl (lv_at hl 0 rfl) ?_
  refine lv_aload_n hx hb dL_areLists_1 rfl (lv_at hl 0 rfl) ?_
  refine lv_bipush (v := nI (8)) hx hb dL_areLists_2 (by decide) ?_
  refine fa_callVip (As := [.int (nI (8))]) (rest := [.ref (fa_B G + (0))]) CX HX (g_count l G n hn v r hC (nI (8))) ln_L_15 (by omega) rfl rfl rfl rfl (Nat.le_of_ble_eq_true rfl) hl.1 ⟨Nat.le_of_ble_eq_true rfl, Nat.le_of_ble_eq_true rfl⟩ ⟨Nat.le_refl _, Nat.le_refl _⟩ dL_areLists_4 (fun x1484 H locs h1483 HX1485 => ?_)
  have h_count := h1483
  have e_4 : x1484 = nI (A.q.length) := ((h_count A hV.1 hV.2.2.1).trans (fb_cntA_8 (by decide)))
  subst e_4
  refine lv_iconst (v := nI (0)) hx hb dL_areLists_7 (by decide) ?_
  refine fa_callVip (As := [.int (nI (A.q.length)), .int (nI (0))]) (rest := []) CX HX1485 (g_reservation l G n hn v r hC (nI (A.q.length)) (nI (0))) ln_L_38 (by omega) rfl rfl rfl rfl (Nat.le_of_ble_eq_true rfl) hl.1 ⟨Nat.le_of_ble_eq_true rfl, Nat.le_of_ble_eq_true rfl⟩ ⟨Nat.le_refl _, Nat.le_refl _⟩ dL_areLists_8 (fun x1487 H locs h1486 HX1488 => ?_)
  have h_reservation := h1486
  have e_8 : x1487 = (-6 : Int32) := (fc_rs_0 hP hS hq8 (h_reservation A hV.1 hV.2.2.1))
  subst e_8
  refine lv_bipush (v := (-6 : Int32)) hx hb dL_areLists_11 (by decide) ?_
  refine lv_icmp_ne (tgt := 61) hx hb dL_areLists_13 (by decide) (fun c_13 => ?_) (fun c_13 => ?_)
  · exact absurd (by try decide) c_13
  · refine lv_aload_n hx hb dL_areLists_16 rfl (lv_at hl 0 rfl) ?_
    refine lv_aload_n hx hb dL_areLists_17 rfl (lv_at hl 0 rfl) ?_
    refine lv_bipush (v := nI (9)) hx hb dL_areLists_18 (by decide) ?_
    refine fa_callVip (As := [.int (nI (9))]) (rest := [.ref (fa_B G + (0))]) CX HX1488 (g_count l G n hn v r hC (nI (9))) ln_L_15 (by omega) rfl rfl rfl rfl (Nat.le_of_ble_eq_true rfl) hl.1 ⟨Nat.le_of_ble_eq_true rfl, Nat.le_of_ble_eq_true rfl⟩ ⟨Nat.le_refl _, Nat.le_refl _⟩ dL_areLists_20 (fun x1490 H locs h1489 HX1491 => ?_)
    have h_count := h1489
    have e_20 : x1490 = nI (A.m) := ((h_count A hV.1 hV.2.2.1).trans (fb_cntA_9 (by decide)))
    subst e_20
    refine lv_iconst (v := nI (0)) hx hb dL_areLists_23 (by decide) ?_
    refine fa_callVip (As := [.int (nI (A.m)), .int (nI (0))]) (rest := []) CX HX1491 (g_trace l G n hn v r hC (nI (A.m)) (nI (0))) ln_L_41 (by omega) rfl rfl rfl rfl (Nat.le_of_ble_eq_true rfl) hl.1 ⟨Nat.le_of_ble_eq_true rfl, Nat.le_of_ble_eq_true rfl⟩ ⟨Nat.le_refl _, Nat.le_refl _⟩ dL_areLists_24 (fun x1493 H locs h1492 HX1494 => ?_)
    have h_trace := h1492
    have e_24 : x1493 = (-6 : Int32) := ((h_trace A hV.1 hV.2.2.1).trans (fc_trc0 (w := 0) hm12 (by decide)))
    subst e_24
    refine lv_bipush (v := (-6 : Int32)) hx hb dL_areLists_27 (by decide) ?_
    refine lv_icmp_ne (tgt := 61) hx hb dL_areLists_29 (by decide) (fun c_29 => ?_) (fun c_29 => ?_)
    · exact absurd (by try decide) c_29
    · refine lv_aload_n hx hb dL_areLists_32 rfl (lv_at hl 0 rfl) ?_
      refine lv_bipush (v := nI (9)) hx hb dL_areLists_33 (by decide) ?_
      refine fa_callVip (As := [.int (nI (9))]) (rest := []) CX HX1494 (g_count l G n hn v r hC (nI (9))) ln_L_15 (by omega) rfl rfl rfl rfl (Nat.le_of_ble_eq_true rfl) hl.1 ⟨Nat.le_of_ble_eq_true rfl, Nat.le_of_ble_eq_true rfl⟩ ⟨Nat.le_refl _, Nat.le_refl _⟩ dL_areLists_35 (fun x1496 H locs h1495 HX1497 => ?_)
      have h_count := h1495
      have e_35 : x1496 = nI (A.m) := ((h_count A hV.1 hV.2.2.1).trans (fb_cntA_9 (by decide)))
      subst e_35
      refine lv_bipush (v := nI (12)) hx hb dL_areLists_38 (by decide) ?_
      refine lv_icmp_gt (tgt := 61) hx hb dL_areLists_40 (by decide) (fun c_40 => ?_) (fun c_40 => ?_)
      · exact absurd c_40 (nI_nlt hm12 (by decide))
      · refine lv_aload_n hx hb dL_areLists_43 rfl (lv_at hl 0 rfl) ?_
        refine lv_bipush (v := nI (9)) hx hb dL_areLists_44 (by decide) ?_
        refine fa_callVip (As := [.int (nI (9))]) (rest := []) CX HX1497 (g_count l G n hn v r hC (nI (9))) ln_L_15 (by omega) rfl rfl rfl rfl (Nat.le_of_ble_eq_true rfl) hl.1 ⟨Nat.le_of_ble_eq_true rfl, Nat.le_of_ble_eq_true rfl⟩ ⟨Nat.le_refl _, Nat.le_refl _⟩ dL_areLists_46 (fun x1499 H locs h1498 HX1500 => ?_)
        have h_count := h1498
        have e_46 : x1499 = nI (A.m) := ((h_count A hV.1 hV.2.2.1).trans (fb_cntA_9 (by decide)))
        subst e_46
        refine lv_aload_n hx hb dL_areLists_49 rfl (lv_at hl 0 rfl) ?_
        refine lv_iconst (v := nI (3)) hx hb dL_areLists_50 (by decide) ?_
        refine fa_callVip (As := [.int (nI (3))]) (rest := [.int (nI (A.m))]) CX HX1500 (g_count l G n hn v r hC (nI (3))) ln_L_15 (by omega) rfl rfl rfl rfl (Nat.le_of_ble_eq_true rfl) hl.1 ⟨Nat.le_of_ble_eq_true rfl, Nat.le_of_ble_eq_true rfl⟩ ⟨Nat.le_refl _, Nat.le_refl _⟩ dL_areLists_51 (fun x1502 H locs h1501 HX1503 => ?_)
        have h_count := h1501
        have e_51 : x1502 = nI (bu) := (((h_count A hV.1 hV.2.2.1).trans (fb_cntA_3 (by decide))).trans hk.2.2.1)
        subst e_51
        refine lv_icmp_gt (tgt := 61) hx hb dL_areLists_54 (by decide) (fun c_54 => ?_) (fun c_54 => ?_)
        · exact absurd c_54 (nI_nlt hk.2.2.2.2.2.1 (by have := hk.2.2.2.2.1; omega))
        · refine lv_iconst (v := nI (1)) hx hb dL_areLists_57 (by decide) ?_
          refine lv_goto (tgt := 62) hx hb dL_areLists_58 (by decide) ?_
          refine lv_istore_n (lv' := [(1, .int (nI (1))), (0, .ref (fa_B G + (0)))]) hx hb dL_areLists_62 rfl hl (by decide) rfl (fun ls hl => ?_)
          refine lv_iconst (v := nI (0)) hx hb dL_areLists_63 (by decide) ?_
          refine lv_istore_n (lv' := [(2, .int (nI (0))), (1, .int (nI (1))), (0, .ref (fa_B G + (0)))]) hx hb dL_areLists_64 rfl hl (by decide) rfl (fun ls hl => ?_)
          have LOOP_65 : ∀ (fu : Nat) (k1 : Nat) (H : Heap) (locs : List Loc) (ls : Array Slot), A.q.length - k1 < fu → (k1 ≤ A.q.length) → lv_has ls 4 [(0, .ref (fa_B G + (0))), (1, .int (nI (1))), (2, .int (nI (k1)))] → fa_HX G (n) v r s H locs → W p l e (fa_rm 4) s m args below meth c H locs (0) (0) Q (F0 m 65 ls []) := by
            intro fu
            induction fu with
            | zero => intro k1 H locs ls hk; exact absurd hk (Nat.not_lt_zero _)
            | succ fu ih_65 =>
              intro k1 H locs ls hk_65 hi_65 hl HX1504
              refine lv_iload_n hx hb dL_areLists_65 rfl (lv_at hl 2 rfl) ?_
              refine lv_aload_n hx hb dL_areLists_66 rfl (lv_at hl 0 rfl) ?_
              refine lv_bipush (v := nI (8)) hx hb dL_areLists_67 (by decide) ?_
              refine fa_callVip (As := [.int (nI (8))]) (rest := [.int (nI (k1))]) CX HX1504 (g_count l G n hn v r hC (nI (8))) ln_L_15 (by omega) rfl rfl rfl rfl (Nat.le_of_ble_eq_true rfl) hl.1 ⟨Nat.le_of_ble_eq_true rfl, Nat.le_of_ble_eq_true rfl⟩ ⟨Nat.le_refl _, Nat.le_refl _⟩ dL_areLists_69 (fun x1506 H locs h1505 HX1507 => ?_)
              have h_count := h1505
              have e_69 : x1506 = nI (A.q.length) := ((h_count A hV.1 hV.2.2.1).trans (fb_cntA_8 (by decide)))
              subst e_69
              refine lv_icmp_ge (tgt := 165) hx hb dL_areLists_72 (by decide) (fun c_72 => ?_) (fun c_72 => ?_)
              · refine lv_iconst (v := nI (0)) hx hb dL_areLists_165 (by decide) ?_
                refine lv_istore_n (lv' := [(2, .int (nI (0))), (0, .ref (fa_B G + (0))), (1, .int (nI (1)))]) hx hb dL_areLists_166 rfl hl (by decide) rfl (fun ls hl => ?_)
                have LOOP_167 : ∀ (fu : Nat) (k2 : Nat) (H : Heap) (locs : List Loc) (ls : Array Slot), A.m - k2 < fu → (k2 ≤ A.m) → lv_has ls 4 [(0, .ref (fa_B G + (0))), (1, .int (nI (1))), (2, .int (nI (k2)))] → fa_HX G (n) v r s H locs → W p l e (fa_rm 4) s m args below meth c H locs (0) (0) Q (F0 m 167 ls []) := by
                  intro fu
                  induction fu with
                  | zero => intro k2 H locs ls hk; exact absurd hk (Nat.not_lt_zero _)
                  | succ fu ih_167 =>
                    intro k2 H locs ls hk_167 hi_167 hl HX1508
                    refine lv_iload_n hx hb dL_areLists_167 rfl (lv_at hl 2 rfl) ?_
                    refine lv_aload_n hx hb dL_areLists_168 rfl (lv_at hl 0 rfl) ?_
                    refine lv_bipush (v := nI (9)) hx hb dL_areLists_169 (by decide) ?_
                    refine fa_callVip (As := [.int (nI (9))]) (rest := [.int (nI (k2))]) CX HX1508 (g_count l G n hn v r hC (nI (9))) ln_L_15 (by omega) rfl rfl rfl rfl (Nat.le_of_ble_eq_true rfl) hl.1 ⟨Nat.le_of_ble_eq_true rfl, Nat.le_of_ble_eq_true rfl⟩ ⟨Nat.le_refl _, Nat.le_refl _⟩ dL_areLists_171 (fun x1510 H locs h1509 HX1511 => ?_)
                    have h_count := h1509
                    have e_171 : x1510 = nI (A.m) := ((h_count A hV.1 hV.2.2.1).trans (fb_cntA_9 (by decide)))
                    subst e_171
                    refine lv_icmp_ge (tgt := 288) hx hb dL_areLists_174 (by decide) (fun c_174 => ?_) (fun c_174 => ?_)
                    · refine lv_iload_n hx hb dL_areLists_288 rfl (lv_at hl 1 rfl) ?_
                      refine lv_if_eq (tgt := 312) hx hb dL_areLists_289 (by decide) (fun c_289 => ?_) (fun c_289 => ?_)
                      · exact absurd c_289 (by try decide)
                      · refine lv_aload_n hx hb dL_areLists_292 rfl (lv_at hl 0 rfl) ?_
                        refine lv_bipush (v := nI (7)) hx hb dL_areLists_293 (by decide) ?_
                        refine fa_callVip (As := [.int (nI (7))]) (rest := []) CX HX1511 (g_count l G n hn v r hC (nI (7))) ln_L_15 (by omega) rfl rfl rfl rfl (Nat.le_of_ble_eq_true rfl) hl.1 ⟨Nat.le_of_ble_eq_true rfl, Nat.le_of_ble_eq_true rfl⟩ ⟨Nat.le_refl _, Nat.le_refl _⟩ dL_areLists_295 (fun x1513 H locs h1512 HX1514 => ?_)
                        have h_count := h1512
                        have e_295 : x1513 = nI (dy / 90) := (((h_count A hV.1 hV.2.2.1).trans (fb_cntA_7 (by decide))).trans hk.2.2.2.1)
                        subst e_295
                        refine lv_aload_n hx hb dL_areLists_298 rfl (lv_at hl 0 rfl) ?_
                        refine fa_callVip (As := []) (rest := [.int (nI (dy / 90))]) CX HX1514 (g_now l G n hn v r hC ) ln_L_31 (by omega) rfl rfl rfl rfl (Nat.le_of_ble_eq_true rfl) hl.1 ⟨Nat.le_of_ble_eq_true rfl, Nat.le_of_ble_eq_true rfl⟩ ⟨Nat.le_refl _, Nat.le_refl _⟩ dL_areLists_299 (fun x1516 H locs h1515 HX1517 => ?_)
                        have h_now := h1515
                        have e_299 : x1516 = nI (dy) := ((h_now.trans hV.2.2.1.now).trans hk.1)
                        subst e_299
                        refine lv_bipush (v := nI (90)) hx hb dL_areLists_302 (by decide) ?_
                        refine lv_idiv hx hb dL_areLists_304 (by decide) ?_
                        refine lv_icmp_ne (tgt := 312) hx hb dL_areLists_305 (by decide) (fun c_305 => ?_) (fun c_305 => ?_)
                        · exact absurd (pk_div (by omega) (by decide) (by decide)).symm c_305
                        · refine lv_iconst (v := nI (1)) hx hb dL_areLists_308 (by decide) ?_
                          refine lv_goto (tgt := 313) hx hb dL_areLists_309 (by decide) ?_
                          exact RET _ _ _ _ _ _ _ HX1517 dL_areLists_313 (by decide) (⟨rfl, rfl⟩)
                    · have hk2 : k2 < A.m := fa_ltN (by omega) (by omega) c_174
                      obtain ⟨⟨e3, he3, ee3⟩, ⟨x0, hx0, ex0⟩, hns⟩ := hk.2.2.2.2.2.2.2.2.1 (A.m - 1 - k2) (by omega)
                      refine lv_iload_n hx hb dL_areLists_177 rfl (lv_at hl 1 rfl) ?_
                      refine lv_if_eq (tgt := 288) hx hb dL_areLists_178 (by decide) (fun c_178 => ?_) (fun c_178 => ?_)
                      · exact absurd c_178 (by try decide)
                      · refine lv_aload_n hx hb dL_areLists_181 rfl (lv_at hl 0 rfl) ?_
                        refine lv_iload_n hx hb dL_areLists_182 rfl (lv_at hl 2 rfl) ?_
                        refine lv_iconst (v := nI (3)) hx hb dL_areLists_183 (by decide) ?_
                        refine fa_callVip (As := [.int (nI (k2)), .int (nI (3))]) (rest := []) CX HX1511 (g_trace l G n hn v r hC (nI (k2)) (nI (3))) ln_L_41 (by omega) rfl rfl rfl rfl (Nat.le_of_ble_eq_true rfl) hl.1 ⟨Nat.le_of_ble_eq_true rfl, Nat.le_of_ble_eq_true rfl⟩ ⟨Nat.le_refl _, Nat.le_refl _⟩ dL_areLists_184 (fun x1519 H locs h1518 HX1520 => ?_)
                        have h_trace := h1518
                        have e_184 : x1519 = nI (90 * e3) := ((h_trace A hV.1 hV.2.2.1).trans ((fc_trc (k := k2) (by omega) hm12 (by decide)).trans ee3))
                        subst e_184
                        refine lv_bipush (v := nI (90)) hx hb dL_areLists_187 (by decide) ?_
                        refine lv_irem hx hb dL_areLists_189 (by decide) ?_
                        refine lv_if_ne (tgt := 280) hx hb dL_areLists_190 (by decide) (fun c_190 => ?_) (fun c_190 => ?_)
                        · exact absurd ((fc_rem (d := 90 * e3) (by omega)).mpr (by omega)) c_190
                        · refine lv_aload_n hx hb dL_areLists_193 rfl (lv_at hl 0 rfl) ?_
                          refine lv_iload_n hx hb dL_areLists_194 rfl (lv_at hl 2 rfl) ?_
                          refine lv_iconst (v := nI (3)) hx hb dL_areLists_195 (by decide) ?_
                          refine fa_callVip (As := [.int (nI (k2)), .int (nI (3))]) (rest := []) CX HX1520 (g_trace l G n hn v r hC (nI (k2)) (nI (3))) ln_L_41 (by omega) rfl rfl rfl rfl (Nat.le_of_ble_eq_true rfl) hl.1 ⟨Nat.le_of_ble_eq_true rfl, Nat.le_of_ble_eq_true rfl⟩ ⟨Nat.le_refl _, Nat.le_refl _⟩ dL_areLists_196 (fun x1522 H locs h1521 HX1523 => ?_)
                          have h_trace := h1521
                          have e_196 : x1522 = nI (90 * e3) := ((h_trace A hV.1 hV.2.2.1).trans ((fc_trc (k := k2) (by omega) hm12 (by decide)).trans ee3))
                          subst e_196
                          refine lv_aload_n hx hb dL_areLists_199 rfl (lv_at hl 0 rfl) ?_
                          refine fa_callVip (As := []) (rest := [.int (nI (90 * e3))]) CX HX1523 (g_now l G n hn v r hC ) ln_L_31 (by omega) rfl rfl rfl rfl (Nat.le_of_ble_eq_true rfl) hl.1 ⟨Nat.le_of_ble_eq_true rfl, Nat.le_of_ble_eq_true rfl⟩ ⟨Nat.le_refl _, Nat.le_refl _⟩ dL_areLists_200 (fun x1525 H locs h1524 HX1526 => ?_)
                          have h_now := h1524
                          have e_200 : x1525 = nI (dy) := ((h_now.trans hV.2.2.1.now).trans hk.1)
                          subst e_200
                          refine lv_icmp_gt (tgt := 280) hx hb dL_areLists_203 (by decide) (fun c_203 => ?_) (fun c_203 => ?_)
                          · exact absurd c_203 (nI_nlt (by omega) (by omega))
                          · refine lv_aload_n hx hb dL_areLists_206 rfl (lv_at hl 0 rfl) ?_
                            refine lv_aload_n hx hb dL_areLists_207 rfl (lv_at hl 0 rfl) ?_
                            refine lv_iload_n hx hb dL_areLists_208 rfl (lv_at hl 2 rfl) ?_
                            refine lv_iconst (v := nI (0)) hx hb dL_areLists_209 (by decide) ?_
                            refine fa_callVip (As := [.int (nI (k2)), .int (nI (0))]) (rest := [.ref (fa_B G + (0))]) CX HX1526 (g_trace l G n hn v r hC (nI (k2)) (nI (0))) ln_L_41 (by omega) rfl rfl rfl rfl (Nat.le_of_ble_eq_true rfl) hl.1 ⟨Nat.le_of_ble_eq_true rfl, Nat.le_of_ble_eq_true rfl⟩ ⟨Nat.le_refl _, Nat.le_refl _⟩ dL_areLists_210 (fun x1528 H locs h1527 HX1529 => ?_)
                            have h_trace := h1527
                            have e_210 : x1528 = nI (x0) := ((h_trace A hV.1 hV.2.2.1).trans ((fc_trc (k := k2) (by omega) hm12 (by decide)).trans ex0))
                            subst e_210
                            refine lv_iconst (v := nI (0)) hx hb dL_areLists_213 (by decide) ?_
                            refine fa_callVip (As := [.int (nI (x0)), .int (nI (0))]) (rest := []) CX HX1529 (g_file l G n hn v r hC (nI (x0)) (nI (0))) ln_L_9 (by omega) rfl rfl rfl rfl (Nat.le_of_ble_eq_true rfl) hl.1 ⟨Nat.le_of_ble_eq_true rfl, Nat.le_of_ble_eq_true rfl⟩ ⟨Nat.le_refl _, Nat.le_refl _⟩ dL_areLists_214 (fun x1531 H locs h1530 HX1532 => ?_)
                            have h_file := h1530
                            have e_214 : x1531 = (-1 : Int32) := ((h_file A hV.1 hV.2.2.1).trans (fb_filA_n (fb_ix_none (fun j hj => by rw [← ex0]; exact hns j hj))))
                            subst e_214
                            refine lv_iconst (v := (-1 : Int32)) hx hb dL_areLists_217 (by decide) ?_
                            refine lv_icmp_ne (tgt := 280) hx hb dL_areLists_218 (by decide) (fun c_218 => ?_) (fun c_218 => ?_)
                            · exact absurd (by try decide) c_218
                            · refine lv_iload_n hx hb dL_areLists_221 rfl (lv_at hl 2 rfl) ?_
                              refine lv_if_eq (tgt := 276) hx hb dL_areLists_222 (by decide) (fun c_222 => ?_) (fun c_222 => ?_)
                              · refine lv_iconst (v := nI (1)) hx hb dL_areLists_276 (by decide) ?_
                                refine lv_goto (tgt := 281) hx hb dL_areLists_277 (by decide) ?_
                                refine lv_istore_n (lv' := [(1, .int (nI (1))), (0, .ref (fa_B G + (0))), (2, .int (nI (k2)))]) hx hb dL_areLists_281 rfl hl (by decide) rfl (fun ls hl => ?_)
                                refine lv_iinc (v := nI (k2 + 1)) (lv' := [(2, .int (nI (k2 + 1))), (1, .int (nI (1))), (0, .ref (fa_B G + (0)))]) hx hb dL_areLists_282 hl (k := 2) rfl (nI_add (k2) 1) (by decide) rfl (fun ls hl => ?_)
                                refine lv_goto (tgt := 167) hx hb dL_areLists_285 (by decide) ?_
                                exact ih_167 (k2 + 1)  _ _ _ (by omega) (by omega) (lv_sub hl [2, 1, 0] rfl) HX1532
                              · have hk0 : 0 < k2 := by
                                  refine Nat.pos_of_ne_zero (fun z => c_222 ?_)
                                  rw [z]; decide
                                obtain ⟨⟨e4, he4, ee4⟩, ⟨x1, hx1, ex1⟩, -⟩ := hk.2.2.2.2.2.2.2.2.1 (A.m - 1 - (k2 - 1)) (by omega)
                                have hlt := hk.2.2.2.2.2.2.2.2.2 (A.m - 1 - k2) (A.m - 1 - (k2 - 1)) (by omega) (by omega)
                                rw [ee3, ex0, ee4, ex1] at hlt
                                refine lv_aload_n hx hb dL_areLists_225 rfl (lv_at hl 0 rfl) ?_
                                refine lv_iload_n hx hb dL_areLists_226 rfl (lv_at hl 2 rfl) ?_
                                refine lv_iconst (v := nI (1)) hx hb dL_areLists_227 (by decide) ?_
                                refine fa_isubN hx hb dL_areLists_228 (by omega) ?_
                                refine lv_iconst (v := nI (3)) hx hb dL_areLists_229 (by decide) ?_
                                refine fa_callVip (As := [.int (nI (k2 - 1)), .int (nI (3))]) (rest := []) CX HX1532 (g_trace l G n hn v r hC (nI (k2 - 1)) (nI (3))) ln_L_41 (by omega) rfl rfl rfl rfl (Nat.le_of_ble_eq_true rfl) hl.1 ⟨Nat.le_of_ble_eq_true rfl, Nat.le_of_ble_eq_true rfl⟩ ⟨Nat.le_refl _, Nat.le_refl _⟩ dL_areLists_230 (fun x1534 H locs h1533 HX1535 => ?_)
                                have h_trace := h1533
                                have e_230 : x1534 = nI (90 * e4) := ((h_trace A hV.1 hV.2.2.1).trans ((fc_trc (k := (k2 - 1)) (by omega) hm12 (by decide)).trans ee4))
                                subst e_230
                                refine lv_aload_n hx hb dL_areLists_233 rfl (lv_at hl 0 rfl) ?_
                                refine lv_iload_n hx hb dL_areLists_234 rfl (lv_at hl 2 rfl) ?_
                                refine lv_iconst (v := nI (3)) hx hb dL_areLists_235 (by decide) ?_
                                refine fa_callVip (As := [.int (nI (k2)), .int (nI (3))]) (rest := [.int (nI (90 * e4))]) CX HX1535 (g_trace l G n hn v r hC (nI (k2)) (nI (3))) ln_L_41 (by omega) rfl rfl rfl rfl (Nat.le_of_ble_eq_true rfl) hl.1 ⟨Nat.le_of_ble_eq_true rfl, Nat.le_of_ble_eq_true rfl⟩ ⟨Nat.le_refl _, Nat.le_refl _⟩ dL_areLists_236 (fun x1537 H locs h1536 HX1538 => ?_)
                                have h_trace := h1536
                                have e_236 : x1537 = nI (90 * e3) := ((h_trace A hV.1 hV.2.2.1).trans ((fc_trc (k := k2) (by omega) hm12 (by decide)).trans ee3))
                                subst e_236
                                refine lv_icmp_gt (tgt := 276) hx hb dL_areLists_239 (by decide) (fun c_239 => ?_) (fun c_239 => ?_)
                                · refine lv_iconst (v := nI (1)) hx hb dL_areLists_276 (by decide) ?_
                                  refine lv_goto (tgt := 281) hx hb dL_areLists_277 (by decide) ?_
                                  refine lv_istore_n (lv' := [(1, .int (nI (1))), (0, .ref (fa_B G + (0))), (2, .int (nI (k2)))]) hx hb dL_areLists_281 rfl hl (by decide) rfl (fun ls hl => ?_)
                                  refine lv_iinc (v := nI (k2 + 1)) (lv' := [(2, .int (nI (k2 + 1))), (1, .int (nI (1))), (0, .ref (fa_B G + (0)))]) hx hb dL_areLists_282 hl (k := 2) rfl (nI_add (k2) 1) (by decide) rfl (fun ls hl => ?_)
                                  refine lv_goto (tgt := 167) hx hb dL_areLists_285 (by decide) ?_
                                  exact ih_167 (k2 + 1)  _ _ _ (by omega) (by omega) (lv_sub hl [2, 1, 0] rfl) HX1538
                                · refine lv_aload_n hx hb dL_areLists_242 rfl (lv_at hl 0 rfl) ?_
                                  refine lv_iload_n hx hb dL_areLists_243 rfl (lv_at hl 2 rfl) ?_
                                  refine lv_iconst (v := nI (1)) hx hb dL_areLists_244 (by decide) ?_
                                  refine fa_isubN hx hb dL_areLists_245 (by omega) ?_
                                  refine lv_iconst (v := nI (3)) hx hb dL_areLists_246 (by decide) ?_
                                  refine fa_callVip (As := [.int (nI (k2 - 1)), .int (nI (3))]) (rest := []) CX HX1538 (g_trace l G n hn v r hC (nI (k2 - 1)) (nI (3))) ln_L_41 (by omega) rfl rfl rfl rfl (Nat.le_of_ble_eq_true rfl) hl.1 ⟨Nat.le_of_ble_eq_true rfl, Nat.le_of_ble_eq_true rfl⟩ ⟨Nat.le_refl _, Nat.le_refl _⟩ dL_areLists_247 (fun x1540 H locs h1539 HX1541 => ?_)
                                  have h_trace := h1539
                                  have e_247 : x1540 = nI (90 * e4) := ((h_trace A hV.1 hV.2.2.1).trans ((fc_trc (k := (k2 - 1)) (by omega) hm12 (by decide)).trans ee4))
                                  subst e_247
                                  refine lv_aload_n hx hb dL_areLists_250 rfl (lv_at hl 0 rfl) ?_
                                  refine lv_iload_n hx hb dL_areLists_251 rfl (lv_at hl 2 rfl) ?_
                                  refine lv_iconst (v := nI (3)) hx hb dL_areLists_252 (by decide) ?_
                                  refine fa_callVip (As := [.int (nI (k2)), .int (nI (3))]) (rest := [.int (nI (90 * e4))]) CX HX1541 (g_trace l G n hn v r hC (nI (k2)) (nI (3))) ln_L_41 (by omega) rfl rfl rfl rfl (Nat.le_of_ble_eq_true rfl) hl.1 ⟨Nat.le_of_ble_eq_true rfl, Nat.le_of_ble_eq_true rfl⟩ ⟨Nat.le_refl _, Nat.le_refl _⟩ dL_areLists_253 (fun x1543 H locs h1542 HX1544 => ?_)
                                  have h_trace := h1542
                                  have e_253 : x1543 = nI (90 * e3) := ((h_trace A hV.1 hV.2.2.1).trans ((fc_trc (k := k2) (by omega) hm12 (by decide)).trans ee3))
                                  subst e_253
                                  refine lv_icmp_ne (tgt := 280) hx hb dL_areLists_256 (by decide) (fun c_256 => ?_) (fun c_256 => ?_)
                                  · exact absurd (hlt.resolve_left c_239).1.symm c_256
                                  · refine lv_aload_n hx hb dL_areLists_259 rfl (lv_at hl 0 rfl) ?_
                                    refine lv_iload_n hx hb dL_areLists_260 rfl (lv_at hl 2 rfl) ?_
                                    refine lv_iconst (v := nI (1)) hx hb dL_areLists_261 (by decide) ?_
                                    refine fa_isubN hx hb dL_areLists_262 (by omega) ?_
                                    refine lv_iconst (v := nI (0)) hx hb dL_areLists_263 (by decide) ?_
                                    refine fa_callVip (As := [.int (nI (k2 - 1)), .int (nI (0))]) (rest := []) CX HX1544 (g_trace l G n hn v r hC (nI (k2 - 1)) (nI (0))) ln_L_41 (by omega) rfl rfl rfl rfl (Nat.le_of_ble_eq_true rfl) hl.1 ⟨Nat.le_of_ble_eq_true rfl, Nat.le_of_ble_eq_true rfl⟩ ⟨Nat.le_refl _, Nat.le_refl _⟩ dL_areLists_264 (fun x1546 H locs h1545 HX1547 => ?_)
                                    have h_trace := h1545
                                    have e_264 : x1546 = nI (x1) := ((h_trace A hV.1 hV.2.2.1).trans ((fc_trc (k := (k2 - 1)) (by omega) hm12 (by decide)).trans ex1))
                                    subst e_264
                                    refine lv_aload_n hx hb dL_areLists_267 rfl (lv_at hl 0 rfl) ?_
                                    refine lv_iload_n hx hb dL_areLists_268 rfl (lv_at hl 2 rfl) ?_
                                    refine lv_iconst (v := nI (0)) hx hb dL_areLists_269 (by decide) ?_
                                    refine fa_callVip (As := [.int (nI (k2)), .int (nI (0))]) (rest := [.int (nI (x1))]) CX HX1547 (g_trace l G n hn v r hC (nI (k2)) (nI (0))) ln_L_41 (by omega) rfl rfl rfl rfl (Nat.le_of_ble_eq_true rfl) hl.1 ⟨Nat.le_of_ble_eq_true rfl, Nat.le_of_ble_eq_true rfl⟩ ⟨Nat.le_refl _, Nat.le_refl _⟩ dL_areLists_270 (fun x1549 H locs h1548 HX1550 => ?_)
                                    have h_trace := h1548
                                    have e_270 : x1549 = nI (x0) := ((h_trace A hV.1 hV.2.2.1).trans ((fc_trc (k := k2) (by omega) hm12 (by decide)).trans ex0))
                                    subst e_270
                                    refine lv_icmp_le (tgt := 280) hx hb dL_areLists_273 (by decide) (fun c_273 => ?_) (fun c_273 => ?_)
                                    · exact absurd c_273 (Int32.not_le.mpr (hlt.resolve_left c_239).2)
                                    · refine lv_iconst (v := nI (1)) hx hb dL_areLists_276 (by decide) ?_
                                      refine lv_goto (tgt := 281) hx hb dL_areLists_277 (by decide) ?_
                                      refine lv_istore_n (lv' := [(1, .int (nI (1))), (0, .ref (fa_B G + (0))), (2, .int (nI (k2)))]) hx hb dL_areLists_281 rfl hl (by decide) rfl (fun ls hl => ?_)
                                      refine lv_iinc (v := nI (k2 + 1)) (lv' := [(2, .int (nI (k2 + 1))), (1, .int (nI (1))), (0, .ref (fa_B G + (0)))]) hx hb dL_areLists_282 hl (k := 2) rfl (nI_add (k2) 1) (by decide) rfl (fun ls hl => ?_)
                                      refine lv_goto (tgt := 167) hx hb dL_areLists_285 (by decide) ?_
                                      exact ih_167 (k2 + 1)  _ _ _ (by omega) (by omega) (lv_sub hl [2, 1, 0] rfl) HX1550
                exact LOOP_167 (A.m - 0 + 1) (0)  _ _ _ (Nat.lt_succ_self _) (Nat.zero_le _) (lv_sub hl [1, 2, 0] rfl) HX1507
              · have hk1 : k1 < A.q.length := fa_ltN (by omega) (by omega) c_72
                have hrs := hok.2.2.2.2 _ (fc_rs_q hP hk1)
                refine lv_iload_n hx hb dL_areLists_75 rfl (lv_at hl 1 rfl) ?_
                refine lv_if_eq (tgt := 165) hx hb dL_areLists_76 (by decide) (fun c_76 => ?_) (fun c_76 => ?_)
                · exact absurd c_76 (by try decide)
                · refine lv_aload_n hx hb dL_areLists_79 rfl (lv_at hl 0 rfl) ?_
                  refine lv_iload_n hx hb dL_areLists_80 rfl (lv_at hl 2 rfl) ?_
                  refine lv_iconst (v := nI (1)) hx hb dL_areLists_81 (by decide) ?_
                  refine fa_callVip (As := [.int (nI (k1)), .int (nI (1))]) (rest := []) CX HX1507 (g_reservation l G n hn v r hC (nI (k1)) (nI (1))) ln_L_38 (by omega) rfl rfl rfl rfl (Nat.le_of_ble_eq_true rfl) hl.1 ⟨Nat.le_of_ble_eq_true rfl, Nat.le_of_ble_eq_true rfl⟩ ⟨Nat.le_refl _, Nat.le_refl _⟩ dL_areLists_82 (fun x1552 H locs h1551 HX1553 => ?_)
                  have h_reservation := h1551
                  have e_82 : x1552 = (fc_el L k1).2 := (fc_rs_2 hP hS hq8 hk1 (h_reservation A hV.1 hV.2.2.1))
                  subst e_82
                  refine lv_istore_n (lv' := [(3, .int ((fc_el L k1).2)), (0, .ref (fa_B G + (0))), (1, .int (nI (1))), (2, .int (nI (k1)))]) hx hb dL_areLists_85 rfl hl (by decide) rfl (fun ls hl => ?_)
                  refine lv_iload_n hx hb dL_areLists_86 rfl (lv_at hl 0 rfl) ?_
                  refine lv_aload_n hx hb dL_areLists_87 rfl (lv_at hl 1 rfl) ?_
                  refine fa_callVip (As := []) (rest := [.int ((fc_el L k1).2)]) CX HX1553 (g_now l G n hn v r hC ) ln_L_31 (by omega) rfl rfl rfl rfl (Nat.le_of_ble_eq_true rfl) hl.1 ⟨Nat.le_of_ble_eq_true rfl, Nat.le_of_ble_eq_true rfl⟩ ⟨Nat.le_refl _, Nat.le_refl _⟩ dL_areLists_88 (fun x1555 H locs h1554 HX1556 => ?_)
                  have h_now := h1554
                  have e_88 : x1555 = nI (dy) := ((h_now.trans hV.2.2.1.now).trans hk.1)
                  subst e_88
                  refine lv_icmp_le (tgt := 157) hx hb dL_areLists_91 (by decide) (fun c_91 => ?_) (fun c_91 => ?_)
                  · exact absurd c_91 (by rw [← hk.1]; exact Int32.not_le.mpr hrs.1)
                  · refine lv_aload_n hx hb dL_areLists_94 rfl (lv_at hl 1 rfl) ?_
                    refine lv_aload_n hx hb dL_areLists_95 rfl (lv_at hl 1 rfl) ?_
                    refine lv_iload_n hx hb dL_areLists_96 rfl (lv_at hl 3 rfl) ?_
                    refine lv_iconst (v := nI (0)) hx hb dL_areLists_97 (by decide) ?_
                    refine fa_callVip (As := [.int (nI (k1)), .int (nI (0))]) (rest := [.ref (fa_B G + (0))]) CX HX1556 (g_reservation l G n hn v r hC (nI (k1)) (nI (0))) ln_L_38 (by omega) rfl rfl rfl rfl (Nat.le_of_ble_eq_true rfl) hl.1 ⟨Nat.le_of_ble_eq_true rfl, Nat.le_of_ble_eq_true rfl⟩ ⟨Nat.le_refl _, Nat.le_refl _⟩ dL_areLists_98 (fun x1558 H locs h1557 HX1559 => ?_)
                    have h_reservation := h1557
                    have e_98 : x1558 = (fc_el L k1).1 := (fc_rs_1 hP hS hq8 hk1 (h_reservation A hV.1 hV.2.2.1))
                    subst e_98
                    refine lv_iconst (v := nI (0)) hx hb dL_areLists_101 (by decide) ?_
                    refine fa_callVip (As := [.int ((fc_el L k1).1), .int (nI (0))]) (rest := []) CX HX1559 (g_file l G n hn v r hC ((fc_el L k1).1) (nI (0))) ln_L_9 (by omega) rfl rfl rfl rfl (Nat.le_of_ble_eq_true rfl) hl.1 ⟨Nat.le_of_ble_eq_true rfl, Nat.le_of_ble_eq_true rfl⟩ ⟨Nat.le_refl _, Nat.le_refl _⟩ dL_areLists_102 (fun x1561 H locs h1560 HX1562 => ?_)
                    have h_file := h1560
                    have e_102 : x1561 = fb_filA A (fc_el L k1).1 (nI 0) := (h_file A hV.1 hV.2.2.1)
                    subst e_102
                    refine lv_if_lt (tgt := 157) hx hb dL_areLists_105 (by decide) (fun c_105 => ?_) (fun c_105 => ?_)
                    · exact absurd c_105 (fc_rs_f hok hP hk1)
                    · refine lv_iload_n hx hb dL_areLists_108 rfl (lv_at hl 3 rfl) ?_
                      refine lv_if_eq (tgt := 153) hx hb dL_areLists_109 (by decide) (fun c_109 => ?_) (fun c_109 => ?_)
                      · refine lv_iconst (v := nI (1)) hx hb dL_areLists_153 (by decide) ?_
                        refine lv_goto (tgt := 158) hx hb dL_areLists_154 (by decide) ?_
                        refine lv_istore_n (lv' := [(1, .int (nI (1))), (3, .int ((fc_el L k1).2)), (0, .ref (fa_B G + (0))), (2, .int (nI (k1)))]) hx hb dL_areLists_158 rfl hl (by decide) rfl (fun ls hl => ?_)
                        refine lv_iinc (v := nI (k1 + 1)) (lv' := [(2, .int (nI (k1 + 1))), (1, .int (nI (1))), (3, .int ((fc_el L k1).2)), (0, .ref (fa_B G + (0)))]) hx hb dL_areLists_159 hl (k := 3) rfl (nI_add (k1) 1) (by decide) rfl (fun ls hl => ?_)
                        refine lv_goto (tgt := 65) hx hb dL_areLists_162 (by decide) ?_
                        exact ih_65 (k1 + 1)  _ _ _ (by omega) (by omega) (lv_sub hl [3, 1, 0] rfl) HX1562
                      · have hk0 : 0 < k1 := by
                          refine Nat.pos_of_ne_zero (fun z => c_109 ?_)
                          rw [z]; decide
                        have hbe := fc_rs_b hP hS hk1 hk0
                        refine lv_aload_n hx hb dL_areLists_112 rfl (lv_at hl 1 rfl) ?_
                        refine lv_iload_n hx hb dL_areLists_113 rfl (lv_at hl 3 rfl) ?_
                        refine lv_iconst (v := nI (1)) hx hb dL_areLists_114 (by decide) ?_
                        refine fa_isubN hx hb dL_areLists_115 (by omega) ?_
                        refine lv_iconst (v := nI (1)) hx hb dL_areLists_116 (by decide) ?_
                        refine fa_callVip (As := [.int (nI (k1 - 1)), .int (nI (1))]) (rest := []) CX HX1562 (g_reservation l G n hn v r hC (nI (k1 - 1)) (nI (1))) ln_L_38 (by omega) rfl rfl rfl rfl (Nat.le_of_ble_eq_true rfl) hl.1 ⟨Nat.le_of_ble_eq_true rfl, Nat.le_of_ble_eq_true rfl⟩ ⟨Nat.le_refl _, Nat.le_refl _⟩ dL_areLists_117 (fun x1564 H locs h1563 HX1565 => ?_)
                        have h_reservation := h1563
                        have e_117 : x1564 = (fc_el L (k1 - 1)).2 := (fc_rs_2 hP hS hq8 (by omega) (h_reservation A hV.1 hV.2.2.1))
                        subst e_117
                        refine lv_iload_n hx hb dL_areLists_120 rfl (lv_at hl 0 rfl) ?_
                        refine lv_icmp_lt (tgt := 153) hx hb dL_areLists_121 (by decide) (fun c_121 => ?_) (fun c_121 => ?_)
                        · refine lv_iconst (v := nI (1)) hx hb dL_areLists_153 (by decide) ?_
                          refine lv_goto (tgt := 158) hx hb dL_areLists_154 (by decide) ?_
                          refine lv_istore_n (lv' := [(1, .int (nI (1))), (3, .int ((fc_el L k1).2)), (0, .ref (fa_B G + (0))), (2, .int (nI (k1)))]) hx hb dL_areLists_158 rfl hl (by decide) rfl (fun ls hl => ?_)
                          refine lv_iinc (v := nI (k1 + 1)) (lv' := [(2, .int (nI (k1 + 1))), (1, .int (nI (1))), (3, .int ((fc_el L k1).2)), (0, .ref (fa_B G + (0)))]) hx hb dL_areLists_159 hl (k := 3) rfl (nI_add (k1) 1) (by decide) rfl (fun ls hl => ?_)
                          refine lv_goto (tgt := 65) hx hb dL_areLists_162 (by decide) ?_
                          exact ih_65 (k1 + 1)  _ _ _ (by omega) (by omega) (lv_sub hl [3, 1, 0] rfl) HX1565
                        · refine lv_aload_n hx hb dL_areLists_124 rfl (lv_at hl 1 rfl) ?_
                          refine lv_iload_n hx hb dL_areLists_125 rfl (lv_at hl 3 rfl) ?_
                          refine lv_iconst (v := nI (1)) hx hb dL_areLists_126 (by decide) ?_
                          refine fa_isubN hx hb dL_areLists_127 (by omega) ?_
                          refine lv_iconst (v := nI (1)) hx hb dL_areLists_128 (by decide) ?_
                          refine fa_callVip (As := [.int (nI (k1 - 1)), .int (nI (1))]) (rest := []) CX HX1565 (g_reservation l G n hn v r hC (nI (k1 - 1)) (nI (1))) ln_L_38 (by omega) rfl rfl rfl rfl (Nat.le_of_ble_eq_true rfl) hl.1 ⟨Nat.le_of_ble_eq_true rfl, Nat.le_of_ble_eq_true rfl⟩ ⟨Nat.le_refl _, Nat.le_refl _⟩ dL_areLists_129 (fun x1567 H locs h1566 HX1568 => ?_)
                          have h_reservation := h1566
                          have e_129 : x1567 = (fc_el L (k1 - 1)).2 := (fc_rs_2 hP hS hq8 (by omega) (h_reservation A hV.1 hV.2.2.1))
                          subst e_129
                          refine lv_iload_n hx hb dL_areLists_132 rfl (lv_at hl 0 rfl) ?_
                          refine lv_icmp_ne (tgt := 157) hx hb dL_areLists_133 (by decide) (fun c_133 => ?_) (fun c_133 => ?_)
                          · exact absurd (hbe.resolve_left c_121).1 c_133
                          · refine lv_aload_n hx hb dL_areLists_136 rfl (lv_at hl 1 rfl) ?_
                            refine lv_iload_n hx hb dL_areLists_137 rfl (lv_at hl 3 rfl) ?_
                            refine lv_iconst (v := nI (1)) hx hb dL_areLists_138 (by decide) ?_
                            refine fa_isubN hx hb dL_areLists_139 (by omega) ?_
                            refine lv_iconst (v := nI (0)) hx hb dL_areLists_140 (by decide) ?_
                            refine fa_callVip (As := [.int (nI (k1 - 1)), .int (nI (0))]) (rest := []) CX HX1568 (g_reservation l G n hn v r hC (nI (k1 - 1)) (nI (0))) ln_L_38 (by omega) rfl rfl rfl rfl (Nat.le_of_ble_eq_true rfl) hl.1 ⟨Nat.le_of_ble_eq_true rfl, Nat.le_of_ble_eq_true rfl⟩ ⟨Nat.le_refl _, Nat.le_refl _⟩ dL_areLists_141 (fun x1570 H locs h1569 HX1571 => ?_)
                            have h_reservation := h1569
                            have e_141 : x1570 = (fc_el L (k1 - 1)).1 := (fc_rs_1 hP hS hq8 (by omega) (h_reservation A hV.1 hV.2.2.1))
                            subst e_141
                            refine lv_aload_n hx hb dL_areLists_144 rfl (lv_at hl 1 rfl) ?_
                            refine lv_iload_n hx hb dL_areLists_145 rfl (lv_at hl 3 rfl) ?_
                            refine lv_iconst (v := nI (0)) hx hb dL_areLists_146 (by decide) ?_
                            refine fa_callVip (As := [.int (nI (k1)), .int (nI (0))]) (rest := [.int ((fc_el L (k1 - 1)).1)]) CX HX1571 (g_reservation l G n hn v r hC (nI (k1)) (nI (0))) ln_L_38 (by omega) rfl rfl rfl rfl (Nat.le_of_ble_eq_true rfl) hl.1 ⟨Nat.le_of_ble_eq_true rfl, Nat.le_of_ble_eq_true rfl⟩ ⟨Nat.le_refl _, Nat.le_refl _⟩ dL_areLists_147 (fun x1573 H locs h1572 HX1574 => ?_)
                            have h_reservation := h1572
                            have e_147 : x1573 = (fc_el L k1).1 := (fc_rs_1 hP hS hq8 hk1 (h_reservation A hV.1 hV.2.2.1))
                            subst e_147
                            refine lv_icmp_ge (tgt := 157) hx hb dL_areLists_150 (by decide) (fun c_150 => ?_) (fun c_150 => ?_)
                            · exact absurd c_150 (Int32.not_le.mpr (hbe.resolve_left c_121).2)
                            · refine lv_iconst (v := nI (1)) hx hb dL_areLists_153 (by decide) ?_
                              refine lv_goto (tgt := 158) hx hb dL_areLists_154 (by decide) ?_
                              refine lv_istore_n (lv' := [(1, .int (nI (1))), (3, .int ((fc_el L k1).2)), (0, .ref (fa_B G + (0))), (2, .int (nI (k1)))]) hx hb dL_areLists_158 rfl hl (by decide) rfl (fun ls hl => ?_)
                              refine lv_iinc (v := nI (k1 + 1)) (lv' := [(2, .int (nI (k1 + 1))), (1, .int (nI (1))), (3, .int ((fc_el L k1).2)), (0, .ref (fa_B G + (0)))]) hx hb dL_areLists_159 hl (k := 3) rfl (nI_add (k1) 1) (by decide) rfl (fun ls hl => ?_)
                              refine lv_goto (tgt := 65) hx hb dL_areLists_162 (by decide) ?_
                              exact ih_65 (k1 + 1)  _ _ _ (by omega) (by omega) (lv_sub hl [3, 1, 0] rfl) HX1574
          exact LOOP_65 (A.q.length - 0 + 1) (0)  _ _ _ (Nat.lt_succ_self _) (Nat.zero_le _) (lv_sub hl [2, 1, 0] rfl) HX1503
