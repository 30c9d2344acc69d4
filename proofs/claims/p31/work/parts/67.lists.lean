set_option maxHeartbeats 4000000 in
set_option maxRecDepth 100000 in
theorem l_areLists (l : Launch) (G : fa_G) (n : Nat) (hn : 397 ≤ n) (v : fa_V) (r : fa_R) (hC : fa_CI v r) (A : fb_At) (H0 : List fb_At) (dy cm bu kn : Nat) (hV : fb_CV v r A H0) (hk : fc_ok A dy cm bu (dy / 90) kn) (hd : dy ≤ 6400) (hcm : cm ≤ 100) (hkn : kn ≤ 1000) : fa_MI l G n yL_areLists cL_areLists 4 (some .boolean) 4 [.ref (fa_B G + (0))] v r (fun x w => w = (v, r) ∧ (x = nI 1)) := by
  refine fa_startZ (by decide +kernel) (Nat.le_of_ble_eq_true rfl) (fun p e s m args below meth c ls Q CX hl HX RET => ?_)
  have hl : lv_has ls 4 [(0, .ref (fa_B G + (0)))] := hl
  have hx := CX.1.1
  have hb := CX.1.2.1
  have hB : (1 : Nat) ∈ fa_bs := by decide
  have hok := hV.1
  have hn24 : A.n ≤ 24 := hok.1.1
  have hm12 : A.m ≤ 12 := hok.2.1
  have hq8 : A.q.length ≤ 8 := hok.2.2.1
  obtain ⟨L, -, hP, hS⟩ := hV.2.2.1.2.2.2.2.1
  refine lv_aload_n hx hb dL_areLists_0 rfl (lv_at hl 0 rfl) ?_
  refine lv_aload_n hx hb dL_areLists_1 rfl (lv_at hl 0 rfl) ?_
  refine lv_bipush (v := nI (8)) hx hb dL_areLists_2 (by decide) ?_
  refine fa_callVip (As := [.int (nI (8))]) (rest := [.ref (fa_B G + (0))]) CX HX (g_count l G n hn v r hC (nI (8))) ln_L_15 (by omega) rfl rfl rfl rfl (Nat.le_of_ble_eq_true rfl) hl.1 ⟨Nat.le_of_ble_eq_true rfl, Nat.le_of_ble_eq_true rfl⟩ ⟨Nat.le_refl _, Nat.le_refl _⟩ dL_areLists_4 (fun x1527 H locs h1526 HX1528 => ?_)
  have h_count := h1526
  have e_4 : x1527 = nI (A.q.length) := ((h_count A hV.1 hV.2.2.1).trans (fb_cntA_8 (by decide)))
  subst e_4
  refine lv_iconst (v := nI (0)) hx hb dL_areLists_7 (by decide) ?_
  refine fa_callVip (As := [.int (nI (A.q.length)), .int (nI (0))]) (rest := []) CX HX1528 (g_reservation l G n hn v r hC (nI (A.q.length)) (nI (0))) ln_L_38 (by omega) rfl rfl rfl rfl (Nat.le_of_ble_eq_true rfl) hl.1 ⟨Nat.le_of_ble_eq_true rfl, Nat.le_of_ble_eq_true rfl⟩ ⟨Nat.le_refl _, Nat.le_refl _⟩ dL_areLists_8 (fun x1530 H locs h1529 HX1531 => ?_)
  have h_reservation := h1529
  have e_8 : x1530 = (-6 : Int32) := (fc_rs_0 hP hS hq8 (h_reservation A hV.1 hV.2.2.1))
  subst e_8
  refine lv_bipush (v := (-6 : Int32)) hx hb dL_areLists_11 (by decide) ?_
  refine lv_icmp_ne (tgt := 61) hx hb dL_areLists_13 (by decide) (fun c_13 => ?_) (fun c_13 => ?_)
  · exact absurd (by try decide) c_13
  · refine lv_aload_n hx hb dL_areLists_16 rfl (lv_at hl 0 rfl) ?_
    refine lv_aload_n hx hb dL_areLists_17 rfl (lv_at hl 0 rfl) ?_
    refine lv_bipush (v := nI (9)) hx hb dL_areLists_18 (by decide) ?_
    refine fa_callVip (As := [.int (nI (9))]) (rest := [.ref (fa_B G + (0))]) CX HX1531 (g_count l G n hn v r hC (nI (9))) ln_L_15 (by omega) rfl rfl rfl rfl (Nat.le_of_ble_eq_true rfl) hl.1 ⟨Nat.le_of_ble_eq_true rfl, Nat.le_of_ble_eq_true rfl⟩ ⟨Nat.le_refl _, Nat.le_refl _⟩ dL_areLists_20 (fun x1533 H locs h1532 HX1534 => ?_)
    have h_count := h1532
    have e_20 : x1533 = nI (A.m) := ((h_count A hV.1 hV.2.2.1).trans (fb_cntA_9 (by decide)))
    subst e_20
    refine lv_iconst (v := nI (0)) hx hb dL_areLists_23 (by decide) ?_
    refine fa_callVip (As := [.int (nI (A.m)), .int (nI (0))]) (rest := []) CX HX1534 (g_trace l G n hn v r hC (nI (A.m)) (nI (0))) ln_L_41 (by omega) rfl rfl rfl rfl (Nat.le_of_ble_eq_true rfl) hl.1 ⟨Nat.le_of_ble_eq_true rfl, Nat.le_of_ble_eq_true rfl⟩ ⟨Nat.le_refl _, Nat.le_refl _⟩ dL_areLists_24 (fun x1536 H locs h1535 HX1537 => ?_)
    have h_trace := h1535
    have e_24 : x1536 = (-6 : Int32) := ((h_trace A hV.1 hV.2.2.1).trans (fc_trc0 (w := 0) hm12 (by decide)))
    subst e_24
    refine lv_bipush (v := (-6 : Int32)) hx hb dL_areLists_27 (by decide) ?_
    refine lv_icmp_ne (tgt := 61) hx hb dL_areLists_29 (by decide) (fun c_29 => ?_) (fun c_29 => ?_)
    · exact absurd (by try decide) c_29
    · refine lv_aload_n hx hb dL_areLists_32 rfl (lv_at hl 0 rfl) ?_
      refine lv_bipush (v := nI (9)) hx hb dL_areLists_33 (by decide) ?_
      refine fa_callVip (As := [.int (nI (9))]) (rest := []) CX HX1537 (g_count l G n hn v r hC (nI (9))) ln_L_15 (by omega) rfl rfl rfl rfl (Nat.le_of_ble_eq_true rfl) hl.1 ⟨Nat.le_of_ble_eq_true rfl, Nat.le_of_ble_eq_true rfl⟩ ⟨Nat.le_refl _, Nat.le_refl _⟩ dL_areLists_35 (fun x1539 H locs h1538 HX1540 => ?_)
      have h_count := h1538
      have e_35 : x1539 = nI (A.m) := ((h_count A hV.1 hV.2.2.1).trans (fb_cntA_9 (by decide)))
      subst e_35
      refine lv_bipush (v := nI (12)) hx hb dL_areLists_38 (by decide) ?_
      refine lv_icmp_gt (tgt := 61) hx hb dL_areLists_40 (by decide) (fun c_40 => ?_) (fun c_40 => ?_)
      · exact absurd c_40 (nI_nlt hm12 (by decide))
      · refine lv_aload_n hx hb dL_areLists_43 rfl (lv_at hl 0 rfl) ?_
        refine lv_bipush (v := nI (9)) hx hb dL_areLists_44 (by decide) ?_
        refine fa_callVip (As := [.int (nI (9))]) (rest := []) CX HX1540 (g_count l G n hn v r hC (nI (9))) ln_L_15 (by omega) rfl rfl rfl rfl (Nat.le_of_ble_eq_true rfl) hl.1 ⟨Nat.le_of_ble_eq_true rfl, Nat.le_of_ble_eq_true rfl⟩ ⟨Nat.le_refl _, Nat.le_refl _⟩ dL_areLists_46 (fun x1542 H locs h1541 HX1543 => ?_)
        have h_count := h1541
        have e_46 : x1542 = nI (A.m) := ((h_count A hV.1 hV.2.2.1).trans (fb_cntA_9 (by decide)))
        subst e_46
        refine lv_aload_n hx hb dL_areLists_49 rfl (lv_at hl 0 rfl) ?_
        refine lv_iconst (v := nI (3)) hx hb dL_areLists_50 (by decide) ?_
        refine fa_callVip (As := [.int (nI (3))]) (rest := [.int (nI (A.m))]) CX HX1543 (g_count l G n hn v r hC (nI (3))) ln_L_15 (by omega) rfl rfl rfl rfl (Nat.le_of_ble_eq_true rfl) hl.1 ⟨Nat.le_of_ble_eq_true rfl, Nat.le_of_ble_eq_true rfl⟩ ⟨Nat.le_refl _, Nat.le_refl _⟩ dL_areLists_51 (fun x1545 H locs h1544 HX1546 => ?_)
        have h_count := h1544
        have e_51 : x1545 = nI (bu) := (((h_count A hV.1 hV.2.2.1).trans (fb_cntA_3 (by decide))).trans hk.2.2.1)
        subst e_51
        refine lv_icmp_gt (tgt := 61) hx hb dL_areLists_54 (by decide) (fun c_54 => ?_) (fun c_54 => ?_)
        · exact absurd c_54 (nI_nlt hk.2.2.2.2.2.1 (by have := hk.2.2.2.2.1; omega))
        · refine lv_iconst (v := nI (1)) hx hb dL_areLists_57 (by decide) ?_
          refine lv_goto (tgt := 62) hx hb dL_areLists_58 (by decide) ?_
          refine lv_istore_n (lv' := [(1, .int (nI (1))), (0, .ref (fa_B G + (0)))]) hx hb dL_areLists_62 rfl hl (by decide) rfl (fun ls hl => ?_)
          refine lv_iconst (v := nI (0)) hx hb dL_areLists_63 (by decide) ?_
          refine lv_istore_n (lv' := [(2, .int (nI (0))), (1, .int (nI (1))), (0, .ref (fa_B G + (0)))]) hx hb dL_areLists_64 rfl hl (by decide) rfl (fun ls hl => ?_)
          have LOOP_65 : ∀ (fu : Nat) (k1 : Nat) (H : Heap) (locs : List Loc) (ls : Array Slot), A.q.length - k1 < fu → (k1 ≤ A.q.length) → lv_has ls 4 [(0, .ref (fa_B G + (0))), (1, .int (nI (1))), (2, .int (nI (k1)))] → fa_HX G (n) v r s H locs → W p l e (fa_rm 4) s m args below meth c H locs (0) (0) Q (F0 m 65 ls []) := by
            intro fu
            induction fu with
            | zero => intro k1 H locs ls hk; exact absurd hk (Nat.not_lt_zero _)
            | succ fu ih_65 =>
              intro k1 H locs ls hk_65 hi_65 hl HX1547
              refine lv_iload_n hx hb dL_areLists_65 rfl (lv_at hl 2 rfl) ?_
              refine lv_aload_n hx hb dL_areLists_66 rfl (lv_at hl 0 rfl) ?_
              refine lv_bipush (v := nI (8)) hx hb dL_areLists_67 (by decide) ?_
              refine fa_callVip (As := [.int (nI (8))]) (rest := [.int (nI (k1))]) CX HX1547 (g_count l G n hn v r hC (nI (8))) ln_L_15 (by omega) rfl rfl rfl rfl (Nat.le_of_ble_eq_true rfl) hl.1 ⟨Nat.le_of_ble_eq_true rfl, Nat.le_of_ble_eq_true rfl⟩ ⟨Nat.le_refl _, Nat.le_refl _⟩ dL_areLists_69 (fun x1549 H locs h1548 HX1550 => ?_)
              have h_count := h1548
              have e_69 : x1549 = nI (A.q.length) := ((h_count A hV.1 hV.2.2.1).trans (fb_cntA_8 (by decide)))
              subst e_69
              refine lv_icmp_ge (tgt := 165) hx hb dL_areLists_72 (by decide) (fun c_72 => ?_) (fun c_72 => ?_)
              · refine lv_iconst (v := nI (0)) hx hb dL_areLists_165 (by decide) ?_
                refine lv_istore_n (lv' := [(2, .int (nI (0))), (0, .ref (fa_B G + (0))), (1, .int (nI (1)))]) hx hb dL_areLists_166 rfl hl (by decide) rfl (fun ls hl => ?_)
                have LOOP_167 : ∀ (fu : Nat) (k2 : Nat) (H : Heap) (locs : List Loc) (ls : Array Slot), A.m - k2 < fu → (k2 ≤ A.m) → lv_has ls 4 [(0, .ref (fa_B G + (0))), (1, .int (nI (1))), (2, .int (nI (k2)))] → fa_HX G (n) v r s H locs → W p l e (fa_rm 4) s m args below meth c H locs (0) (0) Q (F0 m 167 ls []) := by
                  intro fu
                  induction fu with
                  | zero => intro k2 H locs ls hk; exact absurd hk (Nat.not_lt_zero _)
                  | succ fu ih_167 =>
                    intro k2 H locs ls hk_167 hi_167 hl HX1551
                    refine lv_iload_n hx hb dL_areLists_167 rfl (lv_at hl 2 rfl) ?_
                    refine lv_aload_n hx hb dL_areLists_168 rfl (lv_at hl 0 rfl) ?_
                    refine lv_bipush (v := nI (9)) hx hb dL_areLists_169 (by decide) ?_
                    refine fa_callVip (As := [.int (nI (9))]) (rest := [.int (nI (k2))]) CX HX1551 (g_count l G n hn v r hC (nI (9))) ln_L_15 (by omega) rfl rfl rfl rfl (Nat.le_of_ble_eq_true rfl) hl.1 ⟨Nat.le_of_ble_eq_true rfl, Nat.le_of_ble_eq_true rfl⟩ ⟨Nat.le_refl _, Nat.le_refl _⟩ dL_areLists_171 (fun x1553 H locs h1552 HX1554 => ?_)
                    have h_count := h1552
                    have e_171 : x1553 = nI (A.m) := ((h_count A hV.1 hV.2.2.1).trans (fb_cntA_9 (by decide)))
                    subst e_171
                    refine lv_icmp_ge (tgt := 288) hx hb dL_areLists_174 (by decide) (fun c_174 => ?_) (fun c_174 => ?_)
                    · refine lv_iload_n hx hb dL_areLists_288 rfl (lv_at hl 1 rfl) ?_
                      refine lv_if_eq (tgt := 312) hx hb dL_areLists_289 (by decide) (fun c_289 => ?_) (fun c_289 => ?_)
                      · exact absurd c_289 (by try decide)
                      · refine lv_aload_n hx hb dL_areLists_292 rfl (lv_at hl 0 rfl) ?_
                        refine lv_bipush (v := nI (7)) hx hb dL_areLists_293 (by decide) ?_
                        refine fa_callVip (As := [.int (nI (7))]) (rest := []) CX HX1554 (g_count l G n hn v r hC (nI (7))) ln_L_15 (by omega) rfl rfl rfl rfl (Nat.le_of_ble_eq_true rfl) hl.1 ⟨Nat.le_of_ble_eq_true rfl, Nat.le_of_ble_eq_true rfl⟩ ⟨Nat.le_refl _, Nat.le_refl _⟩ dL_areLists_295 (fun x1556 H locs h1555 HX1557 => ?_)
                        have h_count := h1555
                        have e_295 : x1556 = nI (dy / 90) := (((h_count A hV.1 hV.2.2.1).trans (fb_cntA_7 (by decide))).trans hk.2.2.2.1)
                        subst e_295
                        refine lv_aload_n hx hb dL_areLists_298 rfl (lv_at hl 0 rfl) ?_
                        refine fa_callVip (As := []) (rest := [.int (nI (dy / 90))]) CX HX1557 (g_now l G n hn v r hC ) ln_L_31 (by omega) rfl rfl rfl rfl (Nat.le_of_ble_eq_true rfl) hl.1 ⟨Nat.le_of_ble_eq_true rfl, Nat.le_of_ble_eq_true rfl⟩ ⟨Nat.le_refl _, Nat.le_refl _⟩ dL_areLists_299 (fun x1559 H locs h1558 HX1560 => ?_)
                        have h_now := h1558
                        have e_299 : x1559 = nI (dy) := ((h_now.trans hV.2.2.1.now).trans hk.1)
                        subst e_299
                        refine lv_bipush (v := nI (90)) hx hb dL_areLists_302 (by decide) ?_
                        refine lv_idiv hx hb dL_areLists_304 (by decide) ?_
                        refine lv_icmp_ne (tgt := 312) hx hb dL_areLists_305 (by decide) (fun c_305 => ?_) (fun c_305 => ?_)
                        · exact absurd (pk_div (by omega) (by decide) (by decide)).symm c_305
                        · refine lv_iconst (v := nI (1)) hx hb dL_areLists_308 (by decide) ?_
                          refine lv_goto (tgt := 313) hx hb dL_areLists_309 (by decide) ?_
                          exact RET _ _ _ _ _ _ _ HX1560 dL_areLists_313 (by decide) (⟨rfl, rfl⟩)
                    · have hk2 : k2 < A.m := fa_ltN (by omega) (by omega) c_174
                      obtain ⟨⟨e3, he3, ee3⟩, ⟨x0, hx0, ex0⟩, hns⟩ := hk.2.2.2.2.2.2.2.2.1 (A.m - 1 - k2) (by omega)
                      refine lv_iload_n hx hb dL_areLists_177 rfl (lv_at hl 1 rfl) ?_
                      refine lv_if_eq (tgt := 288) hx hb dL_areLists_178 (by decide) (fun c_178 => ?_) (fun c_178 => ?_)
                      · exact absurd c_178 (by try decide)
                      · refine lv_aload_n hx hb dL_areLists_181 rfl (lv_at hl 0 rfl) ?_
                        refine lv_iload_n hx hb dL_areLists_182 rfl (lv_at hl 2 rfl) ?_
                        refine lv_iconst (v := nI (3)) hx hb dL_areLists_183 (by decide) ?_
                        refine fa_callVip (As := [.int (nI (k2)), .int (nI (3))]) (rest := []) CX HX1554 (g_trace l G n hn v r hC (nI (k2)) (nI (3))) ln_L_41 (by omega) rfl rfl rfl rfl (Nat.le_of_ble_eq_true rfl) hl.1 ⟨Nat.le_of_ble_eq_true rfl, Nat.le_of_ble_eq_true rfl⟩ ⟨Nat.le_refl _, Nat.le_refl _⟩ dL_areLists_184 (fun x1562 H locs h1561 HX1563 => ?_)
                        have h_trace := h1561
                        have e_184 : x1562 = nI (90 * e3) := ((h_trace A hV.1 hV.2.2.1).trans ((fc_trc (k := k2) (by omega) hm12 (by decide)).trans ee3))
                        subst e_184
                        refine lv_bipush (v := nI (90)) hx hb dL_areLists_187 (by decide) ?_
                        refine lv_irem hx hb dL_areLists_189 (by decide) ?_
                        refine lv_if_ne (tgt := 280) hx hb dL_areLists_190 (by decide) (fun c_190 => ?_) (fun c_190 => ?_)
                        · exact absurd ((fc_rem (d := 90 * e3) (by omega)).mpr (by omega)) c_190
                        · refine lv_aload_n hx hb dL_areLists_193 rfl (lv_at hl 0 rfl) ?_
                          refine lv_iload_n hx hb dL_areLists_194 rfl (lv_at hl 2 rfl) ?_
                          refine lv_iconst (v := nI (3)) hx hb dL_areLists_195 (by decide) ?_
                          refine fa_callVip (As := [.int (nI (k2)), .int (nI (3))]) (rest := []) CX HX1563 (g_trace l G n hn v r hC (nI (k2)) (nI (3))) ln_L_41 (by omega) rfl rfl rfl rfl (Nat.le_of_ble_eq_true rfl) hl.1 ⟨Nat.le_of_ble_eq_true rfl, Nat.le_of_ble_eq_true rfl⟩ ⟨Nat.le_refl _, Nat.le_refl _⟩ dL_areLists_196 (fun x1565 H locs h1564 HX1566 => ?_)
                          have h_trace := h1564
                          have e_196 : x1565 = nI (90 * e3) := ((h_trace A hV.1 hV.2.2.1).trans ((fc_trc (k := k2) (by omega) hm12 (by decide)).trans ee3))
                          subst e_196
                          refine lv_aload_n hx hb dL_areLists_199 rfl (lv_at hl 0 rfl) ?_
                          refine fa_callVip (As := []) (rest := [.int (nI (90 * e3))]) CX HX1566 (g_now l G n hn v r hC ) ln_L_31 (by omega) rfl rfl rfl rfl (Nat.le_of_ble_eq_true rfl) hl.1 ⟨Nat.le_of_ble_eq_true rfl, Nat.le_of_ble_eq_true rfl⟩ ⟨Nat.le_refl _, Nat.le_refl _⟩ dL_areLists_200 (fun x1568 H locs h1567 HX1569 => ?_)
                          have h_now := h1567
                          have e_200 : x1568 = nI (dy) := ((h_now.trans hV.2.2.1.now).trans hk.1)
                          subst e_200
                          refine lv_icmp_gt (tgt := 280) hx hb dL_areLists_203 (by decide) (fun c_203 => ?_) (fun c_203 => ?_)
                          · exact absurd c_203 (nI_nlt (by omega) (by omega))
                          · refine lv_aload_n hx hb dL_areLists_206 rfl (lv_at hl 0 rfl) ?_
                            refine lv_aload_n hx hb dL_areLists_207 rfl (lv_at hl 0 rfl) ?_
                            refine lv_iload_n hx hb dL_areLists_208 rfl (lv_at hl 2 rfl) ?_
                            refine lv_iconst (v := nI (0)) hx hb dL_areLists_209 (by decide) ?_
                            refine fa_callVip (As := [.int (nI (k2)), .int (nI (0))]) (rest := [.ref (fa_B G + (0))]) CX HX1569 (g_trace l G n hn v r hC (nI (k2)) (nI (0))) ln_L_41 (by omega) rfl rfl rfl rfl (Nat.le_of_ble_eq_true rfl) hl.1 ⟨Nat.le_of_ble_eq_true rfl, Nat.le_of_ble_eq_true rfl⟩ ⟨Nat.le_refl _, Nat.le_refl _⟩ dL_areLists_210 (fun x1571 H locs h1570 HX1572 => ?_)
                            have h_trace := h1570
                            have e_210 : x1571 = nI (x0) := ((h_trace A hV.1 hV.2.2.1).trans ((fc_trc (k := k2) (by omega) hm12 (by decide)).trans ex0))
                            subst e_210
                            refine lv_iconst (v := nI (0)) hx hb dL_areLists_213 (by decide) ?_
                            refine fa_callVip (As := [.int (nI (x0)), .int (nI (0))]) (rest := []) CX HX1572 (g_file l G n hn v r hC (nI (x0)) (nI (0))) ln_L_9 (by omega) rfl rfl rfl rfl (Nat.le_of_ble_eq_true rfl) hl.1 ⟨Nat.le_of_ble_eq_true rfl, Nat.le_of_ble_eq_true rfl⟩ ⟨Nat.le_refl _, Nat.le_refl _⟩ dL_areLists_214 (fun x1574 H locs h1573 HX1575 => ?_)
                            have h_file := h1573
                            have e_214 : x1574 = (-1 : Int32) := ((h_file A hV.1 hV.2.2.1).trans (fb_filA_n (fb_ix_none (fun j hj => by rw [← ex0]; exact hns j hj))))
                            subst e_214
                            refine lv_iconst (v := (-1 : Int32)) hx hb dL_areLists_217 (by decide) ?_
                            refine lv_icmp_ne (tgt := 280) hx hb dL_areLists_218 (by decide) (fun c_218 => ?_) (fun c_218 => ?_)
                            · exact absurd (by try decide) c_218
                            · refine lv_iload_n hx hb dL_areLists_221 rfl (lv_at hl 2 rfl) ?_
                              refine lv_if_eq (tgt := 276) hx hb dL_areLists_222 (by decide) (fun c_222 => ?_) (fun c_222 => ?_)
                              · refine lv_iconst (v := nI (1)) hx hb dL_areLists_276 (by decide) ?_
                                refine lv_goto (tgt := 281) hx hb dL_areLists_277 (by decide) ?_
                                refine lv_istore_n (lv' := [(1, .int (nI (1))), (0, .ref (fa_B G + (0))), (2, .int (nI (k2)))]) hx hb dL_areLists_281 rfl hl (by decide) rfl (fun ls hl => ?_)
                                refine lv_iinc (v := nI (k2 + 1)) (lv' := [(2, .int (nI (k2 + 1))), (1, .int (nI (1))), (0, .ref (fa_B G + (0)))]) hx hb dL_areLists_282 hl (k := 2) rfl (nI_add (k2) 1) (by decide) rfl (fun ls hl => ?_)
                                refine lv_goto (tgt := 167) hx hb dL_areLists_285 (by decide) ?_
                                exact ih_167 (k2 + 1)  _ _ _ (by omega) (by omega) (lv_sub hl [2, 1, 0] rfl) HX1575
                              · have hk0 : 0 < k2 := by
                                  refine Nat.pos_of_ne_zero (fun z => c_222 ?_)
                                  rw [z]; decide
                                obtain ⟨⟨e4, he4, ee4⟩, ⟨x1, hx1, ex1⟩, -⟩ := hk.2.2.2.2.2.2.2.2.1 (A.m - 1 - (k2 - 1)) (by omega)
                                have hlt := hk.2.2.2.2.2.2.2.2.2 (A.m - 1 - k2) (A.m - 1 - (k2 - 1)) (by omega) (by omega)
                                rw [ee3, ex0, ee4, ex1] at hlt
                                refine lv_aload_n hx hb dL_areLists_225 rfl (lv_at hl 0 rfl) ?_
                                refine lv_iload_n hx hb dL_areLists_226 rfl (lv_at hl 2 rfl) ?_
                                refine lv_iconst (v := nI (1)) hx hb dL_areLists_227 (by decide) ?_
                                refine fa_isubN hx hb dL_areLists_228 (by omega) ?_
                                refine lv_iconst (v := nI (3)) hx hb dL_areLists_229 (by decide) ?_
                                refine fa_callVip (As := [.int (nI (k2 - 1)), .int (nI (3))]) (rest := []) CX HX1575 (g_trace l G n hn v r hC (nI (k2 - 1)) (nI (3))) ln_L_41 (by omega) rfl rfl rfl rfl (Nat.le_of_ble_eq_true rfl) hl.1 ⟨Nat.le_of_ble_eq_true rfl, Nat.le_of_ble_eq_true rfl⟩ ⟨Nat.le_refl _, Nat.le_refl _⟩ dL_areLists_230 (fun x1577 H locs h1576 HX1578 => ?_)
                                have h_trace := h1576
                                have e_230 : x1577 = nI (90 * e4) := ((h_trace A hV.1 hV.2.2.1).trans ((fc_trc (k := (k2 - 1)) (by omega) hm12 (by decide)).trans ee4))
                                subst e_230
                                refine lv_aload_n hx hb dL_areLists_233 rfl (lv_at hl 0 rfl) ?_
                                refine lv_iload_n hx hb dL_areLists_234 rfl (lv_at hl 2 rfl) ?_
                                refine lv_iconst (v := nI (3)) hx hb dL_areLists_235 (by decide) ?_
                                refine fa_callVip (As := [.int (nI (k2)), .int (nI (3))]) (rest := [.int (nI (90 * e4))]) CX HX1578 (g_trace l G n hn v r hC (nI (k2)) (nI (3))) ln_L_41 (by omega) rfl rfl rfl rfl (Nat.le_of_ble_eq_true rfl) hl.1 ⟨Nat.le_of_ble_eq_true rfl, Nat.le_of_ble_eq_true rfl⟩ ⟨Nat.le_refl _, Nat.le_refl _⟩ dL_areLists_236 (fun x1580 H locs h1579 HX1581 => ?_)
                                have h_trace := h1579
                                have e_236 : x1580 = nI (90 * e3) := ((h_trace A hV.1 hV.2.2.1).trans ((fc_trc (k := k2) (by omega) hm12 (by decide)).trans ee3))
                                subst e_236
                                refine lv_icmp_gt (tgt := 276) hx hb dL_areLists_239 (by decide) (fun c_239 => ?_) (fun c_239 => ?_)
                                · refine lv_iconst (v := nI (1)) hx hb dL_areLists_276 (by decide) ?_
                                  refine lv_goto (tgt := 281) hx hb dL_areLists_277 (by decide) ?_
                                  refine lv_istore_n (lv' := [(1, .int (nI (1))), (0, .ref (fa_B G + (0))), (2, .int (nI (k2)))]) hx hb dL_areLists_281 rfl hl (by decide) rfl (fun ls hl => ?_)
                                  refine lv_iinc (v := nI (k2 + 1)) (lv' := [(2, .int (nI (k2 + 1))), (1, .int (nI (1))), (0, .ref (fa_B G + (0)))]) hx hb dL_areLists_282 hl (k := 2) rfl (nI_add (k2) 1) (by decide) rfl (fun ls hl => ?_)
                                  refine lv_goto (tgt := 167) hx hb dL_areLists_285 (by decide) ?_
                                  exact ih_167 (k2 + 1)  _ _ _ (by omega) (by omega) (lv_sub hl [2, 1, 0] rfl) HX1581
                                · refine lv_aload_n hx hb dL_areLists_242 rfl (lv_at hl 0 rfl) ?_
                                  refine lv_iload_n hx hb dL_areLists_243 rfl (lv_at hl 2 rfl) ?_
                                  refine lv_iconst (v := nI (1)) hx hb dL_areLists_244 (by decide) ?_
                                  refine fa_isubN hx hb dL_areLists_245 (by omega) ?_
                                  refine lv_iconst (v := nI (3)) hx hb dL_areLists_246 (by decide) ?_
                                  refine fa_callVip (As := [.int (nI (k2 - 1)), .int (nI (3))]) (rest := []) CX HX1581 (g_trace l G n hn v r hC (nI (k2 - 1)) (nI (3))) ln_L_41 (by omega) rfl rfl rfl rfl (Nat.le_of_ble_eq_true rfl) hl.1 ⟨Nat.le_of_ble_eq_true rfl, Nat.le_of_ble_eq_true rfl⟩ ⟨Nat.le_refl _, Nat.le_refl _⟩ dL_areLists_247 (fun x1583 H locs h1582 HX1584 => ?_)
                                  have h_trace := h1582
                                  have e_247 : x1583 = nI (90 * e4) := ((h_trace A hV.1 hV.2.2.1).trans ((fc_trc (k := (k2 - 1)) (by omega) hm12 (by decide)).trans ee4))
                                  subst e_247
                                  refine lv_aload_n hx hb dL_areLists_250 rfl (lv_at hl 0 rfl) ?_
                                  refine lv_iload_n hx hb dL_areLists_251 rfl (lv_at hl 2 rfl) ?_
                                  refine lv_iconst (v := nI (3)) hx hb dL_areLists_252 (by decide) ?_
                                  refine fa_callVip (As := [.int (nI (k2)), .int (nI (3))]) (rest := [.int (nI (90 * e4))]) CX HX1584 (g_trace l G n hn v r hC (nI (k2)) (nI (3))) ln_L_41 (by omega) rfl rfl rfl rfl (Nat.le_of_ble_eq_true rfl) hl.1 ⟨Nat.le_of_ble_eq_true rfl, Nat.le_of_ble_eq_true rfl⟩ ⟨Nat.le_refl _, Nat.le_refl _⟩ dL_areLists_253 (fun x1586 H locs h1585 HX1587 => ?_)
                                  have h_trace := h1585
                                  have e_253 : x1586 = nI (90 * e3) := ((h_trace A hV.1 hV.2.2.1).trans ((fc_trc (k := k2) (by omega) hm12 (by decide)).trans ee3))
                                  subst e_253
                                  refine lv_icmp_ne (tgt := 280) hx hb dL_areLists_256 (by decide) (fun c_256 => ?_) (fun c_256 => ?_)
                                  · exact absurd (hlt.resolve_left c_239).1.symm c_256
                                  · refine lv_aload_n hx hb dL_areLists_259 rfl (lv_at hl 0 rfl) ?_
                                    refine lv_iload_n hx hb dL_areLists_260 rfl (lv_at hl 2 rfl) ?_
                                    refine lv_iconst (v := nI (1)) hx hb dL_areLists_261 (by decide) ?_
                                    refine fa_isubN hx hb dL_areLists_262 (by omega) ?_
                                    refine lv_iconst (v := nI (0)) hx hb dL_areLists_263 (by decide) ?_
                                    refine fa_callVip (As := [.int (nI (k2 - 1)), .int (nI (0))]) (rest := []) CX HX1587 (g_trace l G n hn v r hC (nI (k2 - 1)) (nI (0))) ln_L_41 (by omega) rfl rfl rfl rfl (Nat.le_of_ble_eq_true rfl) hl.1 ⟨Nat.le_of_ble_eq_true rfl, Nat.le_of_ble_eq_true rfl⟩ ⟨Nat.le_refl _, Nat.le_refl _⟩ dL_areLists_264 (fun x1589 H locs h1588 HX1590 => ?_)
                                    have h_trace := h1588
                                    have e_264 : x1589 = nI (x1) := ((h_trace A hV.1 hV.2.2.1).trans ((fc_trc (k := (k2 - 1)) (by omega) hm12 (by decide)).trans ex1))
                                    subst e_264
                                    refine lv_aload_n hx hb dL_areLists_267 rfl (lv_at hl 0 rfl) ?_
                                    refine lv_iload_n hx hb dL_areLists_268 rfl (lv_at hl 2 rfl) ?_
                                    refine lv_iconst (v := nI (0)) hx hb dL_areLists_269 (by decide) ?_
                                    refine fa_callVip (As := [.int (nI (k2)), .int (nI (0))]) (rest := [.int (nI (x1))]) CX HX1590 (g_trace l G n hn v r hC (nI (k2)) (nI (0))) ln_L_41 (by omega) rfl rfl rfl rfl (Nat.le_of_ble_eq_true rfl) hl.1 ⟨Nat.le_of_ble_eq_true rfl, Nat.le_of_ble_eq_true rfl⟩ ⟨Nat.le_refl _, Nat.le_refl _⟩ dL_areLists_270 (fun x1592 H locs h1591 HX1593 => ?_)
                                    have h_trace := h1591
                                    have e_270 : x1592 = nI (x0) := ((h_trace A hV.1 hV.2.2.1).trans ((fc_trc (k := k2) (by omega) hm12 (by decide)).trans ex0))
                                    subst e_270
                                    refine lv_icmp_le (tgt := 280) hx hb dL_areLists_273 (by decide) (fun c_273 => ?_) (fun c_273 => ?_)
                                    · exact absurd c_273 (Int32.not_le.mpr (hlt.resolve_left c_239).2)
                                    · refine lv_iconst (v := nI (1)) hx hb dL_areLists_276 (by decide) ?_
                                      refine lv_goto (tgt := 281) hx hb dL_areLists_277 (by decide) ?_
                                      refine lv_istore_n (lv' := [(1, .int (nI (1))), (0, .ref (fa_B G + (0))), (2, .int (nI (k2)))]) hx hb dL_areLists_281 rfl hl (by decide) rfl (fun ls hl => ?_)
                                      refine lv_iinc (v := nI (k2 + 1)) (lv' := [(2, .int (nI (k2 + 1))), (1, .int (nI (1))), (0, .ref (fa_B G + (0)))]) hx hb dL_areLists_282 hl (k := 2) rfl (nI_add (k2) 1) (by decide) rfl (fun ls hl => ?_)
                                      refine lv_goto (tgt := 167) hx hb dL_areLists_285 (by decide) ?_
                                      exact ih_167 (k2 + 1)  _ _ _ (by omega) (by omega) (lv_sub hl [2, 1, 0] rfl) HX1593
                exact LOOP_167 (A.m - 0 + 1) (0)  _ _ _ (Nat.lt_succ_self _) (Nat.zero_le _) (lv_sub hl [1, 2, 0] rfl) HX1550
              · have hk1 : k1 < A.q.length := fa_ltN (by omega) (by omega) c_72
                have hrs := hok.2.2.2.2 _ (fc_rs_q hP hk1)
                refine lv_iload_n hx hb dL_areLists_75 rfl (lv_at hl 1 rfl) ?_
                refine lv_if_eq (tgt := 165) hx hb dL_areLists_76 (by decide) (fun c_76 => ?_) (fun c_76 => ?_)
                · exact absurd c_76 (by try decide)
                · refine lv_aload_n hx hb dL_areLists_79 rfl (lv_at hl 0 rfl) ?_
                  refine lv_iload_n hx hb dL_areLists_80 rfl (lv_at hl 2 rfl) ?_
                  refine lv_iconst (v := nI (1)) hx hb dL_areLists_81 (by decide) ?_
                  refine fa_callVip (As := [.int (nI (k1)), .int (nI (1))]) (rest := []) CX HX1550 (g_reservation l G n hn v r hC (nI (k1)) (nI (1))) ln_L_38 (by omega) rfl rfl rfl rfl (Nat.le_of_ble_eq_true rfl) hl.1 ⟨Nat.le_of_ble_eq_true rfl, Nat.le_of_ble_eq_true rfl⟩ ⟨Nat.le_refl _, Nat.le_refl _⟩ dL_areLists_82 (fun x1595 H locs h1594 HX1596 => ?_)
                  have h_reservation := h1594
                  have e_82 : x1595 = (fc_el L k1).2 := (fc_rs_2 hP hS hq8 hk1 (h_reservation A hV.1 hV.2.2.1))
                  subst e_82
                  refine lv_istore_n (lv' := [(3, .int ((fc_el L k1).2)), (0, .ref (fa_B G + (0))), (1, .int (nI (1))), (2, .int (nI (k1)))]) hx hb dL_areLists_85 rfl hl (by decide) rfl (fun ls hl => ?_)
                  refine lv_iload_n hx hb dL_areLists_86 rfl (lv_at hl 0 rfl) ?_
                  refine lv_aload_n hx hb dL_areLists_87 rfl (lv_at hl 1 rfl) ?_
                  refine fa_callVip (As := []) (rest := [.int ((fc_el L k1).2)]) CX HX1596 (g_now l G n hn v r hC ) ln_L_31 (by omega) rfl rfl rfl rfl (Nat.le_of_ble_eq_true rfl) hl.1 ⟨Nat.le_of_ble_eq_true rfl, Nat.le_of_ble_eq_true rfl⟩ ⟨Nat.le_refl _, Nat.le_refl _⟩ dL_areLists_88 (fun x1598 H locs h1597 HX1599 => ?_)
                  have h_now := h1597
                  have e_88 : x1598 = nI (dy) := ((h_now.trans hV.2.2.1.now).trans hk.1)
                  subst e_88
                  refine lv_icmp_le (tgt := 157) hx hb dL_areLists_91 (by decide) (fun c_91 => ?_) (fun c_91 => ?_)
                  · exact absurd c_91 (by rw [← hk.1]; exact Int32.not_le.mpr hrs.1)
                  · refine lv_aload_n hx hb dL_areLists_94 rfl (lv_at hl 1 rfl) ?_
                    refine lv_aload_n hx hb dL_areLists_95 rfl (lv_at hl 1 rfl) ?_
                    refine lv_iload_n hx hb dL_areLists_96 rfl (lv_at hl 3 rfl) ?_
                    refine lv_iconst (v := nI (0)) hx hb dL_areLists_97 (by decide) ?_
                    refine fa_callVip (As := [.int (nI (k1)), .int (nI (0))]) (rest := [.ref (fa_B G + (0))]) CX HX1599 (g_reservation l G n hn v r hC (nI (k1)) (nI (0))) ln_L_38 (by omega) rfl rfl rfl rfl (Nat.le_of_ble_eq_true rfl) hl.1 ⟨Nat.le_of_ble_eq_true rfl, Nat.le_of_ble_eq_true rfl⟩ ⟨Nat.le_refl _, Nat.le_refl _⟩ dL_areLists_98 (fun x1601 H locs h1600 HX1602 => ?_)
                    have h_reservation := h1600
                    have e_98 : x1601 = (fc_el L k1).1 := (fc_rs_1 hP hS hq8 hk1 (h_reservation A hV.1 hV.2.2.1))
                    subst e_98
                    refine lv_iconst (v := nI (0)) hx hb dL_areLists_101 (by decide) ?_
                    refine fa_callVip (As := [.int ((fc_el L k1).1), .int (nI (0))]) (rest := []) CX HX1602 (g_file l G n hn v r hC ((fc_el L k1).1) (nI (0))) ln_L_9 (by omega) rfl rfl rfl rfl (Nat.le_of_ble_eq_true rfl) hl.1 ⟨Nat.le_of_ble_eq_true rfl, Nat.le_of_ble_eq_true rfl⟩ ⟨Nat.le_refl _, Nat.le_refl _⟩ dL_areLists_102 (fun x1604 H locs h1603 HX1605 => ?_)
                    have h_file := h1603
                    have e_102 : x1604 = fb_filA A (fc_el L k1).1 (nI 0) := (h_file A hV.1 hV.2.2.1)
                    subst e_102
                    refine lv_if_lt (tgt := 157) hx hb dL_areLists_105 (by decide) (fun c_105 => ?_) (fun c_105 => ?_)
                    · exact absurd c_105 (fc_rs_f hok hP hk1)
                    · refine lv_iload_n hx hb dL_areLists_108 rfl (lv_at hl 3 rfl) ?_
                      refine lv_if_eq (tgt := 153) hx hb dL_areLists_109 (by decide) (fun c_109 => ?_) (fun c_109 => ?_)
                      · refine lv_iconst (v := nI (1)) hx hb dL_areLists_153 (by decide) ?_
                        refine lv_goto (tgt := 158) hx hb dL_areLists_154 (by decide) ?_
                        refine lv_istore_n (lv' := [(1, .int (nI (1))), (3, .int ((fc_el L k1).2)), (0, .ref (fa_B G + (0))), (2, .int (nI (k1)))]) hx hb dL_areLists_158 rfl hl (by decide) rfl (fun ls hl => ?_)
                        refine lv_iinc (v := nI (k1 + 1)) (lv' := [(2, .int (nI (k1 + 1))), (1, .int (nI (1))), (3, .int ((fc_el L k1).2)), (0, .ref (fa_B G + (0)))]) hx hb dL_areLists_159 hl (k := 3) rfl (nI_add (k1) 1) (by decide) rfl (fun ls hl => ?_)
                        refine lv_goto (tgt := 65) hx hb dL_areLists_162 (by decide) ?_
                        exact ih_65 (k1 + 1)  _ _ _ (by omega) (by omega) (lv_sub hl [3, 1, 0] rfl) HX1605
                      · have hk0 : 0 < k1 := by
                          refine Nat.pos_of_ne_zero (fun z => c_109 ?_)
                          rw [z]; decide
                        have hbe := fc_rs_b hP hS hk1 hk0
                        refine lv_aload_n hx hb dL_areLists_112 rfl (lv_at hl 1 rfl) ?_
                        refine lv_iload_n hx hb dL_areLists_113 rfl (lv_at hl 3 rfl) ?_
                        refine lv_iconst (v := nI (1)) hx hb dL_areLists_114 (by decide) ?_
                        refine fa_isubN hx hb dL_areLists_115 (by omega) ?_
                        refine lv_iconst (v := nI (1)) hx hb dL_areLists_116 (by decide) ?_
                        refine fa_callVip (As := [.int (nI (k1 - 1)), .int (nI (1))]) (rest := []) CX HX1605 (g_reservation l G n hn v r hC (nI (k1 - 1)) (nI (1))) ln_L_38 (by omega) rfl rfl rfl rfl (Nat.le_of_ble_eq_true rfl) hl.1 ⟨Nat.le_of_ble_eq_true rfl, Nat.le_of_ble_eq_true rfl⟩ ⟨Nat.le_refl _, Nat.le_refl _⟩ dL_areLists_117 (fun x1607 H locs h1606 HX1608 => ?_)
                        have h_reservation := h1606
                        have e_117 : x1607 = (fc_el L (k1 - 1)).2 := (fc_rs_2 hP hS hq8 (by omega) (h_reservation A hV.1 hV.2.2.1))
                        subst e_117
                        refine lv_iload_n hx hb dL_areLists_120 rfl (lv_at hl 0 rfl) ?_
                        refine lv_icmp_lt (tgt := 153) hx hb dL_areLists_121 (by decide) (fun c_121 => ?_) (fun c_121 => ?_)
                        · refine lv_iconst (v := nI (1)) hx hb dL_areLists_153 (by decide) ?_
                          refine lv_goto (tgt := 158) hx hb dL_areLists_154 (by decide) ?_
                          refine lv_istore_n (lv' := [(1, .int (nI (1))), (3, .int ((fc_el L k1).2)), (0, .ref (fa_B G + (0))), (2, .int (nI (k1)))]) hx hb dL_areLists_158 rfl hl (by decide) rfl (fun ls hl => ?_)
                          refine lv_iinc (v := nI (k1 + 1)) (lv' := [(2, .int (nI (k1 + 1))), (1, .int (nI (1))), (3, .int ((fc_el L k1).2)), (0, .ref (fa_B G + (0)))]) hx hb dL_areLists_159 hl (k := 3) rfl (nI_add (k1) 1) (by decide) rfl (fun ls hl => ?_)
                          refine lv_goto (tgt := 65) hx hb dL_areLists_162 (by decide) ?_
                          exact ih_65 (k1 + 1)  _ _ _ (by omega) (by omega) (lv_sub hl [3, 1, 0] rfl) HX1608
                        · refine lv_aload_n hx hb dL_areLists_124 rfl (lv_at hl 1 rfl) ?_
                          refine lv_iload_n hx hb dL_areLists_125 rfl (lv_at hl 3 rfl) ?_
                          refine lv_iconst (v := nI (1)) hx hb dL_areLists_126 (by decide) ?_
                          refine fa_isubN hx hb dL_areLists_127 (by omega) ?_
                          refine lv_iconst (v := nI (1)) hx hb dL_areLists_128 (by decide) ?_
                          refine fa_callVip (As := [.int (nI (k1 - 1)), .int (nI (1))]) (rest := []) CX HX1608 (g_reservation l G n hn v r hC (nI (k1 - 1)) (nI (1))) ln_L_38 (by omega) rfl rfl rfl rfl (Nat.le_of_ble_eq_true rfl) hl.1 ⟨Nat.le_of_ble_eq_true rfl, Nat.le_of_ble_eq_true rfl⟩ ⟨Nat.le_refl _, Nat.le_refl _⟩ dL_areLists_129 (fun x1610 H locs h1609 HX1611 => ?_)
                          have h_reservation := h1609
                          have e_129 : x1610 = (fc_el L (k1 - 1)).2 := (fc_rs_2 hP hS hq8 (by omega) (h_reservation A hV.1 hV.2.2.1))
                          subst e_129
                          refine lv_iload_n hx hb dL_areLists_132 rfl (lv_at hl 0 rfl) ?_
                          refine lv_icmp_ne (tgt := 157) hx hb dL_areLists_133 (by decide) (fun c_133 => ?_) (fun c_133 => ?_)
                          · exact absurd (hbe.resolve_left c_121).1 c_133
                          · refine lv_aload_n hx hb dL_areLists_136 rfl (lv_at hl 1 rfl) ?_
                            refine lv_iload_n hx hb dL_areLists_137 rfl (lv_at hl 3 rfl) ?_
                            refine lv_iconst (v := nI (1)) hx hb dL_areLists_138 (by decide) ?_
                            refine fa_isubN hx hb dL_areLists_139 (by omega) ?_
                            refine lv_iconst (v := nI (0)) hx hb dL_areLists_140 (by decide) ?_
                            refine fa_callVip (As := [.int (nI (k1 - 1)), .int (nI (0))]) (rest := []) CX HX1611 (g_reservation l G n hn v r hC (nI (k1 - 1)) (nI (0))) ln_L_38 (by omega) rfl rfl rfl rfl (Nat.le_of_ble_eq_true rfl) hl.1 ⟨Nat.le_of_ble_eq_true rfl, Nat.le_of_ble_eq_true rfl⟩ ⟨Nat.le_refl _, Nat.le_refl _⟩ dL_areLists_141 (fun x1613 H locs h1612 HX1614 => ?_)
                            have h_reservation := h1612
                            have e_141 : x1613 = (fc_el L (k1 - 1)).1 := (fc_rs_1 hP hS hq8 (by omega) (h_reservation A hV.1 hV.2.2.1))
                            subst e_141
                            refine lv_aload_n hx hb dL_areLists_144 rfl (lv_at hl 1 rfl) ?_
                            refine lv_iload_n hx hb dL_areLists_145 rfl (lv_at hl 3 rfl) ?_
                            refine lv_iconst (v := nI (0)) hx hb dL_areLists_146 (by decide) ?_
                            refine fa_callVip (As := [.int (nI (k1)), .int (nI (0))]) (rest := [.int ((fc_el L (k1 - 1)).1)]) CX HX1614 (g_reservation l G n hn v r hC (nI (k1)) (nI (0))) ln_L_38 (by omega) rfl rfl rfl rfl (Nat.le_of_ble_eq_true rfl) hl.1 ⟨Nat.le_of_ble_eq_true rfl, Nat.le_of_ble_eq_true rfl⟩ ⟨Nat.le_refl _, Nat.le_refl _⟩ dL_areLists_147 (fun x1616 H locs h1615 HX1617 => ?_)
                            have h_reservation := h1615
                            have e_147 : x1616 = (fc_el L k1).1 := (fc_rs_1 hP hS hq8 hk1 (h_reservation A hV.1 hV.2.2.1))
                            subst e_147
                            refine lv_icmp_ge (tgt := 157) hx hb dL_areLists_150 (by decide) (fun c_150 => ?_) (fun c_150 => ?_)
                            · exact absurd c_150 (Int32.not_le.mpr (hbe.resolve_left c_121).2)
                            · refine lv_iconst (v := nI (1)) hx hb dL_areLists_153 (by decide) ?_
                              refine lv_goto (tgt := 158) hx hb dL_areLists_154 (by decide) ?_
                              refine lv_istore_n (lv' := [(1, .int (nI (1))), (3, .int ((fc_el L k1).2)), (0, .ref (fa_B G + (0))), (2, .int (nI (k1)))]) hx hb dL_areLists_158 rfl hl (by decide) rfl (fun ls hl => ?_)
                              refine lv_iinc (v := nI (k1 + 1)) (lv' := [(2, .int (nI (k1 + 1))), (1, .int (nI (1))), (3, .int ((fc_el L k1).2)), (0, .ref (fa_B G + (0)))]) hx hb dL_areLists_159 hl (k := 3) rfl (nI_add (k1) 1) (by decide) rfl (fun ls hl => ?_)
                              refine lv_goto (tgt := 65) hx hb dL_areLists_162 (by decide) ?_
                              exact ih_65 (k1 + 1)  _ _ _ (by omega) (by omega) (lv_sub hl [3, 1, 0] rfl) HX1617
          exact LOOP_65 (A.q.length - 0 + 1) (0)  _ _ _ (Nat.lt_succ_self _) (Nat.zero_le _) (lv_sub hl [2, 1, 0] rfl) HX1546
