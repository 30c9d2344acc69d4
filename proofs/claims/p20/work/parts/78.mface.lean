set_option maxHeartbeats 4000000 in
set_option maxRecDepth 100000 in
theorem r_recorded (l : Launch) (G : fa_G) (n : Nat) (hn : 406 ≤ n) (v : fa_V) (r : fa_R) (hM : fa_RM r) (hJ : fa_MJ v) (a1 : Int32) : fa_MI l G n yX7_recorded cX7_recorded 3 (some .int) 2 [.ref (fa_B G + (397)), .int (a1)] v r (fa_voi r (fun x v1 => ((fa_MJ v1) ∧ (v1 397 9 = v 397 9) ∧ (v1 397 8 = v 397 8) ∧ (x = a1 ∧ v1 398 = v 398 ∧ ∀ A H, fb_okA A → fb_mA (v 399) A → fb_mH v H → fb_mH v1 (fb_rec H A a1))) ∧ (fa_fr (397) (402) v v1))) := by
  refine fa_startI (by decide +kernel) (Nat.le_of_ble_eq_true rfl) (fun p e s m args below meth c ls Q CX hl HX RET => ?_)
  have hl : lv_has ls 3 [(0, .ref (fa_B G + (397))), (1, .int (a1))] := hl
  have hx := CX.1.1
  have hb := CX.1.2.1
  have hS := hJ.1
  obtain ⟨n4, en4⟩ : ∃ m, m = fa_N (v 398 14) := ⟨_, rfl⟩
  obtain ⟨hn4, g4⟩ := hS.n4 en4
  obtain ⟨n5, en5⟩ : ∃ m, m = fa_N (v 398 15) := ⟨_, rfl⟩
  obtain ⟨hn5, g5⟩ := hS.n5 en5
  obtain ⟨n6, en6⟩ : ∃ m, m = fa_N (v 398 16) := ⟨_, rfl⟩
  obtain ⟨hn6, g6⟩ := hS.n6 en6
  obtain ⟨n10, hn10, g10⟩ := hJ.2.2.2.2.1
  obtain ⟨n9, hn9, g9⟩ := hJ.2.2.2.2.2
  refine lv_iload_n hx hb dX7_recorded_0 rfl (lv_at hl 1 rfl) ?_
  refine lv_if_ge (tgt := 10) hx hb dX7_recorded_1 (by decide) (fun c_1 => ?_) (fun c_1 => ?_)
  · refine lv_aload_n hx hb dX7_recorded_10 rfl (lv_at hl 0 rfl) ?_
    refine fa_geti (k := 397) CX HX fl_X7_40 (by omega) rfl rfl dX7_recorded_11 ?_
    rw [show v 397 10 = nI (n10) from g10]
    refine lv_iconst (v := nI (4)) hx hb dX7_recorded_14 (by decide) ?_
    refine lv_icmp_ne (tgt := 59) hx hb dX7_recorded_15 (by decide) (fun c_15 => ?_) (fun c_15 => ?_)
    · have hne : ¬ n10 = 4 := fun z => c_15 (by rw [z])
      refine lv_iconst (v := nI (0)) hx hb dX7_recorded_59 (by decide) ?_
      refine lv_istore_n (lv' := [(2, .int (nI (0))), (0, .ref (fa_B G + (397))), (1, .int (a1))]) hx hb dX7_recorded_60 rfl hl (by decide) rfl (fun ls hl => ?_)
      have LOOP_61 : ∀ (fu : Nat) (k : Nat) (v2500 : fa_V) (H : Heap) (locs : List Loc) (ls : Array Slot), 453 - k < fu → (k ≤ 453 ∧ fa_MB (v2500 401) ∧ fa_fr 401 402 v v2500 ∧ ∀ i, v2500 401 i = if 453 * n10 ≤ i ∧ i < 453 * n10 + k then v 399 (i - 453 * n10) else v 401 i) → lv_has ls 3 [(0, .ref (fa_B G + (397))), (1, .int (a1)), (2, .int (nI (k)))] → fa_HX G (n) v2500 r s H locs → W p l e (fa_rm 2) s m args below meth c H locs (0) (0) Q (F0 m 61 ls []) := by
        intro fu
        induction fu with
        | zero => intro k v2500 H locs ls hk; exact absurd hk (Nat.not_lt_zero _)
        | succ fu ih_61 =>
          intro k v2500 H locs ls hk_61 hi_61 hl HX2501
          refine lv_iload_n hx hb dX7_recorded_61 rfl (lv_at hl 2 rfl) ?_
          refine lv_sipush (v := nI (453)) hx hb dX7_recorded_62 (by decide) ?_
          refine lv_icmp_ge (tgt := 95) hx hb dX7_recorded_65 (by decide) (fun c_65 => ?_) (fun c_65 => ?_)
          · refine lv_aload_n hx hb dX7_recorded_95 rfl (lv_at hl 0 rfl) ?_
            refine lv_dup hx hb dX7_recorded_96 rfl ?_
            refine fa_geti (k := 397) CX HX2501 fl_X7_40 (by omega) rfl rfl dX7_recorded_97 ?_
            rw [show v2500 397 10 = nI (n10) from (by rw [hi_61.2.2.1 _ (by omega)]; exact g10)]
            refine lv_iconst (v := nI (1)) hx hb dX7_recorded_100 (by decide) ?_
            refine fa_iaddN hx hb dX7_recorded_101 ?_
            refine fa_puti (k := 397) CX HX2501 fl_X7_40 (by omega) rfl rfl rfl rfl dX7_recorded_102 (fun H locs v2502 e2503 HX2504 => ?_)
            refine lv_iload_n hx hb dX7_recorded_105 rfl (lv_at hl 1 rfl) ?_
            exact RET _ _ _ _ _ _ _ HX2504 dX7_recorded_106 (⟨rfl, ⟨⟨(show fa_MJ v2502 from ⟨(show fa_MS (v2502 398) from by rw [e2503, fa_u_k _ _ (by decide)]; exact (show fa_MS (v2500 398) from by rw [hi_61.2.2.1 398 (by omega)]; exact hJ.1)), (show fa_MS (v2502 399) from by rw [e2503, fa_u_k _ _ (by decide)]; exact (show fa_MS (v2500 399) from by rw [hi_61.2.2.1 399 (by omega)]; exact hJ.2.1)), (show fa_MS (v2502 400) from by rw [e2503, fa_u_k _ _ (by decide)]; exact (show fa_MS (v2500 400) from by rw [hi_61.2.2.1 400 (by omega)]; exact hJ.2.2.1)), (show fa_MB (v2502 401) from by rw [e2503, fa_u_k _ _ (by decide)]; exact hi_61.2.1), ⟨n10 + 1, by omega, (by rw [e2503, fa_u_s])⟩, ⟨n9, by omega, (by rw [e2503, fa_u_n _ _ (by omega)]; exact (by rw [hi_61.2.2.1 _ (by omega)]; exact g9))⟩⟩), (show v2502 397 9 = v 397 9 from ((show v2502 397 9 = nI (n9) from (by rw [e2503, fa_u_n _ _ (by omega)]; exact (by rw [hi_61.2.2.1 _ (by omega)]; exact g9))).trans g9.symm)), (show v2502 397 8 = v 397 8 from ((show v2502 397 8 = v2500 397 8 from by rw [e2503, fa_u_n _ _ (by omega)]).trans (congrFun (hi_61.2.2.1 397 (by omega)) 8))), ⟨rfl, (show v2502 398 = v 398 from by rw [e2503, fa_u_k _ _ (by decide), hi_61.2.2.1 398 (by omega)]), fun A H o m h => by (rw [fb_rec_y (Or.inl c_1)]; exact fb_m_rec1 o m h g10 hn10 hne (fa_leN (by omega) (by omega) c_65) hi_61.1 hi_61.2.2.2 e2503)⟩⟩, (by rw [e2503]; exact fa_fr.u (fa_fr.tr fa_fr.rf (fa_fr.wide hi_61.2.2.1 (by omega) (by omega))) (by omega))⟩⟩)
          · have hk := fa_ltN (by omega) (by omega) c_65
            refine lv_aload_n hx hb dX7_recorded_68 rfl (lv_at hl 0 rfl) ?_
            refine fa_getr (k := 397) (j := 401) CX HX2501 fl_X7_19 (by omega) rfl rfl hM.2.2.2.1 dX7_recorded_69 ?_
            refine lv_sipush (v := nI (453)) hx hb dX7_recorded_72 (by decide) ?_
            refine lv_aload_n hx hb dX7_recorded_75 rfl (lv_at hl 0 rfl) ?_
            refine fa_geti (k := 397) CX HX2501 fl_X7_40 (by omega) rfl rfl dX7_recorded_76 ?_
            rw [show v2500 397 10 = nI (n10) from (by rw [hi_61.2.2.1 _ (by omega)]; exact g10)]
            refine fa_imulN hx hb dX7_recorded_79 ?_
            refine lv_iload_n hx hb dX7_recorded_80 rfl (lv_at hl 2 rfl) ?_
            refine fa_iaddN hx hb dX7_recorded_81 ?_
            refine lv_aload_n hx hb dX7_recorded_82 rfl (lv_at hl 0 rfl) ?_
            refine fa_getr (k := 397) (j := 399) CX HX2501 fl_X7_13 (by omega) rfl rfl hM.2.1 dX7_recorded_83 ?_
            refine lv_iload_n hx hb dX7_recorded_86 rfl (lv_at hl 2 rfl) ?_
            refine fa_iald (k := 399) (j := k) CX HX2501 (by omega) rfl (by omega) (by first | decide | assumption) dX7_recorded_87 ?_
            refine fa_iast (k := 401) (j := 453 * n10 + k) CX HX2501 (by omega) rfl (by omega) (by first | decide | assumption) dX7_recorded_88 (fun H locs v2505 e2506 HX2507 => ?_)
            refine lv_iinc (v := nI (k + 1)) (lv' := [(2, .int (nI (k + 1))), (0, .ref (fa_B G + (397))), (1, .int (a1))]) hx hb dX7_recorded_89 hl (k := 2) rfl (nI_add (k) 1) (by decide) rfl (fun ls hl => ?_)
            refine lv_goto (tgt := 61) hx hb dX7_recorded_92 (by decide) ?_
            exact ih_61 (k + 1) v2505 _ _ _ (by omega) (⟨by omega, (show fa_MB (v2505 401) from by rw [e2506]; exact fa_MB.u hi_61.2.1 (fa_okb (by omega) ((show fa_MS (v2500 399) from by rw [hi_61.2.2.1 399 (by omega)]; exact hJ.2.1) k (by omega)))), (by rw [e2506]; exact fa_fr.u hi_61.2.2.1 (by omega)), fb_m_cpy (f := v 399) (g := v 401) hi_61.2.2.2 e2506 (congrFun (hi_61.2.2.1 399 (by omega)) k)⟩) (lv_sub hl [1, 2, 0] rfl) HX2507
      exact LOOP_61 (453 - 0 + 1) (0) v _ _ _ (Nat.lt_succ_self _) (⟨Nat.zero_le _, hJ.2.2.2.1, fa_fr.rf, fun i => (if_neg (by omega)).symm⟩) (lv_sub hl [1, 2, 0] rfl) HX
    · have he : n10 = 4 := fa_nIinj (by omega) (by omega) c_15
      refine lv_iconst (v := nI (0)) hx hb dX7_recorded_18 (by decide) ?_
      refine lv_istore_n (lv' := [(2, .int (nI (0))), (0, .ref (fa_B G + (397))), (1, .int (a1))]) hx hb dX7_recorded_19 rfl hl (by decide) rfl (fun ls hl => ?_)
      have LOOP_20 : ∀ (fu : Nat) (k : Nat) (v2508 : fa_V) (H : Heap) (locs : List Loc) (ls : Array Slot), 1359 - k < fu → (k ≤ 1359 ∧ fa_MB (v2508 401) ∧ fa_fr 401 402 v v2508 ∧ ∀ i, v2508 401 i = if i < k then v 401 (453 + i) else v 401 i) → lv_has ls 3 [(0, .ref (fa_B G + (397))), (1, .int (a1)), (2, .int (nI (k)))] → fa_HX G (n) v2508 r s H locs → W p l e (fa_rm 2) s m args below meth c H locs (0) (0) Q (F0 m 20 ls []) := by
        intro fu
        induction fu with
        | zero => intro k v2508 H locs ls hk; exact absurd hk (Nat.not_lt_zero _)
        | succ fu ih_20 =>
          intro k v2508 H locs ls hk_20 hi_20 hl HX2509
          refine lv_iload_n hx hb dX7_recorded_20 rfl (lv_at hl 2 rfl) ?_
          refine lv_sipush (v := nI (1359)) hx hb dX7_recorded_21 (by decide) ?_
          refine lv_icmp_ge (tgt := 49) hx hb dX7_recorded_24 (by decide) (fun c_24 => ?_) (fun c_24 => ?_)
          · refine lv_aload_n hx hb dX7_recorded_49 rfl (lv_at hl 0 rfl) ?_
            refine lv_dup hx hb dX7_recorded_50 rfl ?_
            refine fa_geti (k := 397) CX HX2509 fl_X7_40 (by omega) rfl rfl dX7_recorded_51 ?_
            rw [show v2508 397 10 = nI (n10) from (by rw [hi_20.2.2.1 _ (by omega)]; exact g10)]
            refine lv_iconst (v := nI (1)) hx hb dX7_recorded_54 (by decide) ?_
            refine fa_isubN hx hb dX7_recorded_55 (by omega) ?_
            refine fa_puti (k := 397) CX HX2509 fl_X7_40 (by omega) rfl rfl rfl rfl dX7_recorded_56 (fun H locs v2510 e2511 HX2512 => ?_)
            refine lv_iconst (v := nI (0)) hx hb dX7_recorded_59 (by decide) ?_
            refine lv_istore_n (lv' := [(2, .int (nI (0))), (0, .ref (fa_B G + (397))), (1, .int (a1))]) hx hb dX7_recorded_60 rfl hl (by decide) rfl (fun ls hl => ?_)
            have LOOP_61 : ∀ (fu : Nat) (k : Nat) (v2513 : fa_V) (H : Heap) (locs : List Loc) (ls : Array Slot), 453 - k < fu → (k ≤ 453 ∧ fa_MB (v2513 401) ∧ fa_fr 401 402 v2510 v2513 ∧ ∀ i, v2513 401 i = if 453 * (n10 - 1) ≤ i ∧ i < 453 * (n10 - 1) + k then v2510 399 (i - 453 * (n10 - 1)) else v2510 401 i) → lv_has ls 3 [(0, .ref (fa_B G + (397))), (1, .int (a1)), (2, .int (nI (k)))] → fa_HX G (n) v2513 r s H locs → W p l e (fa_rm 2) s m args below meth c H locs (0) (0) Q (F0 m 61 ls []) := by
              intro fu
              induction fu with
              | zero => intro k v2513 H locs ls hk; exact absurd hk (Nat.not_lt_zero _)
              | succ fu ih_61 =>
                intro k v2513 H locs ls hk_61 hi_61 hl HX2514
                refine lv_iload_n hx hb dX7_recorded_61 rfl (lv_at hl 2 rfl) ?_
                refine lv_sipush (v := nI (453)) hx hb dX7_recorded_62 (by decide) ?_
                refine lv_icmp_ge (tgt := 95) hx hb dX7_recorded_65 (by decide) (fun c_65 => ?_) (fun c_65 => ?_)
                · refine lv_aload_n hx hb dX7_recorded_95 rfl (lv_at hl 0 rfl) ?_
                  refine lv_dup hx hb dX7_recorded_96 rfl ?_
                  refine fa_geti (k := 397) CX HX2514 fl_X7_40 (by omega) rfl rfl dX7_recorded_97 ?_
                  rw [show v2513 397 10 = nI (n10 - 1) from (by rw [hi_61.2.2.1 _ (by omega)]; exact (by rw [e2511, fa_u_s]))]
                  refine lv_iconst (v := nI (1)) hx hb dX7_recorded_100 (by decide) ?_
                  refine fa_iaddN hx hb dX7_recorded_101 ?_
                  refine fa_puti (k := 397) CX HX2514 fl_X7_40 (by omega) rfl rfl rfl rfl dX7_recorded_102 (fun H locs v2515 e2516 HX2517 => ?_)
                  refine lv_iload_n hx hb dX7_recorded_105 rfl (lv_at hl 1 rfl) ?_
                  exact RET _ _ _ _ _ _ _ HX2517 dX7_recorded_106 (⟨rfl, ⟨⟨(show fa_MJ v2515 from ⟨(show fa_MS (v2515 398) from by rw [e2516, fa_u_k _ _ (by decide)]; exact (show fa_MS (v2513 398) from by rw [hi_61.2.2.1 398 (by omega)]; exact (show fa_MS (v2510 398) from by rw [e2511, fa_u_k _ _ (by decide)]; exact (show fa_MS (v2508 398) from by rw [hi_20.2.2.1 398 (by omega)]; exact hJ.1)))), (show fa_MS (v2515 399) from by rw [e2516, fa_u_k _ _ (by decide)]; exact (show fa_MS (v2513 399) from by rw [hi_61.2.2.1 399 (by omega)]; exact (show fa_MS (v2510 399) from by rw [e2511, fa_u_k _ _ (by decide)]; exact (show fa_MS (v2508 399) from by rw [hi_20.2.2.1 399 (by omega)]; exact hJ.2.1)))), (show fa_MS (v2515 400) from by rw [e2516, fa_u_k _ _ (by decide)]; exact (show fa_MS (v2513 400) from by rw [hi_61.2.2.1 400 (by omega)]; exact (show fa_MS (v2510 400) from by rw [e2511, fa_u_k _ _ (by decide)]; exact (show fa_MS (v2508 400) from by rw [hi_20.2.2.1 400 (by omega)]; exact hJ.2.2.1)))), (show fa_MB (v2515 401) from by rw [e2516, fa_u_k _ _ (by decide)]; exact hi_61.2.1), ⟨n10 - 1 + 1, by omega, (by rw [e2516, fa_u_s])⟩, ⟨n9, by omega, (by rw [e2516, fa_u_n _ _ (by omega)]; exact (by rw [hi_61.2.2.1 _ (by omega)]; exact (by rw [e2511, fa_u_n _ _ (by omega)]; exact (by rw [hi_20.2.2.1 _ (by omega)]; exact g9))))⟩⟩), (show v2515 397 9 = v 397 9 from ((show v2515 397 9 = nI (n9) from (by rw [e2516, fa_u_n _ _ (by omega)]; exact (by rw [hi_61.2.2.1 _ (by omega)]; exact (by rw [e2511, fa_u_n _ _ (by omega)]; exact (by rw [hi_20.2.2.1 _ (by omega)]; exact g9))))).trans g9.symm)), (show v2515 397 8 = v 397 8 from ((show v2515 397 8 = v2513 397 8 from by rw [e2516, fa_u_n _ _ (by omega)]).trans ((congrFun (hi_61.2.2.1 397 (by omega)) 8).trans ((show v2510 397 8 = v2508 397 8 from by rw [e2511, fa_u_n _ _ (by omega)]).trans (congrFun (hi_20.2.2.1 397 (by omega)) 8))))), ⟨rfl, (show v2515 398 = v 398 from by rw [e2516, fa_u_k _ _ (by decide), hi_61.2.2.1 398 (by omega), e2511, fa_u_k _ _ (by decide), hi_20.2.2.1 398 (by omega)]), fun A H o m h => by (rw [fb_rec_y (Or.inl c_1)]; exact fb_m_rec2 o m h g10 he (fa_leN (by omega) (by omega) c_24) hi_20.1 hi_20.2.2.1 hi_20.2.2.2 e2511 (fa_leN (by omega) (by omega) c_65) hi_61.1 hi_61.2.2.2 e2516)⟩⟩, (by rw [e2516]; exact fa_fr.u (fa_fr.tr (by rw [e2511]; exact fa_fr.u (fa_fr.tr fa_fr.rf (fa_fr.wide hi_20.2.2.1 (by omega) (by omega))) (by omega)) (fa_fr.wide hi_61.2.2.1 (by omega) (by omega))) (by omega))⟩⟩)
                · have hk := fa_ltN (by omega) (by omega) c_65
                  refine lv_aload_n hx hb dX7_recorded_68 rfl (lv_at hl 0 rfl) ?_
                  refine fa_getr (k := 397) (j := 401) CX HX2514 fl_X7_19 (by omega) rfl rfl hM.2.2.2.1 dX7_recorded_69 ?_
                  refine lv_sipush (v := nI (453)) hx hb dX7_recorded_72 (by decide) ?_
                  refine lv_aload_n hx hb dX7_recorded_75 rfl (lv_at hl 0 rfl) ?_
                  refine fa_geti (k := 397) CX HX2514 fl_X7_40 (by omega) rfl rfl dX7_recorded_76 ?_
                  rw [show v2513 397 10 = nI (n10 - 1) from (by rw [hi_61.2.2.1 _ (by omega)]; exact (by rw [e2511, fa_u_s]))]
                  refine fa_imulN hx hb dX7_recorded_79 ?_
                  refine lv_iload_n hx hb dX7_recorded_80 rfl (lv_at hl 2 rfl) ?_
                  refine fa_iaddN hx hb dX7_recorded_81 ?_
                  refine lv_aload_n hx hb dX7_recorded_82 rfl (lv_at hl 0 rfl) ?_
                  refine fa_getr (k := 397) (j := 399) CX HX2514 fl_X7_13 (by omega) rfl rfl hM.2.1 dX7_recorded_83 ?_
                  refine lv_iload_n hx hb dX7_recorded_86 rfl (lv_at hl 2 rfl) ?_
                  refine fa_iald (k := 399) (j := k) CX HX2514 (by omega) rfl (by omega) (by first | decide | assumption) dX7_recorded_87 ?_
                  refine fa_iast (k := 401) (j := 453 * (n10 - 1) + k) CX HX2514 (by omega) rfl (by omega) (by first | decide | assumption) dX7_recorded_88 (fun H locs v2518 e2519 HX2520 => ?_)
                  refine lv_iinc (v := nI (k + 1)) (lv' := [(2, .int (nI (k + 1))), (0, .ref (fa_B G + (397))), (1, .int (a1))]) hx hb dX7_recorded_89 hl (k := 2) rfl (nI_add (k) 1) (by decide) rfl (fun ls hl => ?_)
                  refine lv_goto (tgt := 61) hx hb dX7_recorded_92 (by decide) ?_
                  exact ih_61 (k + 1) v2518 _ _ _ (by omega) (⟨by omega, (show fa_MB (v2518 401) from by rw [e2519]; exact fa_MB.u hi_61.2.1 (fa_okb (by omega) ((show fa_MS (v2513 399) from by rw [hi_61.2.2.1 399 (by omega)]; exact (show fa_MS (v2510 399) from by rw [e2511, fa_u_k _ _ (by decide)]; exact (show fa_MS (v2508 399) from by rw [hi_20.2.2.1 399 (by omega)]; exact hJ.2.1))) k (by omega)))), (by rw [e2519]; exact fa_fr.u hi_61.2.2.1 (by omega)), fb_m_cpy (f := v2510 399) (g := v2510 401) hi_61.2.2.2 e2519 (congrFun (hi_61.2.2.1 399 (by omega)) k)⟩) (lv_sub hl [1, 2, 0] rfl) HX2520
            exact LOOP_61 (453 - 0 + 1) (0) v2510 _ _ _ (Nat.lt_succ_self _) (⟨Nat.zero_le _, (show fa_MB (v2510 401) from by rw [e2511, fa_u_k _ _ (by decide)]; exact hi_20.2.1), fa_fr.rf, fun i => (if_neg (by omega)).symm⟩) (lv_sub hl [1, 2, 0] rfl) HX2512
          · have hk := fa_ltN (by omega) (by omega) c_24
            refine lv_aload_n hx hb dX7_recorded_27 rfl (lv_at hl 0 rfl) ?_
            refine fa_getr (k := 397) (j := 401) CX HX2509 fl_X7_19 (by omega) rfl rfl hM.2.2.2.1 dX7_recorded_28 ?_
            refine lv_iload_n hx hb dX7_recorded_31 rfl (lv_at hl 2 rfl) ?_
            refine lv_aload_n hx hb dX7_recorded_32 rfl (lv_at hl 0 rfl) ?_
            refine fa_getr (k := 397) (j := 401) CX HX2509 fl_X7_19 (by omega) rfl rfl hM.2.2.2.1 dX7_recorded_33 ?_
            refine lv_sipush (v := nI (453)) hx hb dX7_recorded_36 (by decide) ?_
            refine lv_iload_n hx hb dX7_recorded_39 rfl (lv_at hl 2 rfl) ?_
            refine fa_iaddN hx hb dX7_recorded_40 ?_
            refine fa_iald (k := 401) (j := 453 + k) CX HX2509 (by omega) rfl (by omega) (by first | decide | assumption) dX7_recorded_41 ?_
            refine fa_iast (k := 401) (j := k) CX HX2509 (by omega) rfl (by omega) (by first | decide | assumption) dX7_recorded_42 (fun H locs v2521 e2522 HX2523 => ?_)
            refine lv_iinc (v := nI (k + 1)) (lv' := [(2, .int (nI (k + 1))), (0, .ref (fa_B G + (397))), (1, .int (a1))]) hx hb dX7_recorded_43 hl (k := 2) rfl (nI_add (k) 1) (by decide) rfl (fun ls hl => ?_)
            refine lv_goto (tgt := 20) hx hb dX7_recorded_46 (by decide) ?_
            exact ih_20 (k + 1) v2521 _ _ _ (by omega) (⟨by omega, (show fa_MB (v2521 401) from by rw [e2522]; exact fa_MB.u hi_20.2.1 (fa_okm hi_20.2.1 (by omega))), (by rw [e2522]; exact fa_fr.u hi_20.2.2.1 (by omega)), fb_m_dwn hi_20.2.2.2 e2522⟩) (lv_sub hl [1, 2, 0] rfl) HX2523
      exact LOOP_20 (1359 - 0 + 1) (0) v _ _ _ (Nat.lt_succ_self _) (⟨Nat.zero_le _, hJ.2.2.2.1, fa_fr.rf, fun i => (if_neg (by omega)).symm⟩) (lv_sub hl [1, 2, 0] rfl) HX
  · refine lv_iload_n hx hb dX7_recorded_4 rfl (lv_at hl 1 rfl) ?_
    refine lv_bipush (v := (-6 : Int32)) hx hb dX7_recorded_5 (by decide) ?_
    refine lv_icmp_ne (tgt := 105) hx hb dX7_recorded_7 (by decide) (fun c_7 => ?_) (fun c_7 => ?_)
    · refine lv_iload_n hx hb dX7_recorded_105 rfl (lv_at hl 1 rfl) ?_
      exact RET _ _ _ _ _ _ _ HX dX7_recorded_106 (⟨rfl, ⟨⟨hJ, (show v 397 9 = v 397 9 from rfl), (show v 397 8 = v 397 8 from rfl), ⟨rfl, rfl, fun A H _ _ h => by (rw [fb_rec_n (fun z => z.elim c_1 c_7)]; exact h)⟩⟩, fa_fr.rf⟩⟩)
    · refine lv_aload_n hx hb dX7_recorded_10 rfl (lv_at hl 0 rfl) ?_
      refine fa_geti (k := 397) CX HX fl_X7_40 (by omega) rfl rfl dX7_recorded_11 ?_
      rw [show v 397 10 = nI (n10) from g10]
      refine lv_iconst (v := nI (4)) hx hb dX7_recorded_14 (by decide) ?_
      refine lv_icmp_ne (tgt := 59) hx hb dX7_recorded_15 (by decide) (fun c_15 => ?_) (fun c_15 => ?_)
      · have hne : ¬ n10 = 4 := fun z => c_15 (by rw [z])
        refine lv_iconst (v := nI (0)) hx hb dX7_recorded_59 (by decide) ?_
        refine lv_istore_n (lv' := [(2, .int (nI (0))), (0, .ref (fa_B G + (397))), (1, .int (a1))]) hx hb dX7_recorded_60 rfl hl (by decide) rfl (fun ls hl => ?_)
        have LOOP_61 : ∀ (fu : Nat) (k : Nat) (v2524 : fa_V) (H : Heap) (locs : List Loc) (ls : Array Slot), 453 - k < fu → (k ≤ 453 ∧ fa_MB (v2524 401) ∧ fa_fr 401 402 v v2524 ∧ ∀ i, v2524 401 i = if 453 * n10 ≤ i ∧ i < 453 * n10 + k then v 399 (i - 453 * n10) else v 401 i) → lv_has ls 3 [(0, .ref (fa_B G + (397))), (1, .int (a1)), (2, .int (nI (k)))] → fa_HX G (n) v2524 r s H locs → W p l e (fa_rm 2) s m args below meth c H locs (0) (0) Q (F0 m 61 ls []) := by
          intro fu
          induction fu with
          | zero => intro k v2524 H locs ls hk; exact absurd hk (Nat.not_lt_zero _)
          | succ fu ih_61 =>
            intro k v2524 H locs ls hk_61 hi_61 hl HX2525
            refine lv_iload_n hx hb dX7_recorded_61 rfl (lv_at hl 2 rfl) ?_
            refine lv_sipush (v := nI (453)) hx hb dX7_recorded_62 (by decide) ?_
            refine lv_icmp_ge (tgt := 95) hx hb dX7_recorded_65 (by decide) (fun c_65 => ?_) (fun c_65 => ?_)
            · refine lv_aload_n hx hb dX7_recorded_95 rfl (lv_at hl 0 rfl) ?_
              refine lv_dup hx hb dX7_recorded_96 rfl ?_
              refine fa_geti (k := 397) CX HX2525 fl_X7_40 (by omega) rfl rfl dX7_recorded_97 ?_
              rw [show v2524 397 10 = nI (n10) from (by rw [hi_61.2.2.1 _ (by omega)]; exact g10)]
              refine lv_iconst (v := nI (1)) hx hb dX7_recorded_100 (by decide) ?_
              refine fa_iaddN hx hb dX7_recorded_101 ?_
              refine fa_puti (k := 397) CX HX2525 fl_X7_40 (by omega) rfl rfl rfl rfl dX7_recorded_102 (fun H locs v2526 e2527 HX2528 => ?_)
              refine lv_iload_n hx hb dX7_recorded_105 rfl (lv_at hl 1 rfl) ?_
              exact RET _ _ _ _ _ _ _ HX2528 dX7_recorded_106 (⟨rfl, ⟨⟨(show fa_MJ v2526 from ⟨(show fa_MS (v2526 398) from by rw [e2527, fa_u_k _ _ (by decide)]; exact (show fa_MS (v2524 398) from by rw [hi_61.2.2.1 398 (by omega)]; exact hJ.1)), (show fa_MS (v2526 399) from by rw [e2527, fa_u_k _ _ (by decide)]; exact (show fa_MS (v2524 399) from by rw [hi_61.2.2.1 399 (by omega)]; exact hJ.2.1)), (show fa_MS (v2526 400) from by rw [e2527, fa_u_k _ _ (by decide)]; exact (show fa_MS (v2524 400) from by rw [hi_61.2.2.1 400 (by omega)]; exact hJ.2.2.1)), (show fa_MB (v2526 401) from by rw [e2527, fa_u_k _ _ (by decide)]; exact hi_61.2.1), ⟨n10 + 1, by omega, (by rw [e2527, fa_u_s])⟩, ⟨n9, by omega, (by rw [e2527, fa_u_n _ _ (by omega)]; exact (by rw [hi_61.2.2.1 _ (by omega)]; exact g9))⟩⟩), (show v2526 397 9 = v 397 9 from ((show v2526 397 9 = nI (n9) from (by rw [e2527, fa_u_n _ _ (by omega)]; exact (by rw [hi_61.2.2.1 _ (by omega)]; exact g9))).trans g9.symm)), (show v2526 397 8 = v 397 8 from ((show v2526 397 8 = v2524 397 8 from by rw [e2527, fa_u_n _ _ (by omega)]).trans (congrFun (hi_61.2.2.1 397 (by omega)) 8))), ⟨rfl, (show v2526 398 = v 398 from by rw [e2527, fa_u_k _ _ (by decide), hi_61.2.2.1 398 (by omega)]), fun A H o m h => by (rw [fb_rec_y (Or.inr (by first | exact c_7 | exact Decidable.not_not.mp c_7))]; exact fb_m_rec1 o m h g10 hn10 hne (fa_leN (by omega) (by omega) c_65) hi_61.1 hi_61.2.2.2 e2527)⟩⟩, (by rw [e2527]; exact fa_fr.u (fa_fr.tr fa_fr.rf (fa_fr.wide hi_61.2.2.1 (by omega) (by omega))) (by omega))⟩⟩)
            · have hk := fa_ltN (by omega) (by omega) c_65
              refine lv_aload_n hx hb dX7_recorded_68 rfl (lv_at hl 0 rfl) ?_
              refine fa_getr (k := 397) (j := 401) CX HX2525 fl_X7_19 (by omega) rfl rfl hM.2.2.2.1 dX7_recorded_69 ?_
              refine lv_sipush (v := nI (453)) hx hb dX7_recorded_72 (by decide) ?_
              refine lv_aload_n hx hb dX7_recorded_75 rfl (lv_at hl 0 rfl) ?_
              refine fa_geti (k := 397) CX HX2525 fl_X7_40 (by omega) rfl rfl dX7_recorded_76 ?_
              rw [show v2524 397 10 = nI (n10) from (by rw [hi_61.2.2.1 _ (by omega)]; exact g10)]
              refine fa_imulN hx hb dX7_recorded_79 ?_
              refine lv_iload_n hx hb dX7_recorded_80 rfl (lv_at hl 2 rfl) ?_
              refine fa_iaddN hx hb dX7_recorded_81 ?_
              refine lv_aload_n hx hb dX7_recorded_82 rfl (lv_at hl 0 rfl) ?_
              refine fa_getr (k := 397) (j := 399) CX HX2525 fl_X7_13 (by omega) rfl rfl hM.2.1 dX7_recorded_83 ?_
              refine lv_iload_n hx hb dX7_recorded_86 rfl (lv_at hl 2 rfl) ?_
              refine fa_iald (k := 399) (j := k) CX HX2525 (by omega) rfl (by omega) (by first | decide | assumption) dX7_recorded_87 ?_
              refine fa_iast (k := 401) (j := 453 * n10 + k) CX HX2525 (by omega) rfl (by omega) (by first | decide | assumption) dX7_recorded_88 (fun H locs v2529 e2530 HX2531 => ?_)
              refine lv_iinc (v := nI (k + 1)) (lv' := [(2, .int (nI (k + 1))), (0, .ref (fa_B G + (397))), (1, .int (a1))]) hx hb dX7_recorded_89 hl (k := 2) rfl (nI_add (k) 1) (by decide) rfl (fun ls hl => ?_)
              refine lv_goto (tgt := 61) hx hb dX7_recorded_92 (by decide) ?_
              exact ih_61 (k + 1) v2529 _ _ _ (by omega) (⟨by omega, (show fa_MB (v2529 401) from by rw [e2530]; exact fa_MB.u hi_61.2.1 (fa_okb (by omega) ((show fa_MS (v2524 399) from by rw [hi_61.2.2.1 399 (by omega)]; exact hJ.2.1) k (by omega)))), (by rw [e2530]; exact fa_fr.u hi_61.2.2.1 (by omega)), fb_m_cpy (f := v 399) (g := v 401) hi_61.2.2.2 e2530 (congrFun (hi_61.2.2.1 399 (by omega)) k)⟩) (lv_sub hl [1, 2, 0] rfl) HX2531
        exact LOOP_61 (453 - 0 + 1) (0) v _ _ _ (Nat.lt_succ_self _) (⟨Nat.zero_le _, hJ.2.2.2.1, fa_fr.rf, fun i => (if_neg (by omega)).symm⟩) (lv_sub hl [1, 2, 0] rfl) HX
      · have he : n10 = 4 := fa_nIinj (by omega) (by omega) c_15
        refine lv_iconst (v := nI (0)) hx hb dX7_recorded_18 (by decide) ?_
        refine lv_istore_n (lv' := [(2, .int (nI (0))), (0, .ref (fa_B G + (397))), (1, .int (a1))]) hx hb dX7_recorded_19 rfl hl (by decide) rfl (fun ls hl => ?_)
        have LOOP_20 : ∀ (fu : Nat) (k : Nat) (v2532 : fa_V) (H : Heap) (locs : List Loc) (ls : Array Slot), 1359 - k < fu → (k ≤ 1359 ∧ fa_MB (v2532 401) ∧ fa_fr 401 402 v v2532 ∧ ∀ i, v2532 401 i = if i < k then v 401 (453 + i) else v 401 i) → lv_has ls 3 [(0, .ref (fa_B G + (397))), (1, .int (a1)), (2, .int (nI (k)))] → fa_HX G (n) v2532 r s H locs → W p l e (fa_rm 2) s m args below meth c H locs (0) (0) Q (F0 m 20 ls []) := by
          intro fu
          induction fu with
          | zero => intro k v2532 H locs ls hk; exact absurd hk (Nat.not_lt_zero _)
          | succ fu ih_20 =>
            intro k v2532 H locs ls hk_20 hi_20 hl HX2533
            refine lv_iload_n hx hb dX7_recorded_20 rfl (lv_at hl 2 rfl) ?_
            refine lv_sipush (v := nI (1359)) hx hb dX7_recorded_21 (by decide) ?_
            refine lv_icmp_ge (tgt := 49) hx hb dX7_recorded_24 (by decide) (fun c_24 => ?_) (fun c_24 => ?_)
            · refine lv_aload_n hx hb dX7_recorded_49 rfl (lv_at hl 0 rfl) ?_
              refine lv_dup hx hb dX7_recorded_50 rfl ?_
              refine fa_geti (k := 397) CX HX2533 fl_X7_40 (by omega) rfl rfl dX7_recorded_51 ?_
              rw [show v2532 397 10 = nI (n10) from (by rw [hi_20.2.2.1 _ (by omega)]; exact g10)]
              refine lv_iconst (v := nI (1)) hx hb dX7_recorded_54 (by decide) ?_
              refine fa_isubN hx hb dX7_recorded_55 (by omega) ?_
              refine fa_puti (k := 397) CX HX2533 fl_X7_40 (by omega) rfl rfl rfl rfl dX7_recorded_56 (fun H locs v2534 e2535 HX2536 => ?_)
              refine lv_iconst (v := nI (0)) hx hb dX7_recorded_59 (by decide) ?_
              refine lv_istore_n (lv' := [(2, .int (nI (0))), (0, .ref (fa_B G + (397))), (1, .int (a1))]) hx hb dX7_recorded_60 rfl hl (by decide) rfl (fun ls hl => ?_)
              have LOOP_61 : ∀ (fu : Nat) (k : Nat) (v2537 : fa_V) (H : Heap) (locs : List Loc) (ls : Array Slot), 453 - k < fu → (k ≤ 453 ∧ fa_MB (v2537 401) ∧ fa_fr 401 402 v2534 v2537 ∧ ∀ i, v2537 401 i = if 453 * (n10 - 1) ≤ i ∧ i < 453 * (n10 - 1) + k then v2534 399 (i - 453 * (n10 - 1)) else v2534 401 i) → lv_has ls 3 [(0, .ref (fa_B G + (397))), (1, .int (a1)), (2, .int (nI (k)))] → fa_HX G (n) v2537 r s H locs → W p l e (fa_rm 2) s m args below meth c H locs (0) (0) Q (F0 m 61 ls []) := by
                intro fu
                induction fu with
                | zero => intro k v2537 H locs ls hk; exact absurd hk (Nat.not_lt_zero _)
                | succ fu ih_61 =>
                  intro k v2537 H locs ls hk_61 hi_61 hl HX2538
                  refine lv_iload_n hx hb dX7_recorded_61 rfl (lv_at hl 2 rfl) ?_
                  refine lv_sipush (v := nI (453)) hx hb dX7_recorded_62 (by decide) ?_
                  refine lv_icmp_ge (tgt := 95) hx hb dX7_recorded_65 (by decide) (fun c_65 => ?_) (fun c_65 => ?_)
                  · refine lv_aload_n hx hb dX7_recorded_95 rfl (lv_at hl 0 rfl) ?_
                    refine lv_dup hx hb dX7_recorded_96 rfl ?_
                    refine fa_geti (k := 397) CX HX2538 fl_X7_40 (by omega) rfl rfl dX7_recorded_97 ?_
                    rw [show v2537 397 10 = nI (n10 - 1) from (by rw [hi_61.2.2.1 _ (by omega)]; exact (by rw [e2535, fa_u_s]))]
                    refine lv_iconst (v := nI (1)) hx hb dX7_recorded_100 (by decide) ?_
                    refine fa_iaddN hx hb dX7_recorded_101 ?_
                    refine fa_puti (k := 397) CX HX2538 fl_X7_40 (by omega) rfl rfl rfl rfl dX7_recorded_102 (fun H locs v2539 e2540 HX2541 => ?_)
                    refine lv_iload_n hx hb dX7_recorded_105 rfl (lv_at hl 1 rfl) ?_
                    exact RET _ _ _ _ _ _ _ HX2541 dX7_recorded_106 (⟨rfl, ⟨⟨(show fa_MJ v2539 from ⟨(show fa_MS (v2539 398) from by rw [e2540, fa_u_k _ _ (by decide)]; exact (show fa_MS (v2537 398) from by rw [hi_61.2.2.1 398 (by omega)]; exact (show fa_MS (v2534 398) from by rw [e2535, fa_u_k _ _ (by decide)]; exact (show fa_MS (v2532 398) from by rw [hi_20.2.2.1 398 (by omega)]; exact hJ.1)))), (show fa_MS (v2539 399) from by rw [e2540, fa_u_k _ _ (by decide)]; exact (show fa_MS (v2537 399) from by rw [hi_61.2.2.1 399 (by omega)]; exact (show fa_MS (v2534 399) from by rw [e2535, fa_u_k _ _ (by decide)]; exact (show fa_MS (v2532 399) from by rw [hi_20.2.2.1 399 (by omega)]; exact hJ.2.1)))), (show fa_MS (v2539 400) from by rw [e2540, fa_u_k _ _ (by decide)]; exact (show fa_MS (v2537 400) from by rw [hi_61.2.2.1 400 (by omega)]; exact (show fa_MS (v2534 400) from by rw [e2535, fa_u_k _ _ (by decide)]; exact (show fa_MS (v2532 400) from by rw [hi_20.2.2.1 400 (by omega)]; exact hJ.2.2.1)))), (show fa_MB (v2539 401) from by rw [e2540, fa_u_k _ _ (by decide)]; exact hi_61.2.1), ⟨n10 - 1 + 1, by omega, (by rw [e2540, fa_u_s])⟩, ⟨n9, by omega, (by rw [e2540, fa_u_n _ _ (by omega)]; exact (by rw [hi_61.2.2.1 _ (by omega)]; exact (by rw [e2535, fa_u_n _ _ (by omega)]; exact (by rw [hi_20.2.2.1 _ (by omega)]; exact g9))))⟩⟩), (show v2539 397 9 = v 397 9 from ((show v2539 397 9 = nI (n9) from (by rw [e2540, fa_u_n _ _ (by omega)]; exact (by rw [hi_61.2.2.1 _ (by omega)]; exact (by rw [e2535, fa_u_n _ _ (by omega)]; exact (by rw [hi_20.2.2.1 _ (by omega)]; exact g9))))).trans g9.symm)), (show v2539 397 8 = v 397 8 from ((show v2539 397 8 = v2537 397 8 from by rw [e2540, fa_u_n _ _ (by omega)]).trans ((congrFun (hi_61.2.2.1 397 (by omega)) 8).trans ((show v2534 397 8 = v2532 397 8 from by rw [e2535, fa_u_n _ _ (by omega)]).trans (congrFun (hi_20.2.2.1 397 (by omega)) 8))))), ⟨rfl, (show v2539 398 = v 398 from by rw [e2540, fa_u_k _ _ (by decide), hi_61.2.2.1 398 (by omega), e2535, fa_u_k _ _ (by decide), hi_20.2.2.1 398 (by omega)]), fun A H o m h => by (rw [fb_rec_y (Or.inr (by first | exact c_7 | exact Decidable.not_not.mp c_7))]; exact fb_m_rec2 o m h g10 he (fa_leN (by omega) (by omega) c_24) hi_20.1 hi_20.2.2.1 hi_20.2.2.2 e2535 (fa_leN (by omega) (by omega) c_65) hi_61.1 hi_61.2.2.2 e2540)⟩⟩, (by rw [e2540]; exact fa_fr.u (fa_fr.tr (by rw [e2535]; exact fa_fr.u (fa_fr.tr fa_fr.rf (fa_fr.wide hi_20.2.2.1 (by omega) (by omega))) (by omega)) (fa_fr.wide hi_61.2.2.1 (by omega) (by omega))) (by omega))⟩⟩)
                  · have hk := fa_ltN (by omega) (by omega) c_65
                    refine lv_aload_n hx hb dX7_recorded_68 rfl (lv_at hl 0 rfl) ?_
                    refine fa_getr (k := 397) (j := 401) CX HX2538 fl_X7_19 (by omega) rfl rfl hM.2.2.2.1 dX7_recorded_69 ?_
                    refine lv_sipush (v := nI (453)) hx hb dX7_recorded_72 (by decide) ?_
                    refine lv_aload_n hx hb dX7_recorded_75 rfl (lv_at hl 0 rfl) ?_
                    refine fa_geti (k := 397) CX HX2538 fl_X7_40 (by omega) rfl rfl dX7_recorded_76 ?_
                    rw [show v2537 397 10 = nI (n10 - 1) from (by rw [hi_61.2.2.1 _ (by omega)]; exact (by rw [e2535, fa_u_s]))]
                    refine fa_imulN hx hb dX7_recorded_79 ?_
                    refine lv_iload_n hx hb dX7_recorded_80 rfl (lv_at hl 2 rfl) ?_
                    refine fa_iaddN hx hb dX7_recorded_81 ?_
                    refine lv_aload_n hx hb dX7_recorded_82 rfl (lv_at hl 0 rfl) ?_
                    refine fa_getr (k := 397) (j := 399) CX HX2538 fl_X7_13 (by omega) rfl rfl hM.2.1 dX7_recorded_83 ?_
                    refine lv_iload_n hx hb dX7_recorded_86 rfl (lv_at hl 2 rfl) ?_
                    refine fa_iald (k := 399) (j := k) CX HX2538 (by omega) rfl (by omega) (by first | decide | assumption) dX7_recorded_87 ?_
                    refine fa_iast (k := 401) (j := 453 * (n10 - 1) + k) CX HX2538 (by omega) rfl (by omega) (by first | decide | assumption) dX7_recorded_88 (fun H locs v2542 e2543 HX2544 => ?_)
                    refine lv_iinc (v := nI (k + 1)) (lv' := [(2, .int (nI (k + 1))), (0, .ref (fa_B G + (397))), (1, .int (a1))]) hx hb dX7_recorded_89 hl (k := 2) rfl (nI_add (k) 1) (by decide) rfl (fun ls hl => ?_)
                    refine lv_goto (tgt := 61) hx hb dX7_recorded_92 (by decide) ?_
                    exact ih_61 (k + 1) v2542 _ _ _ (by omega) (⟨by omega, (show fa_MB (v2542 401) from by rw [e2543]; exact fa_MB.u hi_61.2.1 (fa_okb (by omega) ((show fa_MS (v2537 399) from by rw [hi_61.2.2.1 399 (by omega)]; exact (show fa_MS (v2534 399) from by rw [e2535, fa_u_k _ _ (by decide)]; exact (show fa_MS (v2532 399) from by rw [hi_20.2.2.1 399 (by omega)]; exact hJ.2.1))) k (by omega)))), (by rw [e2543]; exact fa_fr.u hi_61.2.2.1 (by omega)), fb_m_cpy (f := v2534 399) (g := v2534 401) hi_61.2.2.2 e2543 (congrFun (hi_61.2.2.1 399 (by omega)) k)⟩) (lv_sub hl [1, 2, 0] rfl) HX2544
              exact LOOP_61 (453 - 0 + 1) (0) v2534 _ _ _ (Nat.lt_succ_self _) (⟨Nat.zero_le _, (show fa_MB (v2534 401) from by rw [e2535, fa_u_k _ _ (by decide)]; exact hi_20.2.1), fa_fr.rf, fun i => (if_neg (by omega)).symm⟩) (lv_sub hl [1, 2, 0] rfl) HX2536
            · have hk := fa_ltN (by omega) (by omega) c_24
              refine lv_aload_n hx hb dX7_recorded_27 rfl (lv_at hl 0 rfl) ?_
              refine fa_getr (k := 397) (j := 401) CX HX2533 fl_X7_19 (by omega) rfl rfl hM.2.2.2.1 dX7_recorded_28 ?_
              refine lv_iload_n hx hb dX7_recorded_31 rfl (lv_at hl 2 rfl) ?_
              refine lv_aload_n hx hb dX7_recorded_32 rfl (lv_at hl 0 rfl) ?_
              refine fa_getr (k := 397) (j := 401) CX HX2533 fl_X7_19 (by omega) rfl rfl hM.2.2.2.1 dX7_recorded_33 ?_
              refine lv_sipush (v := nI (453)) hx hb dX7_recorded_36 (by decide) ?_
              refine lv_iload_n hx hb dX7_recorded_39 rfl (lv_at hl 2 rfl) ?_
              refine fa_iaddN hx hb dX7_recorded_40 ?_
              refine fa_iald (k := 401) (j := 453 + k) CX HX2533 (by omega) rfl (by omega) (by first | decide | assumption) dX7_recorded_41 ?_
              refine fa_iast (k := 401) (j := k) CX HX2533 (by omega) rfl (by omega) (by first | decide | assumption) dX7_recorded_42 (fun H locs v2545 e2546 HX2547 => ?_)
              refine lv_iinc (v := nI (k + 1)) (lv' := [(2, .int (nI (k + 1))), (0, .ref (fa_B G + (397))), (1, .int (a1))]) hx hb dX7_recorded_43 hl (k := 2) rfl (nI_add (k) 1) (by decide) rfl (fun ls hl => ?_)
              refine lv_goto (tgt := 20) hx hb dX7_recorded_46 (by decide) ?_
              exact ih_20 (k + 1) v2545 _ _ _ (by omega) (⟨by omega, (show fa_MB (v2545 401) from by rw [e2546]; exact fa_MB.u hi_20.2.1 (fa_okm hi_20.2.1 (by omega))), (by rw [e2546]; exact fa_fr.u hi_20.2.2.1 (by omega)), fb_m_dwn hi_20.2.2.2 e2546⟩) (lv_sub hl [1, 2, 0] rfl) HX2547
        exact LOOP_20 (1359 - 0 + 1) (0) v _ _ _ (Nat.lt_succ_self _) (⟨Nat.zero_le _, hJ.2.2.2.1, fa_fr.rf, fun i => (if_neg (by omega)).symm⟩) (lv_sub hl [1, 2, 0] rfl) HX
set_option maxHeartbeats 4000000 in
set_option maxRecDepth 100000 in
theorem r_undo (l : Launch) (G : fa_G) (n : Nat) (hn : 406 ≤ n) (v : fa_V) (r : fa_R) (hM : fa_RM r) (hJ : fa_MJ v) : fa_MI l G n yX7_undo cX7_undo 2 (some .int) 1 [.ref (fa_B G + (397))] v r (fa_voi r (fun x v1 => ((fa_MJ v1) ∧ (v1 397 9 = v 397 9) ∧ (v1 397 8 = v 397 8) ∧ (∀ A H, fb_MV v A H → x = (fb_undoA A H).1 ∧ fb_MV v1 (fb_undoA A H).2.1 (fb_undoA A H).2.2)) ∧ (fa_fr (397) (403) v v1))) := by
  refine fa_startI (by decide +kernel) (Nat.le_of_ble_eq_true rfl) (fun p e s m args below meth c ls Q CX hl HX RET => ?_)
  have hl : lv_has ls 2 [(0, .ref (fa_B G + (397)))] := hl
  have hx := CX.1.1
  have hb := CX.1.2.1
  have hS := hJ.1
  obtain ⟨n4, en4⟩ : ∃ m, m = fa_N (v 398 14) := ⟨_, rfl⟩
  obtain ⟨hn4, g4⟩ := hS.n4 en4
  obtain ⟨n5, en5⟩ : ∃ m, m = fa_N (v 398 15) := ⟨_, rfl⟩
  obtain ⟨hn5, g5⟩ := hS.n5 en5
  obtain ⟨n6, en6⟩ : ∃ m, m = fa_N (v 398 16) := ⟨_, rfl⟩
  obtain ⟨hn6, g6⟩ := hS.n6 en6
  obtain ⟨n10, hn10, g10⟩ := hJ.2.2.2.2.1
  obtain ⟨n9, hn9, g9⟩ := hJ.2.2.2.2.2
  refine lv_aload_n hx hb dX7_undo_0 rfl (lv_at hl 0 rfl) ?_
  refine fa_geti (k := 397) CX HX fl_X7_40 (by omega) rfl rfl dX7_undo_1 ?_
  rw [show v 397 10 = nI (n10) from g10]
  refine lv_if_ne (tgt := 10) hx hb dX7_undo_4 (by decide) (fun c_4 => ?_) (fun c_4 => ?_)
  · have hp10 : 0 < n10 := by
      refine Nat.pos_of_ne_zero (fun z => c_4 ?_)
      rw [z]; decide
    refine lv_aload_n hx hb dX7_undo_10 rfl (lv_at hl 0 rfl) ?_
    refine lv_dup hx hb dX7_undo_11 rfl ?_
    refine fa_geti (k := 397) CX HX fl_X7_40 (by omega) rfl rfl dX7_undo_12 ?_
    rw [show v 397 10 = nI (n10) from g10]
    refine lv_iconst (v := nI (1)) hx hb dX7_undo_15 (by decide) ?_
    refine fa_isubN hx hb dX7_undo_16 (by omega) ?_
    refine fa_puti (k := 397) CX HX fl_X7_40 (by omega) rfl rfl rfl rfl dX7_undo_17 (fun H locs v2548 e2549 HX2550 => ?_)
    refine lv_iconst (v := nI (0)) hx hb dX7_undo_20 (by decide) ?_
    refine lv_istore_n (lv' := [(1, .int (nI (0))), (0, .ref (fa_B G + (397)))]) hx hb dX7_undo_21 rfl hl (by decide) rfl (fun ls hl => ?_)
    have LOOP_22 : ∀ (fu : Nat) (k : Nat) (v2551 : fa_V) (H : Heap) (locs : List Loc) (ls : Array Slot), 453 - k < fu → (k ≤ 453 ∧ fa_MS (v2551 398) ∧ fa_fr 398 399 v2548 v2551 ∧ ∀ i, v2551 398 i = if i < k then v2548 401 (453 * (n10 - 1) + i) else v2548 398 i) → lv_has ls 2 [(0, .ref (fa_B G + (397))), (1, .int (nI (k)))] → fa_HX G (n) v2551 r s H locs → W p l e (fa_rm 1) s m args below meth c H locs (0) (0) Q (F0 m 22 ls []) := by
      intro fu
      induction fu with
      | zero => intro k v2551 H locs ls hk; exact absurd hk (Nat.not_lt_zero _)
      | succ fu ih_22 =>
        intro k v2551 H locs ls hk_22 hi_22 hl HX2552
        refine lv_iload_n hx hb dX7_undo_22 rfl (lv_at hl 1 rfl) ?_
        refine lv_sipush (v := nI (453)) hx hb dX7_undo_23 (by decide) ?_
        refine lv_icmp_ge (tgt := 56) hx hb dX7_undo_26 (by decide) (fun c_26 => ?_) (fun c_26 => ?_)
        · refine lv_aload_n hx hb dX7_undo_56 rfl (lv_at hl 0 rfl) ?_
          refine fa_geti (k := 397) CX HX2552 fl_X7_40 (by omega) rfl rfl dX7_undo_57 ?_
          rw [show v2551 397 10 = nI (n10 - 1) from (by rw [hi_22.2.2.1 _ (by omega)]; exact (by rw [e2549, fa_u_s]))]
          exact RET _ _ _ _ _ _ _ HX2552 dX7_undo_60 (⟨rfl, ⟨⟨(show fa_MJ v2551 from ⟨hi_22.2.1, (show fa_MS (v2551 399) from by rw [hi_22.2.2.1 399 (by omega)]; exact (show fa_MS (v2548 399) from by rw [e2549, fa_u_k _ _ (by decide)]; exact hJ.2.1)), (show fa_MS (v2551 400) from by rw [hi_22.2.2.1 400 (by omega)]; exact (show fa_MS (v2548 400) from by rw [e2549, fa_u_k _ _ (by decide)]; exact hJ.2.2.1)), (show fa_MB (v2551 401) from by rw [hi_22.2.2.1 401 (by omega)]; exact (show fa_MB (v2548 401) from by rw [e2549, fa_u_k _ _ (by decide)]; exact hJ.2.2.2.1)), ⟨n10 - 1, by omega, (by rw [hi_22.2.2.1 _ (by omega)]; exact (by rw [e2549, fa_u_s]))⟩, ⟨n9, by omega, (by rw [hi_22.2.2.1 _ (by omega)]; exact (by rw [e2549, fa_u_n _ _ (by omega)]; exact g9))⟩⟩), (show v2551 397 9 = v 397 9 from ((show v2551 397 9 = nI (n9) from (by rw [hi_22.2.2.1 _ (by omega)]; exact (by rw [e2549, fa_u_n _ _ (by omega)]; exact g9))).trans g9.symm)), (show v2551 397 8 = v 397 8 from ((congrFun (hi_22.2.2.1 397 (by omega)) 8).trans (show v2548 397 8 = v 397 8 from by rw [e2549, fa_u_n _ _ (by omega)]))), (fun A H hV => fb_m_undo1 hV g10 hn10 hp10 e2549 hi_22.2.2.1 (fa_leN (by omega) (by omega) c_26) hi_22.2.2.2)⟩, (fa_fr.tr (by rw [e2549]; exact fa_fr.u fa_fr.rf (by omega)) (fa_fr.wide hi_22.2.2.1 (by omega) (by omega)))⟩⟩)
        · have hk := fa_ltN (by omega) (by omega) c_26
          refine lv_aload_n hx hb dX7_undo_29 rfl (lv_at hl 0 rfl) ?_
          refine fa_getr (k := 397) (j := 398) CX HX2552 fl_X7_7 (by omega) rfl rfl hM.1 dX7_undo_30 ?_
          refine lv_iload_n hx hb dX7_undo_33 rfl (lv_at hl 1 rfl) ?_
          refine lv_aload_n hx hb dX7_undo_34 rfl (lv_at hl 0 rfl) ?_
          refine fa_getr (k := 397) (j := 401) CX HX2552 fl_X7_19 (by omega) rfl rfl hM.2.2.2.1 dX7_undo_35 ?_
          refine lv_sipush (v := nI (453)) hx hb dX7_undo_38 (by decide) ?_
          refine lv_aload_n hx hb dX7_undo_41 rfl (lv_at hl 0 rfl) ?_
          refine fa_geti (k := 397) CX HX2552 fl_X7_40 (by omega) rfl rfl dX7_undo_42 ?_
          rw [show v2551 397 10 = nI (n10 - 1) from (by rw [hi_22.2.2.1 _ (by omega)]; exact (by rw [e2549, fa_u_s]))]
          refine fa_imulN hx hb dX7_undo_45 ?_
          refine lv_iload_n hx hb dX7_undo_46 rfl (lv_at hl 1 rfl) ?_
          refine fa_iaddN hx hb dX7_undo_47 ?_
          refine fa_iald (k := 401) (j := 453 * (n10 - 1) + k) CX HX2552 (by omega) rfl (by omega) (by first | decide | assumption) dX7_undo_48 ?_
          refine fa_iast (k := 398) (j := k) CX HX2552 (by omega) rfl (by omega) (by first | decide | assumption) dX7_undo_49 (fun H locs v2553 e2554 HX2555 => ?_)
          refine lv_iinc (v := nI (k + 1)) (lv' := [(1, .int (nI (k + 1))), (0, .ref (fa_B G + (397)))]) hx hb dX7_undo_50 hl (k := 1) rfl (nI_add (k) 1) (by decide) rfl (fun ls hl => ?_)
          refine lv_goto (tgt := 22) hx hb dX7_undo_53 (by decide) ?_
          exact ih_22 (k + 1) v2553 _ _ _ (by omega) (⟨by omega, (show fa_MS (v2553 398) from by rw [e2554]; exact fa_MS.u hi_22.2.1 (fa_okx (show fa_MB (v2551 401) from by rw [hi_22.2.2.1 401 (by omega)]; exact (show fa_MB (v2548 401) from by rw [e2549, fa_u_k _ _ (by decide)]; exact hJ.2.2.2.1)) (by omega) (by omega))), (by rw [e2554]; exact fa_fr.u hi_22.2.2.1 (by omega)), fb_m_bck (u := v2548) hi_22.2.2.2 e2554 (congrFun (hi_22.2.2.1 401 (by omega)) (453 * (n10 - 1) + k))⟩) (lv_sub hl [1, 0] rfl) HX2555
    exact LOOP_22 (453 - 0 + 1) (0) v2548 _ _ _ (Nat.lt_succ_self _) (⟨Nat.zero_le _, (show fa_MS (v2548 398) from by rw [e2549, fa_u_k _ _ (by decide)]; exact hJ.1), fa_fr.rf, fun i => (if_neg (Nat.not_lt_zero _)).symm⟩) (lv_sub hl [1, 0] rfl) HX2550
  · refine lv_bipush (v := (-6 : Int32)) hx hb dX7_undo_7 (by decide) ?_
    exact RET _ _ _ _ _ _ _ HX dX7_undo_9 (⟨rfl, ⟨⟨hJ, (show v 397 9 = v 397 9 from rfl), (show v 397 8 = v 397 8 from rfl), (fun A H hV => fb_m_undo0 hV g10 hn10 (by first | exact c_4 | exact Decidable.not_not.mp c_4))⟩, fa_fr.rf⟩⟩)
set_option maxHeartbeats 4000000 in
set_option maxRecDepth 100000 in
theorem r_add (l : Launch) (G : fa_G) (n : Nat) (hn : 406 ≤ n) (v : fa_V) (r : fa_R) (hM : fa_RM r) (hJ : fa_MJ v) (a1 : Int32) (a2 : Int32) : fa_MI l G n yX7_add cX7_add 3 (some .int) 8 [.ref (fa_B G + (397)), .int (a1), .int (a2)] v r (fa_voi r (fun x v1 => ((fa_MJ v1) ∧ (v1 397 9 = v 397 9) ∧ (v1 397 8 = v 397 8) ∧ (∀ A H, fb_MV v A H → x = (fb_addA A a1 a2).1 ∧ fb_MV v1 (fb_addA A a1 a2).2 (fb_rec H A (fb_addA A a1 a2).1))) ∧ (fa_fr (397) (403) v v1))) := by
  refine fa_startI (by decide +kernel) (Nat.le_of_ble_eq_true rfl) (fun p e s m args below meth c ls Q CX hl HX RET => ?_)
  have hl : lv_has ls 3 [(0, .ref (fa_B G + (397))), (1, .int (a1)), (2, .int (a2))] := hl
  have hx := CX.1.1
  have hb := CX.1.2.1
  have hS := hJ.1
  obtain ⟨n4, en4⟩ : ∃ m, m = fa_N (v 398 14) := ⟨_, rfl⟩
  obtain ⟨hn4, g4⟩ := hS.n4 en4
  obtain ⟨n5, en5⟩ : ∃ m, m = fa_N (v 398 15) := ⟨_, rfl⟩
  obtain ⟨hn5, g5⟩ := hS.n5 en5
  obtain ⟨n6, en6⟩ : ∃ m, m = fa_N (v 398 16) := ⟨_, rfl⟩
  obtain ⟨hn6, g6⟩ := hS.n6 en6
  obtain ⟨n10, hn10, g10⟩ := hJ.2.2.2.2.1
  obtain ⟨n9, hn9, g9⟩ := hJ.2.2.2.2.2
  refine lv_aload_n hx hb dX7_add_0 rfl (lv_at hl 0 rfl) ?_
  refine fa_callVvu (As := []) (rest := []) CX HX (r_hold l G n hn v r hM) ln_X7_102 (by omega) rfl rfl rfl rfl (Nat.le_of_ble_eq_true rfl) hl.1 ⟨Nat.le_of_ble_eq_true rfl, Nat.le_of_ble_eq_true rfl⟩ ⟨Nat.le_refl _, Nat.le_refl _⟩ dX7_add_1 (fun v2557 H locs h2556 HX2558 => ?_)
  have h_hold := h2556.1
  refine lv_aload_n hx hb dX7_add_4 rfl (lv_at hl 0 rfl) ?_
  refine lv_aload_n hx hb dX7_add_5 rfl (lv_at hl 0 rfl) ?_
  refine lv_iload_n hx hb dX7_add_6 rfl (lv_at hl 1 rfl) ?_
  refine lv_iload_n hx hb dX7_add_7 rfl (lv_at hl 2 rfl) ?_
  refine fa_callViu (As := [.int (a1), .int (a2)]) (rest := [.ref (fa_B G + (397))]) CX HX2558 (r_adds l G n hn v2557 r hM (show fa_MS (v2557 398) from by rw [h2556.2 398 (by omega)]; exact hJ.1) (a1) (a2)) ln_X7_105 (by omega) rfl rfl rfl rfl (Nat.le_of_ble_eq_true rfl) hl.1 ⟨Nat.le_of_ble_eq_true rfl, Nat.le_of_ble_eq_true rfl⟩ ⟨Nat.le_refl _, Nat.le_refl _⟩ dX7_add_8 (fun x2560 v2561 H locs h2559 HX2562 => ?_)
  have hS_v2561 := h2559.1.1
  have h_adds := h2559.1.2.2.2
  refine fa_callViu (As := [.int (x2560)]) (rest := []) CX HX2562 (r_recorded l G n hn v2561 r hM (show fa_MJ v2561 from ⟨hS_v2561, (show fa_MS (v2561 399) from by rw [h2559.2 399 (by omega)]; exact (fa_MS.cp hJ.1 h2556.1)), (show fa_MS (v2561 400) from by rw [h2559.2 400 (by omega)]; exact (show fa_MS (v2557 400) from by rw [h2556.2 400 (by omega)]; exact hJ.2.2.1)), (show fa_MB (v2561 401) from by rw [h2559.2 401 (by omega)]; exact (show fa_MB (v2557 401) from by rw [h2556.2 401 (by omega)]; exact hJ.2.2.2.1)), ⟨n10, by omega, (by rw [h2559.2 _ (by omega)]; exact (by rw [h2556.2 _ (by omega)]; exact g10))⟩, ⟨n9, by omega, (by rw [h2559.2 _ (by omega)]; exact (by rw [h2556.2 _ (by omega)]; exact g9))⟩⟩) (x2560)) ln_X7_109 (by omega) rfl rfl rfl rfl (Nat.le_of_ble_eq_true rfl) hl.1 ⟨Nat.le_of_ble_eq_true rfl, Nat.le_of_ble_eq_true rfl⟩ ⟨Nat.le_refl _, Nat.le_refl _⟩ dX7_add_11 (fun x2564 v2565 H locs h2563 HX2566 => ?_)
  have hJ_v2565 := h2563.1.1
  obtain ⟨n10_v2565, hn10_v2565, g10_v2565⟩ := hJ_v2565.2.2.2.2.1
  have h_recorded := h2563.1.2.2.2
  exact RET _ _ _ _ _ _ _ HX2566 dX7_add_14 (⟨rfl, ⟨⟨hJ_v2565, (show v2565 397 9 = v 397 9 from ((show v2565 397 9 = nI (n9) from ((h2563.1.2.1).trans (by rw [h2559.2 _ (by omega)]; exact (by rw [h2556.2 _ (by omega)]; exact g9)))).trans g9.symm)), (show v2565 397 8 = v 397 8 from (h2563.1.2.2.1.trans ((congrFun (h2559.2 397 (by omega)) 8).trans (congrFun (h2556.2 397 (by omega)) 8)))), (fun A H hV => fb_m_face (op := fb_addA A a1 a2) hV h2556.2 h_hold (h2559.2 397 (by omega)) (h2559.2 399 (by omega)) (h2559.2 401 (by omega)) (h_adds A hV.1) (hV.1.add a1 a2) h_recorded)⟩, (fa_fr.tr (fa_fr.tr (fa_fr.tr fa_fr.rf (fa_fr.wide h2556.2 (by omega) (by omega))) (fa_fr.wide h2559.2 (by omega) (by omega))) (fa_fr.wide h2563.2 (by omega) (by omega)))⟩⟩)
set_option maxHeartbeats 4000000 in
set_option maxRecDepth 100000 in
theorem r_ask (l : Launch) (G : fa_G) (n : Nat) (hn : 406 ≤ n) (v : fa_V) (r : fa_R) (hM : fa_RM r) (hJ : fa_MJ v) (a1 : Int32) : fa_MI l G n yX7_ask cX7_ask 2 (some .int) 8 [.ref (fa_B G + (397)), .int (a1)] v r (fa_voi r (fun x v1 => ((fa_MJ v1) ∧ (v1 397 9 = v 397 9) ∧ (v1 397 8 = v 397 8) ∧ (∀ A H, fb_MV v A H → x = (fb_askA A a1).1 ∧ fb_MV v1 (fb_askA A a1).2 (fb_rec H A (fb_askA A a1).1))) ∧ (fa_fr (397) (403) v v1))) := by
  refine fa_startI (by decide +kernel) (Nat.le_of_ble_eq_true rfl) (fun p e s m args below meth c ls Q CX hl HX RET => ?_)
  have hl : lv_has ls 2 [(0, .ref (fa_B G + (397))), (1, .int (a1))] := hl
  have hx := CX.1.1
  have hb := CX.1.2.1
  have hS := hJ.1
  obtain ⟨n4, en4⟩ : ∃ m, m = fa_N (v 398 14) := ⟨_, rfl⟩
  obtain ⟨hn4, g4⟩ := hS.n4 en4
  obtain ⟨n5, en5⟩ : ∃ m, m = fa_N (v 398 15) := ⟨_, rfl⟩
  obtain ⟨hn5, g5⟩ := hS.n5 en5
  obtain ⟨n6, en6⟩ : ∃ m, m = fa_N (v 398 16) := ⟨_, rfl⟩
  obtain ⟨hn6, g6⟩ := hS.n6 en6
  obtain ⟨n10, hn10, g10⟩ := hJ.2.2.2.2.1
  obtain ⟨n9, hn9, g9⟩ := hJ.2.2.2.2.2
  refine lv_aload_n hx hb dX7_ask_0 rfl (lv_at hl 0 rfl) ?_
  refine fa_callVvu (As := []) (rest := []) CX HX (r_hold l G n hn v r hM) ln_X7_102 (by omega) rfl rfl rfl rfl (Nat.le_of_ble_eq_true rfl) hl.1 ⟨Nat.le_of_ble_eq_true rfl, Nat.le_of_ble_eq_true rfl⟩ ⟨Nat.le_refl _, Nat.le_refl _⟩ dX7_ask_1 (fun v2568 H locs h2567 HX2569 => ?_)
  have h_hold := h2567.1
  refine lv_aload_n hx hb dX7_ask_4 rfl (lv_at hl 0 rfl) ?_
  refine lv_aload_n hx hb dX7_ask_5 rfl (lv_at hl 0 rfl) ?_
  refine lv_iload_n hx hb dX7_ask_6 rfl (lv_at hl 1 rfl) ?_
  refine fa_callViu (As := [.int (a1)]) (rest := [.ref (fa_B G + (397))]) CX HX2569 (r_asksFor l G n hn v2568 r hM (show fa_MS (v2568 398) from by rw [h2567.2 398 (by omega)]; exact hJ.1) (a1)) ln_X7_112 (by omega) rfl rfl rfl rfl (Nat.le_of_ble_eq_true rfl) hl.1 ⟨Nat.le_of_ble_eq_true rfl, Nat.le_of_ble_eq_true rfl⟩ ⟨Nat.le_refl _, Nat.le_refl _⟩ dX7_ask_7 (fun x2571 v2572 H locs h2570 HX2573 => ?_)
  have hS_v2572 := h2570.1.1
  have h_asksFor := h2570.1.2.2.2.2
  refine fa_callViu (As := [.int (x2571)]) (rest := []) CX HX2573 (r_recorded l G n hn v2572 r hM (show fa_MJ v2572 from ⟨hS_v2572, (show fa_MS (v2572 399) from by rw [h2570.2 399 (by omega)]; exact (fa_MS.cp hJ.1 h2567.1)), (show fa_MS (v2572 400) from by rw [h2570.2 400 (by omega)]; exact (show fa_MS (v2568 400) from by rw [h2567.2 400 (by omega)]; exact hJ.2.2.1)), (show fa_MB (v2572 401) from by rw [h2570.2 401 (by omega)]; exact (show fa_MB (v2568 401) from by rw [h2567.2 401 (by omega)]; exact hJ.2.2.2.1)), ⟨n10, by omega, (by rw [h2570.2 _ (by omega)]; exact (by rw [h2567.2 _ (by omega)]; exact g10))⟩, ⟨n9, by omega, (by rw [h2570.2 _ (by omega)]; exact (by rw [h2567.2 _ (by omega)]; exact g9))⟩⟩) (x2571)) ln_X7_109 (by omega) rfl rfl rfl rfl (Nat.le_of_ble_eq_true rfl) hl.1 ⟨Nat.le_of_ble_eq_true rfl, Nat.le_of_ble_eq_true rfl⟩ ⟨Nat.le_refl _, Nat.le_refl _⟩ dX7_ask_10 (fun x2575 v2576 H locs h2574 HX2577 => ?_)
  have hJ_v2576 := h2574.1.1
  obtain ⟨n10_v2576, hn10_v2576, g10_v2576⟩ := hJ_v2576.2.2.2.2.1
  have h_recorded := h2574.1.2.2.2
  exact RET _ _ _ _ _ _ _ HX2577 dX7_ask_13 (⟨rfl, ⟨⟨hJ_v2576, (show v2576 397 9 = v 397 9 from ((show v2576 397 9 = nI (n9) from ((h2574.1.2.1).trans (by rw [h2570.2 _ (by omega)]; exact (by rw [h2567.2 _ (by omega)]; exact g9)))).trans g9.symm)), (show v2576 397 8 = v 397 8 from (h2574.1.2.2.1.trans ((congrFun (h2570.2 397 (by omega)) 8).trans (congrFun (h2567.2 397 (by omega)) 8)))), (fun A H hV => fb_m_face (op := fb_askA A a1) hV h2567.2 h_hold (h2570.2 397 (by omega)) (h2570.2 399 (by omega)) (h2570.2 401 (by omega)) (h_asksFor A hV.1) (hV.1.ask a1) h_recorded)⟩, (fa_fr.tr (fa_fr.tr (fa_fr.tr fa_fr.rf (fa_fr.wide h2567.2 (by omega) (by omega))) (fa_fr.wide h2570.2 (by omega) (by omega))) (fa_fr.wide h2574.2 (by omega) (by omega)))⟩⟩)
set_option maxHeartbeats 4000000 in
set_option maxRecDepth 100000 in
theorem r_seal (l : Launch) (G : fa_G) (n : Nat) (hn : 406 ≤ n) (v : fa_V) (r : fa_R) (hM : fa_RM r) (hJ : fa_MJ v) (a1 : Int32) (a2 : Int32) (a3 : Int32) : fa_MI l G n yX7_seal cX7_seal 4 (some .int) 8 [.ref (fa_B G + (397)), .int (a1), .int (a2), .int (a3)] v r (fa_voi r (fun x v1 => ((fa_MJ v1) ∧ (v1 397 9 = v 397 9) ∧ (v1 397 8 = v 397 8) ∧ (∀ A H, fb_MV v A H → x = (fb_sealA A a1 a2 a3).1 ∧ fb_MV v1 (fb_sealA A a1 a2 a3).2 (fb_rec H A (fb_sealA A a1 a2 a3).1))) ∧ (fa_fr (397) (403) v v1))) := by
  refine fa_startI (by decide +kernel) (Nat.le_of_ble_eq_true rfl) (fun p e s m args below meth c ls Q CX hl HX RET => ?_)
  have hl : lv_has ls 4 [(0, .ref (fa_B G + (397))), (1, .int (a1)), (2, .int (a2)), (3, .int (a3))] := hl
  have hx := CX.1.1
  have hb := CX.1.2.1
  have hS := hJ.1
  obtain ⟨n4, en4⟩ : ∃ m, m = fa_N (v 398 14) := ⟨_, rfl⟩
  obtain ⟨hn4, g4⟩ := hS.n4 en4
  obtain ⟨n5, en5⟩ : ∃ m, m = fa_N (v 398 15) := ⟨_, rfl⟩
  obtain ⟨hn5, g5⟩ := hS.n5 en5
  obtain ⟨n6, en6⟩ : ∃ m, m = fa_N (v 398 16) := ⟨_, rfl⟩
  obtain ⟨hn6, g6⟩ := hS.n6 en6
  obtain ⟨n10, hn10, g10⟩ := hJ.2.2.2.2.1
  obtain ⟨n9, hn9, g9⟩ := hJ.2.2.2.2.2
  refine lv_aload_n hx hb dX7_seal_0 rfl (lv_at hl 0 rfl) ?_
  refine fa_callVvu (As := []) (rest := []) CX HX (r_hold l G n hn v r hM) ln_X7_102 (by omega) rfl rfl rfl rfl (Nat.le_of_ble_eq_true rfl) hl.1 ⟨Nat.le_of_ble_eq_true rfl, Nat.le_of_ble_eq_true rfl⟩ ⟨Nat.le_refl _, Nat.le_refl _⟩ dX7_seal_1 (fun v2579 H locs h2578 HX2580 => ?_)
  have h_hold := h2578.1
  refine lv_aload_n hx hb dX7_seal_4 rfl (lv_at hl 0 rfl) ?_
  refine lv_aload_n hx hb dX7_seal_5 rfl (lv_at hl 0 rfl) ?_
  refine lv_iload_n hx hb dX7_seal_6 rfl (lv_at hl 1 rfl) ?_
  refine lv_iload_n hx hb dX7_seal_7 rfl (lv_at hl 2 rfl) ?_
  refine lv_iload_n hx hb dX7_seal_8 rfl (lv_at hl 3 rfl) ?_
  refine fa_callViu (As := [.int (a1), .int (a2), .int (a3)]) (rest := [.ref (fa_B G + (397))]) CX HX2580 (r_seals l G n hn v2579 r hM (show fa_MS (v2579 398) from by rw [h2578.2 398 (by omega)]; exact hJ.1) (a1) (a2) (a3)) ln_X7_115 (by omega) rfl rfl rfl rfl (Nat.le_of_ble_eq_true rfl) hl.1 ⟨Nat.le_of_ble_eq_true rfl, Nat.le_of_ble_eq_true rfl⟩ ⟨Nat.le_refl _, Nat.le_refl _⟩ dX7_seal_9 (fun x2582 v2583 H locs h2581 HX2584 => ?_)
  have hS_v2583 := h2581.1.1
  have h_seals := h2581.1.2.2.2.2
  refine fa_callViu (As := [.int (x2582)]) (rest := []) CX HX2584 (r_recorded l G n hn v2583 r hM (show fa_MJ v2583 from ⟨hS_v2583, (show fa_MS (v2583 399) from by rw [h2581.2 399 (by omega)]; exact (fa_MS.cp hJ.1 h2578.1)), (show fa_MS (v2583 400) from by rw [h2581.2 400 (by omega)]; exact (show fa_MS (v2579 400) from by rw [h2578.2 400 (by omega)]; exact hJ.2.2.1)), (show fa_MB (v2583 401) from by rw [h2581.2 401 (by omega)]; exact (show fa_MB (v2579 401) from by rw [h2578.2 401 (by omega)]; exact hJ.2.2.2.1)), ⟨n10, by omega, (by rw [h2581.2 _ (by omega)]; exact (by rw [h2578.2 _ (by omega)]; exact g10))⟩, ⟨n9, by omega, (by rw [h2581.2 _ (by omega)]; exact (by rw [h2578.2 _ (by omega)]; exact g9))⟩⟩) (x2582)) ln_X7_109 (by omega) rfl rfl rfl rfl (Nat.le_of_ble_eq_true rfl) hl.1 ⟨Nat.le_of_ble_eq_true rfl, Nat.le_of_ble_eq_true rfl⟩ ⟨Nat.le_refl _, Nat.le_refl _⟩ dX7_seal_12 (fun x2586 v2587 H locs h2585 HX2588 => ?_)
  have hJ_v2587 := h2585.1.1
  obtain ⟨n10_v2587, hn10_v2587, g10_v2587⟩ := hJ_v2587.2.2.2.2.1
  have h_recorded := h2585.1.2.2.2
  exact RET _ _ _ _ _ _ _ HX2588 dX7_seal_15 (⟨rfl, ⟨⟨hJ_v2587, (show v2587 397 9 = v 397 9 from ((show v2587 397 9 = nI (n9) from ((h2585.1.2.1).trans (by rw [h2581.2 _ (by omega)]; exact (by rw [h2578.2 _ (by omega)]; exact g9)))).trans g9.symm)), (show v2587 397 8 = v 397 8 from (h2585.1.2.2.1.trans ((congrFun (h2581.2 397 (by omega)) 8).trans (congrFun (h2578.2 397 (by omega)) 8)))), (fun A H hV => fb_m_face (op := fb_sealA A a1 a2 a3) hV h2578.2 h_hold (h2581.2 397 (by omega)) (h2581.2 399 (by omega)) (h2581.2 401 (by omega)) (h_seals A hV.1) (hV.1.sealA a1 a2 a3) h_recorded)⟩, (fa_fr.tr (fa_fr.tr (fa_fr.tr fa_fr.rf (fa_fr.wide h2578.2 (by omega) (by omega))) (fa_fr.wide h2581.2 (by omega) (by omega))) (fa_fr.wide h2585.2 (by omega) (by omega)))⟩⟩)
set_option maxHeartbeats 4000000 in
set_option maxRecDepth 100000 in
theorem r_lift (l : Launch) (G : fa_G) (n : Nat) (hn : 406 ≤ n) (v : fa_V) (r : fa_R) (hM : fa_RM r) (hJ : fa_MJ v) (a1 : Int32) (a2 : Int32) : fa_MI l G n yX7_lift cX7_lift 3 (some .int) 8 [.ref (fa_B G + (397)), .int (a1), .int (a2)] v r (fa_voi r (fun x v1 => ((fa_MJ v1) ∧ (v1 397 9 = v 397 9) ∧ (v1 397 8 = v 397 8) ∧ (∀ A H, fb_MV v A H → x = (fb_liftA A a1 a2).1 ∧ fb_MV v1 (fb_liftA A a1 a2).2 (fb_rec H A (fb_liftA A a1 a2).1))) ∧ (fa_fr (397) (403) v v1))) := by
  refine fa_startI (by decide +kernel) (Nat.le_of_ble_eq_true rfl) (fun p e s m args below meth c ls Q CX hl HX RET => ?_)
  have hl : lv_has ls 3 [(0, .ref (fa_B G + (397))), (1, .int (a1)), (2, .int (a2))] := hl
  have hx := CX.1.1
  have hb := CX.1.2.1
  have hS := hJ.1
  obtain ⟨n4, en4⟩ : ∃ m, m = fa_N (v 398 14) := ⟨_, rfl⟩
  obtain ⟨hn4, g4⟩ := hS.n4 en4
  obtain ⟨n5, en5⟩ : ∃ m, m = fa_N (v 398 15) := ⟨_, rfl⟩
  obtain ⟨hn5, g5⟩ := hS.n5 en5
  obtain ⟨n6, en6⟩ : ∃ m, m = fa_N (v 398 16) := ⟨_, rfl⟩
  obtain ⟨hn6, g6⟩ := hS.n6 en6
  obtain ⟨n10, hn10, g10⟩ := hJ.2.2.2.2.1
  obtain ⟨n9, hn9, g9⟩ := hJ.2.2.2.2.2
  refine lv_aload_n hx hb dX7_lift_0 rfl (lv_at hl 0 rfl) ?_
  refine fa_callVvu (As := []) (rest := []) CX HX (r_hold l G n hn v r hM) ln_X7_102 (by omega) rfl rfl rfl rfl (Nat.le_of_ble_eq_true rfl) hl.1 ⟨Nat.le_of_ble_eq_true rfl, Nat.le_of_ble_eq_true rfl⟩ ⟨Nat.le_refl _, Nat.le_refl _⟩ dX7_lift_1 (fun v2590 H locs h2589 HX2591 => ?_)
  have h_hold := h2589.1
  refine lv_aload_n hx hb dX7_lift_4 rfl (lv_at hl 0 rfl) ?_
  refine lv_aload_n hx hb dX7_lift_5 rfl (lv_at hl 0 rfl) ?_
  refine lv_iload_n hx hb dX7_lift_6 rfl (lv_at hl 1 rfl) ?_
  refine lv_iload_n hx hb dX7_lift_7 rfl (lv_at hl 2 rfl) ?_
  refine fa_callViu (As := [.int (a1), .int (a2)]) (rest := [.ref (fa_B G + (397))]) CX HX2591 (r_lifts l G n hn v2590 r hM (show fa_MS (v2590 398) from by rw [h2589.2 398 (by omega)]; exact hJ.1) (a1) (a2)) ln_X7_119 (by omega) rfl rfl rfl rfl (Nat.le_of_ble_eq_true rfl) hl.1 ⟨Nat.le_of_ble_eq_true rfl, Nat.le_of_ble_eq_true rfl⟩ ⟨Nat.le_refl _, Nat.le_refl _⟩ dX7_lift_8 (fun x2593 v2594 H locs h2592 HX2595 => ?_)
  have hS_v2594 := h2592.1.1
  have h_lifts := h2592.1.2.2.2.2
  refine fa_callViu (As := [.int (x2593)]) (rest := []) CX HX2595 (r_recorded l G n hn v2594 r hM (show fa_MJ v2594 from ⟨hS_v2594, (show fa_MS (v2594 399) from by rw [h2592.2 399 (by omega)]; exact (fa_MS.cp hJ.1 h2589.1)), (show fa_MS (v2594 400) from by rw [h2592.2 400 (by omega)]; exact (show fa_MS (v2590 400) from by rw [h2589.2 400 (by omega)]; exact hJ.2.2.1)), (show fa_MB (v2594 401) from by rw [h2592.2 401 (by omega)]; exact (show fa_MB (v2590 401) from by rw [h2589.2 401 (by omega)]; exact hJ.2.2.2.1)), ⟨n10, by omega, (by rw [h2592.2 _ (by omega)]; exact (by rw [h2589.2 _ (by omega)]; exact g10))⟩, ⟨n9, by omega, (by rw [h2592.2 _ (by omega)]; exact (by rw [h2589.2 _ (by omega)]; exact g9))⟩⟩) (x2593)) ln_X7_109 (by omega) rfl rfl rfl rfl (Nat.le_of_ble_eq_true rfl) hl.1 ⟨Nat.le_of_ble_eq_true rfl, Nat.le_of_ble_eq_true rfl⟩ ⟨Nat.le_refl _, Nat.le_refl _⟩ dX7_lift_11 (fun x2597 v2598 H locs h2596 HX2599 => ?_)
  have hJ_v2598 := h2596.1.1
  obtain ⟨n10_v2598, hn10_v2598, g10_v2598⟩ := hJ_v2598.2.2.2.2.1
  have h_recorded := h2596.1.2.2.2
  exact RET _ _ _ _ _ _ _ HX2599 dX7_lift_14 (⟨rfl, ⟨⟨hJ_v2598, (show v2598 397 9 = v 397 9 from ((show v2598 397 9 = nI (n9) from ((h2596.1.2.1).trans (by rw [h2592.2 _ (by omega)]; exact (by rw [h2589.2 _ (by omega)]; exact g9)))).trans g9.symm)), (show v2598 397 8 = v 397 8 from (h2596.1.2.2.1.trans ((congrFun (h2592.2 397 (by omega)) 8).trans (congrFun (h2589.2 397 (by omega)) 8)))), (fun A H hV => fb_m_face (op := fb_liftA A a1 a2) hV h2589.2 h_hold (h2592.2 397 (by omega)) (h2592.2 399 (by omega)) (h2592.2 401 (by omega)) (h_lifts A hV.1) (hV.1.liftA a1 a2) h_recorded)⟩, (fa_fr.tr (fa_fr.tr (fa_fr.tr fa_fr.rf (fa_fr.wide h2589.2 (by omega) (by omega))) (fa_fr.wide h2592.2 (by omega) (by omega))) (fa_fr.wide h2596.2 (by omega) (by omega)))⟩⟩)
set_option maxHeartbeats 4000000 in
set_option maxRecDepth 100000 in
theorem r_refer (l : Launch) (G : fa_G) (n : Nat) (hn : 406 ≤ n) (v : fa_V) (r : fa_R) (hM : fa_RM r) (hJ : fa_MJ v) (a1 : Int32) (a2 : Int32) : fa_MI l G n yX7_refer cX7_refer 3 (some .int) 8 [.ref (fa_B G + (397)), .int (a1), .int (a2)] v r (fa_voi r (fun x v1 => ((fa_MJ v1) ∧ (v1 397 9 = v 397 9) ∧ (v1 397 8 = v 397 8) ∧ (∀ A H, fb_MV v A H → x = (fb_refA A a1 a2).1 ∧ fb_MV v1 (fb_refA A a1 a2).2 (fb_rec H A (fb_refA A a1 a2).1))) ∧ (fa_fr (397) (403) v v1))) := by
  refine fa_startI (by decide +kernel) (Nat.le_of_ble_eq_true rfl) (fun p e s m args below meth c ls Q CX hl HX RET => ?_)
  have hl : lv_has ls 3 [(0, .ref (fa_B G + (397))), (1, .int (a1)), (2, .int (a2))] := hl
  have hx := CX.1.1
  have hb := CX.1.2.1
  have hS := hJ.1
  obtain ⟨n4, en4⟩ : ∃ m, m = fa_N (v 398 14) := ⟨_, rfl⟩
  obtain ⟨hn4, g4⟩ := hS.n4 en4
  obtain ⟨n5, en5⟩ : ∃ m, m = fa_N (v 398 15) := ⟨_, rfl⟩
  obtain ⟨hn5, g5⟩ := hS.n5 en5
  obtain ⟨n6, en6⟩ : ∃ m, m = fa_N (v 398 16) := ⟨_, rfl⟩
  obtain ⟨hn6, g6⟩ := hS.n6 en6
  obtain ⟨n10, hn10, g10⟩ := hJ.2.2.2.2.1
  obtain ⟨n9, hn9, g9⟩ := hJ.2.2.2.2.2
  refine lv_aload_n hx hb dX7_refer_0 rfl (lv_at hl 0 rfl) ?_
  refine fa_callVvu (As := []) (rest := []) CX HX (r_hold l G n hn v r hM) ln_X7_102 (by omega) rfl rfl rfl rfl (Nat.le_of_ble_eq_true rfl) hl.1 ⟨Nat.le_of_ble_eq_true rfl, Nat.le_of_ble_eq_true rfl⟩ ⟨Nat.le_refl _, Nat.le_refl _⟩ dX7_refer_1 (fun v2601 H locs h2600 HX2602 => ?_)
  have h_hold := h2600.1
  refine lv_aload_n hx hb dX7_refer_4 rfl (lv_at hl 0 rfl) ?_
  refine lv_aload_n hx hb dX7_refer_5 rfl (lv_at hl 0 rfl) ?_
  refine lv_iload_n hx hb dX7_refer_6 rfl (lv_at hl 1 rfl) ?_
  refine lv_iload_n hx hb dX7_refer_7 rfl (lv_at hl 2 rfl) ?_
  refine fa_callViu (As := [.int (a1), .int (a2)]) (rest := [.ref (fa_B G + (397))]) CX HX2602 (r_refers l G n hn v2601 r hM (show fa_MS (v2601 398) from by rw [h2600.2 398 (by omega)]; exact hJ.1) (a1) (a2)) ln_X7_122 (by omega) rfl rfl rfl rfl (Nat.le_of_ble_eq_true rfl) hl.1 ⟨Nat.le_of_ble_eq_true rfl, Nat.le_of_ble_eq_true rfl⟩ ⟨Nat.le_refl _, Nat.le_refl _⟩ dX7_refer_8 (fun x2604 v2605 H locs h2603 HX2606 => ?_)
  have hS_v2605 := h2603.1.1
  have h_refers := h2603.1.2.2.2.2
  refine fa_callViu (As := [.int (x2604)]) (rest := []) CX HX2606 (r_recorded l G n hn v2605 r hM (show fa_MJ v2605 from ⟨hS_v2605, (show fa_MS (v2605 399) from by rw [h2603.2 399 (by omega)]; exact (fa_MS.cp hJ.1 h2600.1)), (show fa_MS (v2605 400) from by rw [h2603.2 400 (by omega)]; exact (show fa_MS (v2601 400) from by rw [h2600.2 400 (by omega)]; exact hJ.2.2.1)), (show fa_MB (v2605 401) from by rw [h2603.2 401 (by omega)]; exact (show fa_MB (v2601 401) from by rw [h2600.2 401 (by omega)]; exact hJ.2.2.2.1)), ⟨n10, by omega, (by rw [h2603.2 _ (by omega)]; exact (by rw [h2600.2 _ (by omega)]; exact g10))⟩, ⟨n9, by omega, (by rw [h2603.2 _ (by omega)]; exact (by rw [h2600.2 _ (by omega)]; exact g9))⟩⟩) (x2604)) ln_X7_109 (by omega) rfl rfl rfl rfl (Nat.le_of_ble_eq_true rfl) hl.1 ⟨Nat.le_of_ble_eq_true rfl, Nat.le_of_ble_eq_true rfl⟩ ⟨Nat.le_refl _, Nat.le_refl _⟩ dX7_refer_11 (fun x2608 v2609 H locs h2607 HX2610 => ?_)
  have hJ_v2609 := h2607.1.1
  obtain ⟨n10_v2609, hn10_v2609, g10_v2609⟩ := hJ_v2609.2.2.2.2.1
  have h_recorded := h2607.1.2.2.2
  exact RET _ _ _ _ _ _ _ HX2610 dX7_refer_14 (⟨rfl, ⟨⟨hJ_v2609, (show v2609 397 9 = v 397 9 from ((show v2609 397 9 = nI (n9) from ((h2607.1.2.1).trans (by rw [h2603.2 _ (by omega)]; exact (by rw [h2600.2 _ (by omega)]; exact g9)))).trans g9.symm)), (show v2609 397 8 = v 397 8 from (h2607.1.2.2.1.trans ((congrFun (h2603.2 397 (by omega)) 8).trans (congrFun (h2600.2 397 (by omega)) 8)))), (fun A H hV => fb_m_face (op := fb_refA A a1 a2) hV h2600.2 h_hold (h2603.2 397 (by omega)) (h2603.2 399 (by omega)) (h2603.2 401 (by omega)) (h_refers A hV.1) (hV.1.refA a1 a2) h_recorded)⟩, (fa_fr.tr (fa_fr.tr (fa_fr.tr fa_fr.rf (fa_fr.wide h2600.2 (by omega) (by omega))) (fa_fr.wide h2603.2 (by omega) (by omega))) (fa_fr.wide h2607.2 (by omega) (by omega)))⟩⟩)
set_option maxHeartbeats 4000000 in
set_option maxRecDepth 100000 in
theorem r_pass (l : Launch) (G : fa_G) (n : Nat) (hn : 406 ≤ n) (v : fa_V) (r : fa_R) (hM : fa_RM r) (hJ : fa_MJ v) (a1 : Int32) : fa_MI l G n yX7_pass cX7_pass 2 (some .int) 10 [.ref (fa_B G + (397)), .int (a1)] v r (fa_voi r (fun x v1 => ((fa_MJ v1) ∧ (v1 397 9 = v 397 9) ∧ (v1 397 8 = v 397 8) ∧ (∀ A H, fb_MV v A H → x = (fb_passA A a1).1 ∧ fb_MV v1 (fb_passA A a1).2 (fb_rec H A (fb_passA A a1).1))) ∧ (fa_fr (397) (403) v v1))) := by
  refine fa_startI (by decide +kernel) (Nat.le_of_ble_eq_true rfl) (fun p e s m args below meth c ls Q CX hl HX RET => ?_)
  have hl : lv_has ls 2 [(0, .ref (fa_B G + (397))), (1, .int (a1))] := hl
  have hx := CX.1.1
  have hb := CX.1.2.1
  have hS := hJ.1
  obtain ⟨n4, en4⟩ : ∃ m, m = fa_N (v 398 14) := ⟨_, rfl⟩
  obtain ⟨hn4, g4⟩ := hS.n4 en4
  obtain ⟨n5, en5⟩ : ∃ m, m = fa_N (v 398 15) := ⟨_, rfl⟩
  obtain ⟨hn5, g5⟩ := hS.n5 en5
  obtain ⟨n6, en6⟩ : ∃ m, m = fa_N (v 398 16) := ⟨_, rfl⟩
  obtain ⟨hn6, g6⟩ := hS.n6 en6
  obtain ⟨n10, hn10, g10⟩ := hJ.2.2.2.2.1
  obtain ⟨n9, hn9, g9⟩ := hJ.2.2.2.2.2
  refine lv_aload_n hx hb dX7_pass_0 rfl (lv_at hl 0 rfl) ?_
  refine fa_callVvu (As := []) (rest := []) CX HX (r_hold l G n hn v r hM) ln_X7_102 (by omega) rfl rfl rfl rfl (Nat.le_of_ble_eq_true rfl) hl.1 ⟨Nat.le_of_ble_eq_true rfl, Nat.le_of_ble_eq_true rfl⟩ ⟨Nat.le_refl _, Nat.le_refl _⟩ dX7_pass_1 (fun v2612 H locs h2611 HX2613 => ?_)
  have h_hold := h2611.1
  refine lv_aload_n hx hb dX7_pass_4 rfl (lv_at hl 0 rfl) ?_
  refine lv_aload_n hx hb dX7_pass_5 rfl (lv_at hl 0 rfl) ?_
  refine lv_iload_n hx hb dX7_pass_6 rfl (lv_at hl 1 rfl) ?_
  refine fa_callViu (As := [.int (a1)]) (rest := [.ref (fa_B G + (397))]) CX HX2613 (r_passes l G n hn v2612 r hM (show fa_MS (v2612 398) from by rw [h2611.2 398 (by omega)]; exact hJ.1) (a1)) ln_X7_128 (by omega) rfl rfl rfl rfl (Nat.le_of_ble_eq_true rfl) hl.1 ⟨Nat.le_of_ble_eq_true rfl, Nat.le_of_ble_eq_true rfl⟩ ⟨Nat.le_refl _, Nat.le_refl _⟩ dX7_pass_7 (fun x2615 v2616 H locs h2614 HX2617 => ?_)
  have hS_v2616 := h2614.1.1
  have h_passes := h2614.1.2.2
  refine fa_callViu (As := [.int (x2615)]) (rest := []) CX HX2617 (r_recorded l G n hn v2616 r hM (show fa_MJ v2616 from ⟨hS_v2616, (show fa_MS (v2616 399) from by rw [h2614.1.2.1 399 (by decide) (by decide)]; exact (fa_MS.cp hJ.1 h2611.1)), (show fa_MS (v2616 400) from by rw [h2614.1.2.1 400 (by decide) (by decide)]; exact (show fa_MS (v2612 400) from by rw [h2611.2 400 (by omega)]; exact hJ.2.2.1)), (show fa_MB (v2616 401) from by rw [h2614.1.2.1 401 (by decide) (by decide)]; exact (show fa_MB (v2612 401) from by rw [h2611.2 401 (by omega)]; exact hJ.2.2.2.1)), ⟨n10, by omega, (by rw [h2614.2 _ (by omega)]; exact (by rw [h2611.2 _ (by omega)]; exact g10))⟩, ⟨n9, by omega, (by rw [h2614.2 _ (by omega)]; exact (by rw [h2611.2 _ (by omega)]; exact g9))⟩⟩) (x2615)) ln_X7_109 (by omega) rfl rfl rfl rfl (Nat.le_of_ble_eq_true rfl) hl.1 ⟨Nat.le_of_ble_eq_true rfl, Nat.le_of_ble_eq_true rfl⟩ ⟨Nat.le_refl _, Nat.le_refl _⟩ dX7_pass_10 (fun x2619 v2620 H locs h2618 HX2621 => ?_)
  have hJ_v2620 := h2618.1.1
  obtain ⟨n10_v2620, hn10_v2620, g10_v2620⟩ := hJ_v2620.2.2.2.2.1
  have h_recorded := h2618.1.2.2.2
  exact RET _ _ _ _ _ _ _ HX2621 dX7_pass_13 (⟨rfl, ⟨⟨hJ_v2620, (show v2620 397 9 = v 397 9 from ((show v2620 397 9 = nI (n9) from ((h2618.1.2.1).trans (by rw [h2614.2 _ (by omega)]; exact (by rw [h2611.2 _ (by omega)]; exact g9)))).trans g9.symm)), (show v2620 397 8 = v 397 8 from (h2618.1.2.2.1.trans ((congrFun (h2614.2 397 (by omega)) 8).trans (congrFun (h2611.2 397 (by omega)) 8)))), (fun A H hV => fb_m_face (op := fb_passA A a1) hV h2611.2 h_hold (h2614.2 397 (by omega)) (h2614.1.2.1 399 (by decide) (by decide)) (h2614.1.2.1 401 (by decide) (by decide)) (h_passes A hV.1) (hV.1.passA a1) h_recorded)⟩, (fa_fr.tr (fa_fr.tr (fa_fr.tr fa_fr.rf (fa_fr.wide h2611.2 (by omega) (by omega))) (fa_fr.wide h2614.2 (by omega) (by omega))) (fa_fr.wide h2618.2 (by omega) (by omega)))⟩⟩)
set_option maxHeartbeats 4000000 in
set_option maxRecDepth 100000 in
theorem r_reserve (l : Launch) (G : fa_G) (n : Nat) (hn : 406 ≤ n) (v : fa_V) (r : fa_R) (hM : fa_RM r) (hJ : fa_MJ v) (a1 : Int32) (a2 : Int32) : fa_MI l G n yX7_reserve cX7_reserve 3 (some .int) 8 [.ref (fa_B G + (397)), .int (a1), .int (a2)] v r (fa_voi r (fun x v1 => ((fa_MJ v1) ∧ (v1 397 9 = v 397 9) ∧ (v1 397 8 = v 397 8) ∧ (∀ A H, fb_MV v A H → x = (fb_resA A a1 a2).1 ∧ fb_MV v1 (fb_resA A a1 a2).2 (fb_rec H A (fb_resA A a1 a2).1))) ∧ (fa_fr (397) (403) v v1))) := by
  refine fa_startI (by decide +kernel) (Nat.le_of_ble_eq_true rfl) (fun p e s m args below meth c ls Q CX hl HX RET => ?_)
  have hl : lv_has ls 3 [(0, .ref (fa_B G + (397))), (1, .int (a1)), (2, .int (a2))] := hl
  have hx := CX.1.1
  have hb := CX.1.2.1
  have hS := hJ.1
  obtain ⟨n4, en4⟩ : ∃ m, m = fa_N (v 398 14) := ⟨_, rfl⟩
  obtain ⟨hn4, g4⟩ := hS.n4 en4
  obtain ⟨n5, en5⟩ : ∃ m, m = fa_N (v 398 15) := ⟨_, rfl⟩
  obtain ⟨hn5, g5⟩ := hS.n5 en5
  obtain ⟨n6, en6⟩ : ∃ m, m = fa_N (v 398 16) := ⟨_, rfl⟩
  obtain ⟨hn6, g6⟩ := hS.n6 en6
  obtain ⟨n10, hn10, g10⟩ := hJ.2.2.2.2.1
  obtain ⟨n9, hn9, g9⟩ := hJ.2.2.2.2.2
  refine lv_aload_n hx hb dX7_reserve_0 rfl (lv_at hl 0 rfl) ?_
  refine lv_iload_n hx hb dX7_reserve_1 rfl (lv_at hl 1 rfl) ?_
  refine fa_callVip (As := [.int (a1)]) (rest := []) CX HX (r_placeOf l G n hn v r hM hJ.1 (a1)) ln_X7_60 (by omega) rfl rfl rfl rfl (Nat.le_of_ble_eq_true rfl) hl.1 ⟨Nat.le_of_ble_eq_true rfl, Nat.le_of_ble_eq_true rfl⟩ ⟨Nat.le_refl _, Nat.le_refl _⟩ dX7_reserve_2 (fun x2623 H locs h2622 HX2624 => ?_)
  have h_pl2 := h2622.1
  have h_plm2 := h2622.2
  refine lv_iconst (v := (-1 : Int32)) hx hb dX7_reserve_5 (by decide) ?_
  refine lv_icmp_ne (tgt := 11) hx hb dX7_reserve_6 (by decide) (fun c_6 => ?_) (fun c_6 => ?_)
  · refine lv_iload_n hx hb dX7_reserve_11 rfl (lv_at hl 2 rfl) ?_
    refine lv_aload_n hx hb dX7_reserve_12 rfl (lv_at hl 0 rfl) ?_
    refine fa_getr (k := 397) (j := 398) CX HX2624 fl_X7_7 (by omega) rfl rfl hM.1 dX7_reserve_13 ?_
    refine lv_bipush (v := nI (7)) hx hb dX7_reserve_16 (by decide) ?_
    refine fa_iald (k := 398) (j := 7) CX HX2624 (by omega) rfl (by omega) (by first | decide | assumption) dX7_reserve_18 ?_
    refine lv_iconst (v := nI (1)) hx hb dX7_reserve_19 (by decide) ?_
    refine lv_iadd hx hb dX7_reserve_20 ?_
    refine lv_sipush (v := nI (9999)) hx hb dX7_reserve_21 (by decide) ?_
    refine fa_callSip (As := [.int (a2), .int ((v 398 7) + (nI (1))), .int (nI (9999))]) (rest := []) CX HX2624 (r_in l G n v r (a2) ((v 398 7) + (nI (1))) (nI (9999))) ln_X7_86 rfl rfl (Nat.le_of_ble_eq_true rfl) hl.1 ⟨Nat.le_of_ble_eq_true rfl, Nat.le_of_ble_eq_true rfl⟩ ⟨Nat.le_refl _, Nat.le_refl _⟩ dX7_reserve_24 (fun x2626 H locs h2625 HX2627 => ?_)
    have h_in_24 := h2625
    refine lv_if_ne (tgt := 33) hx hb dX7_reserve_27 (by decide) (fun c_27 => ?_) (fun c_27 => ?_)
    · refine lv_aload_n hx hb dX7_reserve_33 rfl (lv_at hl 0 rfl) ?_
      refine lv_iload_n hx hb dX7_reserve_34 rfl (lv_at hl 1 rfl) ?_
      refine lv_iload_n hx hb dX7_reserve_35 rfl (lv_at hl 2 rfl) ?_
      refine fa_callVip (As := [.int (a1), .int (a2)]) (rest := []) CX HX2627 (r_find l G n hn v r hM hJ.1 (a1) (a2)) ln_X7_125 (by omega) rfl rfl rfl rfl (Nat.le_of_ble_eq_true rfl) hl.1 ⟨Nat.le_of_ble_eq_true rfl, Nat.le_of_ble_eq_true rfl⟩ ⟨Nat.le_refl _, Nat.le_refl _⟩ dX7_reserve_36 (fun x2629 H locs h2628 HX2630 => ?_)
      have h_pl36 := h2628.1
      have h_plm36 := h2628.2
      refine lv_iconst (v := (-1 : Int32)) hx hb dX7_reserve_39 (by decide) ?_
      refine lv_icmp_eq (tgt := 46) hx hb dX7_reserve_40 (by decide) (fun c_40 => ?_) (fun c_40 => ?_)
      · refine lv_aload_n hx hb dX7_reserve_46 rfl (lv_at hl 0 rfl) ?_
        refine fa_getr (k := 397) (j := 398) CX HX2630 fl_X7_7 (by omega) rfl rfl hM.1 dX7_reserve_47 ?_
        refine lv_bipush (v := nI (15)) hx hb dX7_reserve_50 (by decide) ?_
        refine fa_iald (k := 398) (j := 15) CX HX2630 (by omega) rfl (by omega) (by first | decide | assumption) dX7_reserve_52 ?_
        rw [show v 398 15 = nI (n5) from g5]
        refine lv_bipush (v := nI (8)) hx hb dX7_reserve_53 (by decide) ?_
        refine lv_icmp_ne (tgt := 61) hx hb dX7_reserve_55 (by decide) (fun c_55 => ?_) (fun c_55 => ?_)
        · have hne : ¬ n5 = 8 := fun z => c_55 (by rw [z])
          refine lv_aload_n hx hb dX7_reserve_61 rfl (lv_at hl 0 rfl) ?_
          refine fa_callVvu (As := []) (rest := []) CX HX2630 (r_hold l G n hn v r hM) ln_X7_102 (by omega) rfl rfl rfl rfl (Nat.le_of_ble_eq_true rfl) hl.1 ⟨Nat.le_of_ble_eq_true rfl, Nat.le_of_ble_eq_true rfl⟩ ⟨Nat.le_refl _, Nat.le_refl _⟩ dX7_reserve_62 (fun v2632 H locs h2631 HX2633 => ?_)
          have h_hold := h2631.1
          refine lv_aload_n hx hb dX7_reserve_65 rfl (lv_at hl 0 rfl) ?_
          refine fa_getr (k := 397) (j := 398) CX HX2633 fl_X7_7 (by omega) rfl rfl hM.1 dX7_reserve_66 ?_
          refine lv_sipush (v := nI (377)) hx hb dX7_reserve_69 (by decide) ?_
          refine lv_iconst (v := nI (2)) hx hb dX7_reserve_72 (by decide) ?_
          refine lv_aload_n hx hb dX7_reserve_73 rfl (lv_at hl 0 rfl) ?_
          refine fa_getr (k := 397) (j := 398) CX HX2633 fl_X7_7 (by omega) rfl rfl hM.1 dX7_reserve_74 ?_
          refine lv_bipush (v := nI (15)) hx hb dX7_reserve_77 (by decide) ?_
          refine fa_iald (k := 398) (j := 15) CX HX2633 (by omega) rfl (by omega) (by first | decide | assumption) dX7_reserve_79 ?_
          rw [show v2632 398 15 = nI (n5) from (by rw [h2631.2 _ (by omega)]; exact g5)]
          refine fa_imulN hx hb dX7_reserve_80 ?_
          refine fa_iaddN hx hb dX7_reserve_81 ?_
          refine lv_iload_n hx hb dX7_reserve_82 rfl (lv_at hl 1 rfl) ?_
          refine fa_iast (k := 398) (j := 377 + (2 * n5)) CX HX2633 (by omega) rfl (by omega) (by first | decide | assumption) dX7_reserve_83 (fun H locs v2634 e2635 HX2636 => ?_)
          refine lv_aload_n hx hb dX7_reserve_84 rfl (lv_at hl 0 rfl) ?_
          refine fa_getr (k := 397) (j := 398) CX HX2636 fl_X7_7 (by omega) rfl rfl hM.1 dX7_reserve_85 ?_
          refine lv_sipush (v := nI (377)) hx hb dX7_reserve_88 (by decide) ?_
          refine lv_iconst (v := nI (2)) hx hb dX7_reserve_91 (by decide) ?_
          refine lv_aload_n hx hb dX7_reserve_92 rfl (lv_at hl 0 rfl) ?_
          refine fa_getr (k := 397) (j := 398) CX HX2636 fl_X7_7 (by omega) rfl rfl hM.1 dX7_reserve_93 ?_
          refine lv_bipush (v := nI (15)) hx hb dX7_reserve_96 (by decide) ?_
          refine fa_iald (k := 398) (j := 15) CX HX2636 (by omega) rfl (by omega) (by first | decide | assumption) dX7_reserve_98 ?_
          rw [show v2634 398 15 = nI (n5) from (by rw [e2635, fa_u_n _ _ (by omega)]; exact (by rw [h2631.2 _ (by omega)]; exact g5))]
          refine fa_imulN hx hb dX7_reserve_99 ?_
          refine fa_iaddN hx hb dX7_reserve_100 ?_
          refine lv_iconst (v := nI (1)) hx hb dX7_reserve_101 (by decide) ?_
          refine fa_iaddN hx hb dX7_reserve_102 ?_
          refine lv_iload_n hx hb dX7_reserve_103 rfl (lv_at hl 2 rfl) ?_
          refine fa_iast (k := 398) (j := 377 + (2 * n5) + 1) CX HX2636 (by omega) rfl (by omega) (by first | decide | assumption) dX7_reserve_104 (fun H locs v2637 e2638 HX2639 => ?_)
          refine lv_aload_n hx hb dX7_reserve_105 rfl (lv_at hl 0 rfl) ?_
          refine fa_getr (k := 397) (j := 398) CX HX2639 fl_X7_7 (by omega) rfl rfl hM.1 dX7_reserve_106 ?_
          refine lv_bipush (v := nI (15)) hx hb dX7_reserve_109 (by decide) ?_
          refine lv_dup2_11 hx hb dX7_reserve_111 rfl rfl ?_
          refine fa_iald (k := 398) (j := 15) CX HX2639 (by omega) rfl (by omega) (by first | decide | assumption) dX7_reserve_112 ?_
          rw [show v2637 398 15 = nI (n5) from (by rw [e2638, fa_u_n _ _ (by omega)]; exact (by rw [e2635, fa_u_n _ _ (by omega)]; exact (by rw [h2631.2 _ (by omega)]; exact g5)))]
          refine lv_iconst (v := nI (1)) hx hb dX7_reserve_113 (by decide) ?_
          refine fa_iaddN hx hb dX7_reserve_114 ?_
          refine fa_iast (k := 398) (j := 15) CX HX2639 (by omega) rfl (by omega) (by first | decide | assumption) dX7_reserve_115 (fun H locs v2640 e2641 HX2642 => ?_)
          refine lv_aload_n hx hb dX7_reserve_116 rfl (lv_at hl 0 rfl) ?_
          refine lv_aload_n hx hb dX7_reserve_117 rfl (lv_at hl 0 rfl) ?_
          refine fa_getr (k := 397) (j := 398) CX HX2642 fl_X7_7 (by omega) rfl rfl hM.1 dX7_reserve_118 ?_
          refine lv_bipush (v := nI (15)) hx hb dX7_reserve_121 (by decide) ?_
          refine fa_iald (k := 398) (j := 15) CX HX2642 (by omega) rfl (by omega) (by first | decide | assumption) dX7_reserve_123 ?_
          rw [show v2640 398 15 = nI (n5 + 1) from (by rw [e2641, fa_u_s])]
          refine fa_callViu (As := [.int (nI (n5 + 1))]) (rest := []) CX HX2642 (r_recorded l G n hn v2640 r hM (show fa_MJ v2640 from ⟨(show fa_MS (v2640 398) from by rw [e2641]; exact fa_MS.u (show fa_MS (v2637 398) from by rw [e2638]; exact fa_MS.u (show fa_MS (v2634 398) from by rw [e2635]; exact fa_MS.u (show fa_MS (v2632 398) from by rw [h2631.2 398 (by omega)]; exact hJ.1) (fa_ok.o (by omega) (by omega) (by omega) (fun p hp => by omega))) (fa_ok.o (by omega) (by omega) (by omega) (fun p hp => by omega))) (fa_ok.n15 (by omega))), (show fa_MS (v2640 399) from by rw [e2641, fa_u_k _ _ (by decide)]; exact (show fa_MS (v2637 399) from by rw [e2638, fa_u_k _ _ (by decide)]; exact (show fa_MS (v2634 399) from by rw [e2635, fa_u_k _ _ (by decide)]; exact (fa_MS.cp hJ.1 h2631.1)))), (show fa_MS (v2640 400) from by rw [e2641, fa_u_k _ _ (by decide)]; exact (show fa_MS (v2637 400) from by rw [e2638, fa_u_k _ _ (by decide)]; exact (show fa_MS (v2634 400) from by rw [e2635, fa_u_k _ _ (by decide)]; exact (show fa_MS (v2632 400) from by rw [h2631.2 400 (by omega)]; exact hJ.2.2.1)))), (show fa_MB (v2640 401) from by rw [e2641, fa_u_k _ _ (by decide)]; exact (show fa_MB (v2637 401) from by rw [e2638, fa_u_k _ _ (by decide)]; exact (show fa_MB (v2634 401) from by rw [e2635, fa_u_k _ _ (by decide)]; exact (show fa_MB (v2632 401) from by rw [h2631.2 401 (by omega)]; exact hJ.2.2.2.1)))), ⟨n10, by omega, (by rw [e2641, fa_u_n _ _ (by omega)]; exact (by rw [e2638, fa_u_n _ _ (by omega)]; exact (by rw [e2635, fa_u_n _ _ (by omega)]; exact (by rw [h2631.2 _ (by omega)]; exact g10))))⟩, ⟨n9, by omega, (by rw [e2641, fa_u_n _ _ (by omega)]; exact (by rw [e2638, fa_u_n _ _ (by omega)]; exact (by rw [e2635, fa_u_n _ _ (by omega)]; exact (by rw [h2631.2 _ (by omega)]; exact g9))))⟩⟩) (nI (n5 + 1))) ln_X7_109 (by omega) rfl rfl rfl rfl (Nat.le_of_ble_eq_true rfl) hl.1 ⟨Nat.le_of_ble_eq_true rfl, Nat.le_of_ble_eq_true rfl⟩ ⟨Nat.le_refl _, Nat.le_refl _⟩ dX7_reserve_124 (fun x2644 v2645 H locs h2643 HX2646 => ?_)
          have hJ_v2645 := h2643.1.1
          obtain ⟨n10_v2645, hn10_v2645, g10_v2645⟩ := hJ_v2645.2.2.2.2.1
          have h_recorded := h2643.1.2.2.2
          exact RET _ _ _ _ _ _ _ HX2646 dX7_reserve_127 (⟨rfl, ⟨⟨hJ_v2645, (show v2645 397 9 = v 397 9 from ((show v2645 397 9 = nI (n9) from ((h2643.1.2.1).trans (by rw [e2641, fa_u_n _ _ (by omega)]; exact (by rw [e2638, fa_u_n _ _ (by omega)]; exact (by rw [e2635, fa_u_n _ _ (by omega)]; exact (by rw [h2631.2 _ (by omega)]; exact g9)))))).trans g9.symm)), (show v2645 397 8 = v 397 8 from (h2643.1.2.2.1.trans ((show v2640 397 8 = v2637 397 8 from by rw [e2641, fa_u_n _ _ (by omega)]).trans ((show v2637 397 8 = v2634 397 8 from by rw [e2638, fa_u_n _ _ (by omega)]).trans ((show v2634 397 8 = v2632 397 8 from by rw [e2635, fa_u_n _ _ (by omega)]).trans (congrFun (h2631.2 397 (by omega)) 8)))))), (fun A H hV => by (obtain ⟨p, hp, ep, ei, -⟩ := fb_m_pl1 hV.2.1 hV.1 h_plm2 c_6; have NB : ¬ (a2 ≤ A.g 7 ∨ ¬ a2 ≤ nI 9999) := (fun z => fa_in1 h_in_24 c_27 (by rw [hV.2.1.g (k := 7) (by decide)]; exact (fb_m_inR hV.1 a2).mpr z)); have NM := fb_m_fd0 hV.2.1 h_plm36 (by first | exact c_40 | exact Decidable.not_not.mp c_40); have ql : A.q.length = n5 := fa_nIinj (by have := hV.2.1.q8; omega) (by omega) (hV.2.1.n5.symm.trans g5); exact fb_m_face (op := fb_resA A a1 a2) hV h2631.2 h_hold (show v2640 397 = v2632 397 from by rw [e2641, fa_u_k _ _ (by decide), e2638, fa_u_k _ _ (by decide), e2635, fa_u_k _ _ (by decide)]) (show v2640 399 = v2632 399 from by rw [e2641, fa_u_k _ _ (by decide), e2638, fa_u_k _ _ (by decide), e2635, fa_u_k _ _ (by decide)]) (show v2640 401 = v2632 401 from by rw [e2641, fa_u_k _ _ (by decide), e2638, fa_u_k _ _ (by decide), e2635, fa_u_k _ _ (by decide)]) (fun m => by (rw [fb_resA_s ei NB NM (by omega)]; exact fb_m_res m (by rw [h2631.2 398 (by omega)]; exact g5) (by omega) e2635 e2638 e2641)) (hV.1.resA a1 a2) h_recorded))⟩, (fa_fr.tr (by rw [e2641]; exact fa_fr.u (by rw [e2638]; exact fa_fr.u (by rw [e2635]; exact fa_fr.u (fa_fr.tr fa_fr.rf (fa_fr.wide h2631.2 (by omega) (by omega))) (by omega)) (by omega)) (by omega)) (fa_fr.wide h2643.2 (by omega) (by omega)))⟩⟩)
        · refine lv_bipush (v := (-4 : Int32)) hx hb dX7_reserve_58 (by decide) ?_
          exact RET _ _ _ _ _ _ _ HX2630 dX7_reserve_60 (⟨rfl, ⟨⟨hJ, (show v 397 9 = v 397 9 from rfl), (show v 397 8 = v 397 8 from rfl), (fun A H hV => by (obtain ⟨p, hp, ep, ei, -⟩ := fb_m_pl1 hV.2.1 hV.1 h_plm2 c_6; have NB : ¬ (a2 ≤ A.g 7 ∨ ¬ a2 ≤ nI 9999) := (fun z => fa_in1 h_in_24 c_27 (by rw [hV.2.1.g (k := 7) (by decide)]; exact (fb_m_inR hV.1 a2).mpr z)); have NM := fb_m_fd0 hV.2.1 h_plm36 (by first | exact c_40 | exact Decidable.not_not.mp c_40); have ql : A.q.length = n5 := fa_nIinj (by have := hV.2.1.q8; omega) (by omega) (hV.2.1.n5.symm.trans g5); have z8 := fa_nIinj (by omega) (by omega) c_55; exact fb_m_err hV (fb_resA_m ei NB NM (by omega)) (by decide)))⟩, fa_fr.rf⟩⟩)
      · refine lv_bipush (v := (-5 : Int32)) hx hb dX7_reserve_43 (by decide) ?_
        exact RET _ _ _ _ _ _ _ HX2630 dX7_reserve_45 (⟨rfl, ⟨⟨hJ, (show v 397 9 = v 397 9 from rfl), (show v 397 8 = v 397 8 from rfl), (fun A H hV => by (obtain ⟨p, hp, ep, ei, -⟩ := fb_m_pl1 hV.2.1 hV.1 h_plm2 c_6; have NB : ¬ (a2 ≤ A.g 7 ∨ ¬ a2 ≤ nI 9999) := (fun z => fa_in1 h_in_24 c_27 (by rw [hV.2.1.g (k := 7) (by decide)]; exact (fb_m_inR hV.1 a2).mpr z)); obtain ⟨-, -, -, -, -, mm⟩ := fb_m_fd1 hV.2.1 h_plm36 c_40; exact fb_m_err hV (fb_resA_p ei NB mm) (by decide)))⟩, fa_fr.rf⟩⟩)
    · refine lv_bipush (v := (-2 : Int32)) hx hb dX7_reserve_30 (by decide) ?_
      exact RET _ _ _ _ _ _ _ HX2627 dX7_reserve_32 (⟨rfl, ⟨⟨hJ, (show v 397 9 = v 397 9 from rfl), (show v 397 8 = v 397 8 from rfl), (fun A H hV => by (obtain ⟨p, hp, ep, ei, -⟩ := fb_m_pl1 hV.2.1 hV.1 h_plm2 c_6; exact fb_m_err hV (fb_resA_b ei ((fb_m_inR hV.1 a2).mp (by rw [← hV.2.1.g (k := 7) (by decide)]; exact fa_in0 h_in_24 (by first | exact c_27 | exact Decidable.not_not.mp c_27)))) (by decide)))⟩, fa_fr.rf⟩⟩)
  · refine lv_iconst (v := (-1 : Int32)) hx hb dX7_reserve_9 (by decide) ?_
    exact RET _ _ _ _ _ _ _ HX2624 dX7_reserve_10 (⟨rfl, ⟨⟨hJ, (show v 397 9 = v 397 9 from rfl), (show v 397 8 = v 397 8 from rfl), (fun A H hV => fb_m_err hV (fb_resA_n (fb_m_pl0 hV.2.1 hV.1 h_plm2 (by first | exact c_6 | exact Decidable.not_not.mp c_6))) (by decide))⟩, fa_fr.rf⟩⟩)
set_option maxHeartbeats 4000000 in
set_option maxRecDepth 100000 in
theorem r_cancel (l : Launch) (G : fa_G) (n : Nat) (hn : 406 ≤ n) (v : fa_V) (r : fa_R) (hM : fa_RM r) (hJ : fa_MJ v) (a1 : Int32) (a2 : Int32) : fa_MI l G n yX7_cancel cX7_cancel 4 (some .int) 8 [.ref (fa_B G + (397)), .int (a1), .int (a2)] v r (fa_voi r (fun x v1 => ((fa_MJ v1) ∧ (v1 397 9 = v 397 9) ∧ (v1 397 8 = v 397 8) ∧ (∀ A H, fb_MV v A H → x = (fb_canA A a1 a2).1 ∧ fb_MV v1 (fb_canA A a1 a2).2 (fb_rec H A (fb_canA A a1 a2).1))) ∧ (fa_fr (397) (403) v v1))) := by
  refine fa_startI (by decide +kernel) (Nat.le_of_ble_eq_true rfl) (fun p e s m args below meth c ls Q CX hl HX RET => ?_)
  have hl : lv_has ls 4 [(0, .ref (fa_B G + (397))), (1, .int (a1)), (2, .int (a2))] := hl
  have hx := CX.1.1
  have hb := CX.1.2.1
  have hS := hJ.1
  obtain ⟨n4, en4⟩ : ∃ m, m = fa_N (v 398 14) := ⟨_, rfl⟩
  obtain ⟨hn4, g4⟩ := hS.n4 en4
  obtain ⟨n5, en5⟩ : ∃ m, m = fa_N (v 398 15) := ⟨_, rfl⟩
  obtain ⟨hn5, g5⟩ := hS.n5 en5
  obtain ⟨n6, en6⟩ : ∃ m, m = fa_N (v 398 16) := ⟨_, rfl⟩
  obtain ⟨hn6, g6⟩ := hS.n6 en6
  obtain ⟨n10, hn10, g10⟩ := hJ.2.2.2.2.1
  obtain ⟨n9, hn9, g9⟩ := hJ.2.2.2.2.2
  refine lv_aload_n hx hb dX7_cancel_0 rfl (lv_at hl 0 rfl) ?_
  refine lv_iload_n hx hb dX7_cancel_1 rfl (lv_at hl 1 rfl) ?_
  refine lv_iload_n hx hb dX7_cancel_2 rfl (lv_at hl 2 rfl) ?_
  refine fa_callVip (As := [.int (a1), .int (a2)]) (rest := []) CX HX (r_find l G n hn v r hM hJ.1 (a1) (a2)) ln_X7_125 (by omega) rfl rfl rfl rfl (Nat.le_of_ble_eq_true rfl) hl.1 ⟨Nat.le_of_ble_eq_true rfl, Nat.le_of_ble_eq_true rfl⟩ ⟨Nat.le_refl _, Nat.le_refl _⟩ dX7_cancel_3 (fun x2648 H locs h2647 HX2649 => ?_)
  have h_pl3 := h2647.1
  have h_plm3 := h2647.2
  refine lv_istore_n (lv' := [(3, .int (x2648)), (0, .ref (fa_B G + (397))), (1, .int (a1)), (2, .int (a2))]) hx hb dX7_cancel_6 rfl hl (by decide) rfl (fun ls hl => ?_)
  refine lv_iload_n hx hb dX7_cancel_7 rfl (lv_at hl 0 rfl) ?_
  refine lv_iconst (v := (-1 : Int32)) hx hb dX7_cancel_8 (by decide) ?_
  refine lv_icmp_ne (tgt := 14) hx hb dX7_cancel_9 (by decide) (fun c_9 => ?_) (fun c_9 => ?_)
  · obtain ⟨tp, htp, etp⟩ := h_pl3.ne c_9
    refine lv_aload_n hx hb dX7_cancel_14 rfl (lv_at hl 1 rfl) ?_
    refine fa_callVvu (As := []) (rest := []) CX HX2649 (r_hold l G n hn v r hM) ln_X7_102 (by omega) rfl rfl rfl rfl (Nat.le_of_ble_eq_true rfl) hl.1 ⟨Nat.le_of_ble_eq_true rfl, Nat.le_of_ble_eq_true rfl⟩ ⟨Nat.le_refl _, Nat.le_refl _⟩ dX7_cancel_15 (fun v2651 H locs h2650 HX2652 => ?_)
    have h_hold := h2650.1
    refine lv_aload_n hx hb dX7_cancel_18 rfl (lv_at hl 1 rfl) ?_
    refine lv_iload_n hx hb dX7_cancel_19 rfl (lv_at hl 0 rfl) ?_
    rw [show x2648 = nI (tp) from etp]
    refine fa_callVvu (As := [.int (nI (tp))]) (rest := []) CX HX2652 (r_removeReservation l G n hn v2651 r hM (show fa_MS (v2651 398) from by rw [h2650.2 398 (by omega)]; exact hJ.1) (tp) (by omega) (show tp < fa_N (v2651 398 15) from by rw [show v2651 398 = v 398 from h2650.2 398 (by omega)]; exact htp)) ln_X7_76 (by omega) rfl rfl rfl rfl (Nat.le_of_ble_eq_true rfl) hl.1 ⟨Nat.le_of_ble_eq_true rfl, Nat.le_of_ble_eq_true rfl⟩ ⟨Nat.le_refl _, Nat.le_refl _⟩ dX7_cancel_20 (fun v2654 H locs h2653 HX2655 => ?_)
    have hS_v2654 := h2653.1.1
    have h_removeReservation := h2653.1.2.2.2
    refine lv_aload_n hx hb dX7_cancel_23 rfl (lv_at hl 1 rfl) ?_
    refine lv_aload_n hx hb dX7_cancel_24 rfl (lv_at hl 1 rfl) ?_
    refine fa_getr (k := 397) (j := 398) CX HX2655 fl_X7_7 (by omega) rfl rfl hM.1 dX7_cancel_25 ?_
    refine lv_bipush (v := nI (15)) hx hb dX7_cancel_28 (by decide) ?_
    refine fa_iald (k := 398) (j := 15) CX HX2655 (by omega) rfl (by omega) (by first | decide | assumption) dX7_cancel_30 ?_
    rw [show v2654 398 15 = nI (n5 - 1) from (by rw [h_removeReservation.1, (show v2651 398 15 = nI (n5) from (by rw [h2650.2 _ (by omega)]; exact g5)), fa_N_nI (by omega)])]
    refine fa_callViu (As := [.int (nI (n5 - 1))]) (rest := []) CX HX2655 (r_recorded l G n hn v2654 r hM (show fa_MJ v2654 from ⟨hS_v2654, (show fa_MS (v2654 399) from by rw [h2653.2 399 (by omega)]; exact (fa_MS.cp hJ.1 h2650.1)), (show fa_MS (v2654 400) from by rw [h2653.2 400 (by omega)]; exact (show fa_MS (v2651 400) from by rw [h2650.2 400 (by omega)]; exact hJ.2.2.1)), (show fa_MB (v2654 401) from by rw [h2653.2 401 (by omega)]; exact (show fa_MB (v2651 401) from by rw [h2650.2 401 (by omega)]; exact hJ.2.2.2.1)), ⟨n10, by omega, (by rw [h2653.2 _ (by omega)]; exact (by rw [h2650.2 _ (by omega)]; exact g10))⟩, ⟨n9, by omega, (by rw [h2653.2 _ (by omega)]; exact (by rw [h2650.2 _ (by omega)]; exact g9))⟩⟩) (nI (n5 - 1))) ln_X7_109 (by omega) rfl rfl rfl rfl (Nat.le_of_ble_eq_true rfl) hl.1 ⟨Nat.le_of_ble_eq_true rfl, Nat.le_of_ble_eq_true rfl⟩ ⟨Nat.le_refl _, Nat.le_refl _⟩ dX7_cancel_31 (fun x2657 v2658 H locs h2656 HX2659 => ?_)
    have hJ_v2658 := h2656.1.1
    obtain ⟨n10_v2658, hn10_v2658, g10_v2658⟩ := hJ_v2658.2.2.2.2.1
    have h_recorded := h2656.1.2.2.2
    exact RET _ _ _ _ _ _ _ HX2659 dX7_cancel_34 (⟨rfl, ⟨⟨hJ_v2658, (show v2658 397 9 = v 397 9 from ((show v2658 397 9 = nI (n9) from ((h2656.1.2.1).trans (by rw [h2653.2 _ (by omega)]; exact (by rw [h2650.2 _ (by omega)]; exact g9)))).trans g9.symm)), (show v2658 397 8 = v 397 8 from (h2656.1.2.2.1.trans ((congrFun (h2653.2 397 (by omega)) 8).trans (congrFun (h2650.2 397 (by omega)) 8)))), (fun A H hV => by (obtain ⟨k, hk, ek, e1, e2, mm⟩ := fb_m_fd1 hV.2.1 h_plm3 c_9; have et : tp = k := fa_nIinj (by omega) (by omega) (etp.symm.trans ek); subst et; exact fb_m_face (op := fb_canA A a1 a2) hV h2650.2 h_hold (show v2654 397 = v2651 397 from by rw [h2653.2 397 (by omega)]) (show v2654 399 = v2651 399 from by rw [h2653.2 399 (by omega)]) (show v2654 401 = v2651 401 from by rw [h2653.2 401 (by omega)]) (fun m => by (rw [fb_canA_s mm]; exact fb_m_can m (by rw [h2650.2 398 (by omega)]; exact g5) hn5 (by omega) (by rw [h2650.2 398 (by omega)]; exact e1) (by rw [h2650.2 398 (by omega)]; exact e2) h_removeReservation.2)) (hV.1.canA a1 a2) h_recorded))⟩, (fa_fr.tr (fa_fr.tr (fa_fr.tr fa_fr.rf (fa_fr.wide h2650.2 (by omega) (by omega))) (fa_fr.wide h2653.2 (by omega) (by omega))) (fa_fr.wide h2656.2 (by omega) (by omega)))⟩⟩)
  · refine lv_iconst (v := (-1 : Int32)) hx hb dX7_cancel_12 (by decide) ?_
    exact RET _ _ _ _ _ _ _ HX2649 dX7_cancel_13 (⟨rfl, ⟨⟨hJ, (show v 397 9 = v 397 9 from rfl), (show v 397 8 = v 397 8 from rfl), (fun A H hV => fb_m_err hV (fb_canA_n (fb_m_fd0 hV.2.1 h_plm3 (by first | exact c_9 | exact Decidable.not_not.mp c_9))) (by decide))⟩, fa_fr.rf⟩⟩)
set_option maxHeartbeats 4000000 in
set_option maxRecDepth 100000 in
theorem r_set (l : Launch) (G : fa_G) (n : Nat) (hn : 406 ≤ n) (v : fa_V) (r : fa_R) (hM : fa_RM r) (hJ : fa_MJ v) (a1 : Int32) (a2 : Int32) : fa_MI l G n yX7_set cX7_set 4 (some .int) 8 [.ref (fa_B G + (397)), .int (a1), .int (a2)] v r (fa_voi r (fun x v1 => ((fa_MJ v1) ∧ (v1 397 9 = v 397 9) ∧ (v1 397 8 = v 397 8) ∧ (∀ A H, fb_MV v A H → x = (fb_setA A a1 a2).1 ∧ fb_MV v1 (fb_setA A a1 a2).2 (fb_rec H A (fb_setA A a1 a2).1))) ∧ (fa_fr (397) (403) v v1))) := by
  refine fa_startI (by decide +kernel) (Nat.le_of_ble_eq_true rfl) (fun p e s m args below meth c ls Q CX hl HX RET => ?_)
  have hl : lv_has ls 4 [(0, .ref (fa_B G + (397))), (1, .int (a1)), (2, .int (a2))] := hl
  have hx := CX.1.1
  have hb := CX.1.2.1
  have hS := hJ.1
  obtain ⟨n4, en4⟩ : ∃ m, m = fa_N (v 398 14) := ⟨_, rfl⟩
  obtain ⟨hn4, g4⟩ := hS.n4 en4
  obtain ⟨n5, en5⟩ : ∃ m, m = fa_N (v 398 15) := ⟨_, rfl⟩
  obtain ⟨hn5, g5⟩ := hS.n5 en5
  obtain ⟨n6, en6⟩ : ∃ m, m = fa_N (v 398 16) := ⟨_, rfl⟩
  obtain ⟨hn6, g6⟩ := hS.n6 en6
  obtain ⟨n10, hn10, g10⟩ := hJ.2.2.2.2.1
  obtain ⟨n9, hn9, g9⟩ := hJ.2.2.2.2.2
  refine lv_iload_n hx hb dX7_set_0 rfl (lv_at hl 1 rfl) ?_
  refine lv_iconst (v := nI (0)) hx hb dX7_set_1 (by decide) ?_
  refine lv_bipush (v := nI (6)) hx hb dX7_set_2 (by decide) ?_
  refine fa_callSip (As := [.int (a1), .int (nI (0)), .int (nI (6))]) (rest := []) CX HX (r_in l G n v r (a1) (nI (0)) (nI (6))) ln_X7_86 rfl rfl (Nat.le_of_ble_eq_true rfl) hl.1 ⟨Nat.le_of_ble_eq_true rfl, Nat.le_of_ble_eq_true rfl⟩ ⟨Nat.le_refl _, Nat.le_refl _⟩ dX7_set_4 (fun x2661 H locs h2660 HX2662 => ?_)
  have h_in_4 := h2660
  refine lv_if_ne (tgt := 12) hx hb dX7_set_7 (by decide) (fun c_7 => ?_) (fun c_7 => ?_)
  · obtain ⟨ja, hja, eja⟩ := fa_inN (by decide) (fa_in1 h_in_4 c_7)
    refine lv_iload_n hx hb dX7_set_12 rfl (lv_at hl 2 rfl) ?_
    refine lv_iload_n hx hb dX7_set_13 rfl (lv_at hl 1 rfl) ?_
    rw [show a1 = nI (ja) from eja]
    refine lv_iconst (v := nI (5)) hx hb dX7_set_14 (by decide) ?_
    refine lv_icmp_ge (tgt := 23) hx hb dX7_set_15 (by decide) (fun c_15 => ?_) (fun c_15 => ?_)
    · have k15 := fa_leN (by omega) (by omega) c_15
      refine lv_iload_n hx hb dX7_set_23 rfl (lv_at hl 1 rfl) ?_
      rw [show a1 = nI (ja) from eja]
      refine lv_iconst (v := nI (5)) hx hb dX7_set_24 (by decide) ?_
      refine lv_icmp_ne (tgt := 32) hx hb dX7_set_25 (by decide) (fun c_25 => ?_) (fun c_25 => ?_)
      · have k25 : ¬ ja = 5 := fun z => c_25 (by rw [z])
        refine lv_bipush (v := nI (50)) hx hb dX7_set_32 (by decide) ?_
        refine lv_iload_n hx hb dX7_set_34 rfl (lv_at hl 1 rfl) ?_
        rw [show a1 = nI (ja) from eja]
        refine lv_iconst (v := nI (5)) hx hb dX7_set_35 (by decide) ?_
        refine lv_icmp_ge (tgt := 45) hx hb dX7_set_36 (by decide) (fun c_36 => ?_) (fun c_36 => ?_)
        · refine lv_iload_n hx hb dX7_set_45 rfl (lv_at hl 1 rfl) ?_
          rw [show a1 = nI (ja) from eja]
          refine lv_iconst (v := nI (5)) hx hb dX7_set_46 (by decide) ?_
          refine lv_icmp_ne (tgt := 55) hx hb dX7_set_47 (by decide) (fun c_47 => ?_) (fun c_47 => ?_)
          · refine lv_sipush (v := nI (600)) hx hb dX7_set_55 (by decide) ?_
            refine fa_callSip (As := [.int (a2), .int (nI (50)), .int (nI (600))]) (rest := []) CX HX2662 (r_in l G n v r (a2) (nI (50)) (nI (600))) ln_X7_86 rfl rfl (Nat.le_of_ble_eq_true rfl) hl.1 ⟨Nat.le_of_ble_eq_true rfl, Nat.le_of_ble_eq_true rfl⟩ ⟨Nat.le_refl _, Nat.le_refl _⟩ dX7_set_58 (fun x2664 H locs h2663 HX2665 => ?_)
            have h_in_58 := h2663
            refine lv_if_ne (tgt := 67) hx hb dX7_set_61 (by decide) (fun c_61 => ?_) (fun c_61 => ?_)
            · refine lv_aload_n hx hb dX7_set_67 rfl (lv_at hl 0 rfl) ?_
              refine fa_callVvu (As := []) (rest := []) CX HX2665 (r_hold l G n hn v r hM) ln_X7_102 (by omega) rfl rfl rfl rfl (Nat.le_of_ble_eq_true rfl) hl.1 ⟨Nat.le_of_ble_eq_true rfl, Nat.le_of_ble_eq_true rfl⟩ ⟨Nat.le_refl _, Nat.le_refl _⟩ dX7_set_68 (fun v2667 H locs h2666 HX2668 => ?_)
              have h_hold := h2666.1
              refine lv_aload_n hx hb dX7_set_71 rfl (lv_at hl 0 rfl) ?_
              refine fa_getr (k := 397) (j := 398) CX HX2668 fl_X7_7 (by omega) rfl rfl hM.1 dX7_set_72 ?_
              refine lv_iload_n hx hb dX7_set_75 rfl (lv_at hl 1 rfl) ?_
              rw [show a1 = nI (ja) from eja]
              refine fa_iald (k := 398) (j := ja) CX HX2668 (by omega) rfl (by omega) (by first | decide | assumption) dX7_set_76 ?_
              refine lv_istore_n (lv' := [(3, .int (v2667 398 ja)), (0, .ref (fa_B G + (397))), (1, .int (a1)), (2, .int (a2))]) hx hb dX7_set_77 rfl hl (by decide) rfl (fun ls hl => ?_)
              refine lv_aload_n hx hb dX7_set_78 rfl (lv_at hl 1 rfl) ?_
              refine fa_getr (k := 397) (j := 398) CX HX2668 fl_X7_7 (by omega) rfl rfl hM.1 dX7_set_79 ?_
              refine lv_iload_n hx hb dX7_set_82 rfl (lv_at hl 2 rfl) ?_
              rw [show a1 = nI (ja) from eja]
              refine lv_iload_n hx hb dX7_set_83 rfl (lv_at hl 3 rfl) ?_
              refine fa_iast (k := 398) (j := ja) CX HX2668 (by omega) rfl (by omega) (by first | decide | assumption) dX7_set_84 (fun H locs v2669 e2670 HX2671 => ?_)
              refine lv_aload_n hx hb dX7_set_85 rfl (lv_at hl 1 rfl) ?_
              refine lv_iload_n hx hb dX7_set_86 rfl (lv_at hl 0 rfl) ?_
              refine fa_callViu (As := [.int (v2667 398 ja)]) (rest := []) CX HX2671 (r_recorded l G n hn v2669 r hM (show fa_MJ v2669 from ⟨(show fa_MS (v2669 398) from by rw [e2670]; exact fa_MS.u (show fa_MS (v2667 398) from by rw [h2666.2 398 (by omega)]; exact hJ.1) (fa_ok.o (by omega) (by omega) (by omega) (fun p hp => by omega))), (show fa_MS (v2669 399) from by rw [e2670, fa_u_k _ _ (by decide)]; exact (fa_MS.cp hJ.1 h2666.1)), (show fa_MS (v2669 400) from by rw [e2670, fa_u_k _ _ (by decide)]; exact (show fa_MS (v2667 400) from by rw [h2666.2 400 (by omega)]; exact hJ.2.2.1)), (show fa_MB (v2669 401) from by rw [e2670, fa_u_k _ _ (by decide)]; exact (show fa_MB (v2667 401) from by rw [h2666.2 401 (by omega)]; exact hJ.2.2.2.1)), ⟨n10, by omega, (by rw [e2670, fa_u_n _ _ (by omega)]; exact (by rw [h2666.2 _ (by omega)]; exact g10))⟩, ⟨n9, by omega, (by rw [e2670, fa_u_n _ _ (by omega)]; exact (by rw [h2666.2 _ (by omega)]; exact g9))⟩⟩) (v2667 398 ja)) ln_X7_109 (by omega) rfl rfl rfl rfl (Nat.le_of_ble_eq_true rfl) hl.1 ⟨Nat.le_of_ble_eq_true rfl, Nat.le_of_ble_eq_true rfl⟩ ⟨Nat.le_refl _, Nat.le_refl _⟩ dX7_set_87 (fun x2673 v2674 H locs h2672 HX2675 => ?_)
              have hJ_v2674 := h2672.1.1
              obtain ⟨n10_v2674, hn10_v2674, g10_v2674⟩ := hJ_v2674.2.2.2.2.1
              have h_recorded := h2672.1.2.2.2
              exact RET _ _ _ _ _ _ _ HX2675 dX7_set_90 (⟨rfl, ⟨⟨hJ_v2674, (show v2674 397 9 = v 397 9 from ((show v2674 397 9 = nI (n9) from ((h2672.1.2.1).trans (by rw [e2670, fa_u_n _ _ (by omega)]; exact (by rw [h2666.2 _ (by omega)]; exact g9)))).trans g9.symm)), (show v2674 397 8 = v 397 8 from (h2672.1.2.2.1.trans ((show v2669 397 8 = v2667 397 8 from by rw [e2670, fa_u_n _ _ (by omega)]).trans (congrFun (h2666.2 397 (by omega)) 8)))), (fun A H hV => by (have NC : ¬ (a1 < 0 ∨ ¬ a1 < nI 7) := (fun z => fa_in1 h_in_4 c_7 ((fb_m_in6 a1).mpr z)); have st := fb_st7 k15 hja k25; exact fb_m_face (op := fb_setA A a1 a2) hV h2666.2 h_hold (show v2669 397 = v2667 397 from by rw [e2670, fa_u_k _ _ (by decide)]) (show v2669 399 = v2667 399 from by rw [e2670, fa_u_k _ _ (by decide)]) (show v2669 401 = v2667 401 from by rw [e2670, fa_u_k _ _ (by decide)]) (fun m => by (rw [fb_setA_3 NC eja (by omega) (by rw [st.1, st.2]; exact fun z => fa_in1 h_in_58 c_61 (z.elim Or.inl (fun y => Or.inr (Int32.not_le.mp y))))]; exact ⟨m.g (by omega), (by rw [e2670]; exact m.ug (by omega))⟩)) (hV.1.setA a1 a2) h_recorded))⟩, (fa_fr.tr (by rw [e2670]; exact fa_fr.u (fa_fr.tr fa_fr.rf (fa_fr.wide h2666.2 (by omega) (by omega))) (by omega)) (fa_fr.wide h2672.2 (by omega) (by omega)))⟩⟩)
            · refine lv_bipush (v := (-2 : Int32)) hx hb dX7_set_64 (by decide) ?_
              exact RET _ _ _ _ _ _ _ HX2665 dX7_set_66 (⟨rfl, ⟨⟨hJ, (show v 397 9 = v 397 9 from rfl), (show v 397 8 = v 397 8 from rfl), (fun A H hV => by (have NC : ¬ (a1 < 0 ∨ ¬ a1 < nI 7) := (fun z => fa_in1 h_in_4 c_7 ((fb_m_in6 a1).mpr z)); have st := fb_st7 k15 hja k25; exact fb_m_err hV (fb_setA_2 NC eja (by omega) (by rw [st.1, st.2]; exact (fa_in0 h_in_58 (by first | exact c_61 | exact Decidable.not_not.mp c_61)).elim Or.inl (fun z => Or.inr (Int32.not_le.mpr z)))) (by decide)))⟩, fa_fr.rf⟩⟩)
          · exact absurd (fa_nIinj (by omega) (by omega) c_47) k25
        · exact absurd (fa_ltN (by omega) (by omega) c_36) (by omega)
      · have k25 : ja = 5 := fa_nIinj (by omega) (by omega) c_25
        refine lv_iconst (v := nI (1)) hx hb dX7_set_28 (by decide) ?_
        refine lv_goto (tgt := 34) hx hb dX7_set_29 (by decide) ?_
        refine lv_iload_n hx hb dX7_set_34 rfl (lv_at hl 1 rfl) ?_
        rw [show a1 = nI (ja) from eja]
        refine lv_iconst (v := nI (5)) hx hb dX7_set_35 (by decide) ?_
        refine lv_icmp_ge (tgt := 45) hx hb dX7_set_36 (by decide) (fun c_36 => ?_) (fun c_36 => ?_)
        · refine lv_iload_n hx hb dX7_set_45 rfl (lv_at hl 1 rfl) ?_
          rw [show a1 = nI (ja) from eja]
          refine lv_iconst (v := nI (5)) hx hb dX7_set_46 (by decide) ?_
          refine lv_icmp_ne (tgt := 55) hx hb dX7_set_47 (by decide) (fun c_47 => ?_) (fun c_47 => ?_)
          · exact absurd (by rw [k25]) c_47
          · refine lv_bipush (v := nI (20)) hx hb dX7_set_50 (by decide) ?_
            refine lv_goto (tgt := 58) hx hb dX7_set_52 (by decide) ?_
            refine fa_callSip (As := [.int (a2), .int (nI (1)), .int (nI (20))]) (rest := []) CX HX2662 (r_in l G n v r (a2) (nI (1)) (nI (20))) ln_X7_86 rfl rfl (Nat.le_of_ble_eq_true rfl) hl.1 ⟨Nat.le_of_ble_eq_true rfl, Nat.le_of_ble_eq_true rfl⟩ ⟨Nat.le_refl _, Nat.le_refl _⟩ dX7_set_58 (fun x2677 H locs h2676 HX2678 => ?_)
            have h_in_58 := h2676
            refine lv_if_ne (tgt := 67) hx hb dX7_set_61 (by decide) (fun c_61 => ?_) (fun c_61 => ?_)
            · refine lv_aload_n hx hb dX7_set_67 rfl (lv_at hl 0 rfl) ?_
              refine fa_callVvu (As := []) (rest := []) CX HX2678 (r_hold l G n hn v r hM) ln_X7_102 (by omega) rfl rfl rfl rfl (Nat.le_of_ble_eq_true rfl) hl.1 ⟨Nat.le_of_ble_eq_true rfl, Nat.le_of_ble_eq_true rfl⟩ ⟨Nat.le_refl _, Nat.le_refl _⟩ dX7_set_68 (fun v2680 H locs h2679 HX2681 => ?_)
              have h_hold := h2679.1
              refine lv_aload_n hx hb dX7_set_71 rfl (lv_at hl 0 rfl) ?_
              refine fa_getr (k := 397) (j := 398) CX HX2681 fl_X7_7 (by omega) rfl rfl hM.1 dX7_set_72 ?_
              refine lv_iload_n hx hb dX7_set_75 rfl (lv_at hl 1 rfl) ?_
              rw [show a1 = nI (ja) from eja]
              refine fa_iald (k := 398) (j := ja) CX HX2681 (by omega) rfl (by omega) (by first | decide | assumption) dX7_set_76 ?_
              refine lv_istore_n (lv' := [(3, .int (v2680 398 ja)), (0, .ref (fa_B G + (397))), (1, .int (a1)), (2, .int (a2))]) hx hb dX7_set_77 rfl hl (by decide) rfl (fun ls hl => ?_)
              refine lv_aload_n hx hb dX7_set_78 rfl (lv_at hl 1 rfl) ?_
              refine fa_getr (k := 397) (j := 398) CX HX2681 fl_X7_7 (by omega) rfl rfl hM.1 dX7_set_79 ?_
              refine lv_iload_n hx hb dX7_set_82 rfl (lv_at hl 2 rfl) ?_
              rw [show a1 = nI (ja) from eja]
              refine lv_iload_n hx hb dX7_set_83 rfl (lv_at hl 3 rfl) ?_
              refine fa_iast (k := 398) (j := ja) CX HX2681 (by omega) rfl (by omega) (by first | decide | assumption) dX7_set_84 (fun H locs v2682 e2683 HX2684 => ?_)
              refine lv_aload_n hx hb dX7_set_85 rfl (lv_at hl 1 rfl) ?_
              refine lv_iload_n hx hb dX7_set_86 rfl (lv_at hl 0 rfl) ?_
              refine fa_callViu (As := [.int (v2680 398 ja)]) (rest := []) CX HX2684 (r_recorded l G n hn v2682 r hM (show fa_MJ v2682 from ⟨(show fa_MS (v2682 398) from by rw [e2683]; exact fa_MS.u (show fa_MS (v2680 398) from by rw [h2679.2 398 (by omega)]; exact hJ.1) (fa_ok.o (by omega) (by omega) (by omega) (fun p hp => by omega))), (show fa_MS (v2682 399) from by rw [e2683, fa_u_k _ _ (by decide)]; exact (fa_MS.cp hJ.1 h2679.1)), (show fa_MS (v2682 400) from by rw [e2683, fa_u_k _ _ (by decide)]; exact (show fa_MS (v2680 400) from by rw [h2679.2 400 (by omega)]; exact hJ.2.2.1)), (show fa_MB (v2682 401) from by rw [e2683, fa_u_k _ _ (by decide)]; exact (show fa_MB (v2680 401) from by rw [h2679.2 401 (by omega)]; exact hJ.2.2.2.1)), ⟨n10, by omega, (by rw [e2683, fa_u_n _ _ (by omega)]; exact (by rw [h2679.2 _ (by omega)]; exact g10))⟩, ⟨n9, by omega, (by rw [e2683, fa_u_n _ _ (by omega)]; exact (by rw [h2679.2 _ (by omega)]; exact g9))⟩⟩) (v2680 398 ja)) ln_X7_109 (by omega) rfl rfl rfl rfl (Nat.le_of_ble_eq_true rfl) hl.1 ⟨Nat.le_of_ble_eq_true rfl, Nat.le_of_ble_eq_true rfl⟩ ⟨Nat.le_refl _, Nat.le_refl _⟩ dX7_set_87 (fun x2686 v2687 H locs h2685 HX2688 => ?_)
              have hJ_v2687 := h2685.1.1
              obtain ⟨n10_v2687, hn10_v2687, g10_v2687⟩ := hJ_v2687.2.2.2.2.1
              have h_recorded := h2685.1.2.2.2
              exact RET _ _ _ _ _ _ _ HX2688 dX7_set_90 (⟨rfl, ⟨⟨hJ_v2687, (show v2687 397 9 = v 397 9 from ((show v2687 397 9 = nI (n9) from ((h2685.1.2.1).trans (by rw [e2683, fa_u_n _ _ (by omega)]; exact (by rw [h2679.2 _ (by omega)]; exact g9)))).trans g9.symm)), (show v2687 397 8 = v 397 8 from (h2685.1.2.2.1.trans ((show v2682 397 8 = v2680 397 8 from by rw [e2683, fa_u_n _ _ (by omega)]).trans (congrFun (h2679.2 397 (by omega)) 8)))), (fun A H hV => by (have NC : ¬ (a1 < 0 ∨ ¬ a1 < nI 7) := (fun z => fa_in1 h_in_4 c_7 ((fb_m_in6 a1).mpr z)); have st := fb_st6 k25; exact fb_m_face (op := fb_setA A a1 a2) hV h2679.2 h_hold (show v2682 397 = v2680 397 from by rw [e2683, fa_u_k _ _ (by decide)]) (show v2682 399 = v2680 399 from by rw [e2683, fa_u_k _ _ (by decide)]) (show v2682 401 = v2680 401 from by rw [e2683, fa_u_k _ _ (by decide)]) (fun m => by (rw [fb_setA_3 NC eja (by omega) (by rw [st.1, st.2]; exact fun z => fa_in1 h_in_58 c_61 (z.elim Or.inl (fun y => Or.inr (Int32.not_le.mp y))))]; exact ⟨m.g (by omega), (by rw [e2683]; exact m.ug (by omega))⟩)) (hV.1.setA a1 a2) h_recorded))⟩, (fa_fr.tr (by rw [e2683]; exact fa_fr.u (fa_fr.tr fa_fr.rf (fa_fr.wide h2679.2 (by omega) (by omega))) (by omega)) (fa_fr.wide h2685.2 (by omega) (by omega)))⟩⟩)
            · refine lv_bipush (v := (-2 : Int32)) hx hb dX7_set_64 (by decide) ?_
              exact RET _ _ _ _ _ _ _ HX2678 dX7_set_66 (⟨rfl, ⟨⟨hJ, (show v 397 9 = v 397 9 from rfl), (show v 397 8 = v 397 8 from rfl), (fun A H hV => by (have NC : ¬ (a1 < 0 ∨ ¬ a1 < nI 7) := (fun z => fa_in1 h_in_4 c_7 ((fb_m_in6 a1).mpr z)); have st := fb_st6 k25; exact fb_m_err hV (fb_setA_2 NC eja (by omega) (by rw [st.1, st.2]; exact (fa_in0 h_in_58 (by first | exact c_61 | exact Decidable.not_not.mp c_61)).elim Or.inl (fun z => Or.inr (Int32.not_le.mpr z)))) (by decide)))⟩, fa_fr.rf⟩⟩)
        · exact absurd (fa_ltN (by omega) (by omega) c_36) (by omega)
    · have k15 := fa_ltN (by omega) (by omega) c_15
      refine lv_bipush (v := nI (30)) hx hb dX7_set_18 (by decide) ?_
      refine lv_goto (tgt := 34) hx hb dX7_set_20 (by decide) ?_
      refine lv_iload_n hx hb dX7_set_34 rfl (lv_at hl 1 rfl) ?_
      rw [show a1 = nI (ja) from eja]
      refine lv_iconst (v := nI (5)) hx hb dX7_set_35 (by decide) ?_
      refine lv_icmp_ge (tgt := 45) hx hb dX7_set_36 (by decide) (fun c_36 => ?_) (fun c_36 => ?_)
      · exact absurd (fa_leN (by omega) (by omega) c_36) (by omega)
      · refine lv_sipush (v := nI (2000)) hx hb dX7_set_39 (by decide) ?_
        refine lv_goto (tgt := 58) hx hb dX7_set_42 (by decide) ?_
        refine fa_callSip (As := [.int (a2), .int (nI (30)), .int (nI (2000))]) (rest := []) CX HX2662 (r_in l G n v r (a2) (nI (30)) (nI (2000))) ln_X7_86 rfl rfl (Nat.le_of_ble_eq_true rfl) hl.1 ⟨Nat.le_of_ble_eq_true rfl, Nat.le_of_ble_eq_true rfl⟩ ⟨Nat.le_refl _, Nat.le_refl _⟩ dX7_set_58 (fun x2690 H locs h2689 HX2691 => ?_)
        have h_in_58 := h2689
        refine lv_if_ne (tgt := 67) hx hb dX7_set_61 (by decide) (fun c_61 => ?_) (fun c_61 => ?_)
        · refine lv_aload_n hx hb dX7_set_67 rfl (lv_at hl 0 rfl) ?_
          refine fa_callVvu (As := []) (rest := []) CX HX2691 (r_hold l G n hn v r hM) ln_X7_102 (by omega) rfl rfl rfl rfl (Nat.le_of_ble_eq_true rfl) hl.1 ⟨Nat.le_of_ble_eq_true rfl, Nat.le_of_ble_eq_true rfl⟩ ⟨Nat.le_refl _, Nat.le_refl _⟩ dX7_set_68 (fun v2693 H locs h2692 HX2694 => ?_)
          have h_hold := h2692.1
          refine lv_aload_n hx hb dX7_set_71 rfl (lv_at hl 0 rfl) ?_
          refine fa_getr (k := 397) (j := 398) CX HX2694 fl_X7_7 (by omega) rfl rfl hM.1 dX7_set_72 ?_
          refine lv_iload_n hx hb dX7_set_75 rfl (lv_at hl 1 rfl) ?_
          rw [show a1 = nI (ja) from eja]
          refine fa_iald (k := 398) (j := ja) CX HX2694 (by omega) rfl (by omega) (by first | decide | assumption) dX7_set_76 ?_
          refine lv_istore_n (lv' := [(3, .int (v2693 398 ja)), (0, .ref (fa_B G + (397))), (1, .int (a1)), (2, .int (a2))]) hx hb dX7_set_77 rfl hl (by decide) rfl (fun ls hl => ?_)
          refine lv_aload_n hx hb dX7_set_78 rfl (lv_at hl 1 rfl) ?_
          refine fa_getr (k := 397) (j := 398) CX HX2694 fl_X7_7 (by omega) rfl rfl hM.1 dX7_set_79 ?_
          refine lv_iload_n hx hb dX7_set_82 rfl (lv_at hl 2 rfl) ?_
          rw [show a1 = nI (ja) from eja]
          refine lv_iload_n hx hb dX7_set_83 rfl (lv_at hl 3 rfl) ?_
          refine fa_iast (k := 398) (j := ja) CX HX2694 (by omega) rfl (by omega) (by first | decide | assumption) dX7_set_84 (fun H locs v2695 e2696 HX2697 => ?_)
          refine lv_aload_n hx hb dX7_set_85 rfl (lv_at hl 1 rfl) ?_
          refine lv_iload_n hx hb dX7_set_86 rfl (lv_at hl 0 rfl) ?_
          refine fa_callViu (As := [.int (v2693 398 ja)]) (rest := []) CX HX2697 (r_recorded l G n hn v2695 r hM (show fa_MJ v2695 from ⟨(show fa_MS (v2695 398) from by rw [e2696]; exact fa_MS.u (show fa_MS (v2693 398) from by rw [h2692.2 398 (by omega)]; exact hJ.1) (fa_ok.o (by omega) (by omega) (by omega) (fun p hp => by omega))), (show fa_MS (v2695 399) from by rw [e2696, fa_u_k _ _ (by decide)]; exact (fa_MS.cp hJ.1 h2692.1)), (show fa_MS (v2695 400) from by rw [e2696, fa_u_k _ _ (by decide)]; exact (show fa_MS (v2693 400) from by rw [h2692.2 400 (by omega)]; exact hJ.2.2.1)), (show fa_MB (v2695 401) from by rw [e2696, fa_u_k _ _ (by decide)]; exact (show fa_MB (v2693 401) from by rw [h2692.2 401 (by omega)]; exact hJ.2.2.2.1)), ⟨n10, by omega, (by rw [e2696, fa_u_n _ _ (by omega)]; exact (by rw [h2692.2 _ (by omega)]; exact g10))⟩, ⟨n9, by omega, (by rw [e2696, fa_u_n _ _ (by omega)]; exact (by rw [h2692.2 _ (by omega)]; exact g9))⟩⟩) (v2693 398 ja)) ln_X7_109 (by omega) rfl rfl rfl rfl (Nat.le_of_ble_eq_true rfl) hl.1 ⟨Nat.le_of_ble_eq_true rfl, Nat.le_of_ble_eq_true rfl⟩ ⟨Nat.le_refl _, Nat.le_refl _⟩ dX7_set_87 (fun x2699 v2700 H locs h2698 HX2701 => ?_)
          have hJ_v2700 := h2698.1.1
          obtain ⟨n10_v2700, hn10_v2700, g10_v2700⟩ := hJ_v2700.2.2.2.2.1
          have h_recorded := h2698.1.2.2.2
          exact RET _ _ _ _ _ _ _ HX2701 dX7_set_90 (⟨rfl, ⟨⟨hJ_v2700, (show v2700 397 9 = v 397 9 from ((show v2700 397 9 = nI (n9) from ((h2698.1.2.1).trans (by rw [e2696, fa_u_n _ _ (by omega)]; exact (by rw [h2692.2 _ (by omega)]; exact g9)))).trans g9.symm)), (show v2700 397 8 = v 397 8 from (h2698.1.2.2.1.trans ((show v2695 397 8 = v2693 397 8 from by rw [e2696, fa_u_n _ _ (by omega)]).trans (congrFun (h2692.2 397 (by omega)) 8)))), (fun A H hV => by (have NC : ¬ (a1 < 0 ∨ ¬ a1 < nI 7) := (fun z => fa_in1 h_in_4 c_7 ((fb_m_in6 a1).mpr z)); have st := fb_st5 k15; exact fb_m_face (op := fb_setA A a1 a2) hV h2692.2 h_hold (show v2695 397 = v2693 397 from by rw [e2696, fa_u_k _ _ (by decide)]) (show v2695 399 = v2693 399 from by rw [e2696, fa_u_k _ _ (by decide)]) (show v2695 401 = v2693 401 from by rw [e2696, fa_u_k _ _ (by decide)]) (fun m => by (rw [fb_setA_3 NC eja (by omega) (by rw [st.1, st.2]; exact fun z => fa_in1 h_in_58 c_61 (z.elim Or.inl (fun y => Or.inr (Int32.not_le.mp y))))]; exact ⟨m.g (by omega), (by rw [e2696]; exact m.ug (by omega))⟩)) (hV.1.setA a1 a2) h_recorded))⟩, (fa_fr.tr (by rw [e2696]; exact fa_fr.u (fa_fr.tr fa_fr.rf (fa_fr.wide h2692.2 (by omega) (by omega))) (by omega)) (fa_fr.wide h2698.2 (by omega) (by omega)))⟩⟩)
        · refine lv_bipush (v := (-2 : Int32)) hx hb dX7_set_64 (by decide) ?_
          exact RET _ _ _ _ _ _ _ HX2691 dX7_set_66 (⟨rfl, ⟨⟨hJ, (show v 397 9 = v 397 9 from rfl), (show v 397 8 = v 397 8 from rfl), (fun A H hV => by (have NC : ¬ (a1 < 0 ∨ ¬ a1 < nI 7) := (fun z => fa_in1 h_in_4 c_7 ((fb_m_in6 a1).mpr z)); have st := fb_st5 k15; exact fb_m_err hV (fb_setA_2 NC eja (by omega) (by rw [st.1, st.2]; exact (fa_in0 h_in_58 (by first | exact c_61 | exact Decidable.not_not.mp c_61)).elim Or.inl (fun z => Or.inr (Int32.not_le.mpr z)))) (by decide)))⟩, fa_fr.rf⟩⟩)
  · refine lv_iconst (v := (-1 : Int32)) hx hb dX7_set_10 (by decide) ?_
    exact RET _ _ _ _ _ _ _ HX2662 dX7_set_11 (⟨rfl, ⟨⟨hJ, (show v 397 9 = v 397 9 from rfl), (show v 397 8 = v 397 8 from rfl), (fun A H hV => fb_m_err hV (fb_setA_1 ((fb_m_in6 a1).mp (fa_in0 h_in_4 (by first | exact c_7 | exact Decidable.not_not.mp c_7)))) (by decide))⟩, fa_fr.rf⟩⟩)
set_option maxHeartbeats 4000000 in
set_option maxRecDepth 100000 in
theorem r_append (l : Launch) (G : fa_G) (n : Nat) (hn : 406 ≤ n) (v : fa_V) (r : fa_R) (hM : fa_RM r) (hJ : fa_MJ v) (a1 : Int32) : fa_MI l G n yX7_append cX7_append 2 (some .int) 2 [.ref (fa_B G + (397)), .int (a1)] v r (fa_voi r (fun x v1 => ((fa_MJ v1) ∧ (v1 397 8 = v 397 8) ∧ ((¬ (nI 32 ≤ a1 ∧ a1 ≤ nI 126) ∧ x = (-2 : Int32) ∧ v1 = v) ∨ ((nI 32 ≤ a1 ∧ a1 ≤ nI 126) ∧ ((x = (-4 : Int32) ∧ 60 ≤ fa_N (v 397 9) ∧ v1 = v) ∨ (x = nI (fa_N (v 397 9) + 1) ∧ fa_N (v 397 9) < 60 ∧ v1 = fa_put7 v (((a1).toUInt32 % 65536).toInt32)))))) ∧ (fa_fr (397) (406) v v1))) := by
  refine fa_startI (by decide +kernel) (Nat.le_of_ble_eq_true rfl) (fun p e s m args below meth c ls Q CX hl HX RET => ?_)
  have hl : lv_has ls 2 [(0, .ref (fa_B G + (397))), (1, .int (a1))] := hl
  have hx := CX.1.1
  have hb := CX.1.2.1
  have hS := hJ.1
  obtain ⟨n4, en4⟩ : ∃ m, m = fa_N (v 398 14) := ⟨_, rfl⟩
  obtain ⟨hn4, g4⟩ := hS.n4 en4
  obtain ⟨n5, en5⟩ : ∃ m, m = fa_N (v 398 15) := ⟨_, rfl⟩
  obtain ⟨hn5, g5⟩ := hS.n5 en5
  obtain ⟨n6, en6⟩ : ∃ m, m = fa_N (v 398 16) := ⟨_, rfl⟩
  obtain ⟨hn6, g6⟩ := hS.n6 en6
  obtain ⟨n10, hn10, g10⟩ := hJ.2.2.2.2.1
  obtain ⟨n9, hn9, g9⟩ := hJ.2.2.2.2.2
  have en9 : fa_N (v 397 9) = n9 := by rw [g9]; exact fa_N_nI (by omega)
  refine lv_iload_n hx hb dX7_append_0 rfl (lv_at hl 1 rfl) ?_
  refine lv_bipush (v := nI (32)) hx hb dX7_append_1 (by decide) ?_
  refine lv_bipush (v := nI (126)) hx hb dX7_append_3 (by decide) ?_
  refine fa_callSip (As := [.int (a1), .int (nI (32)), .int (nI (126))]) (rest := []) CX HX (r_in l G n v r (a1) (nI (32)) (nI (126))) ln_X7_86 rfl rfl (Nat.le_of_ble_eq_true rfl) hl.1 ⟨Nat.le_of_ble_eq_true rfl, Nat.le_of_ble_eq_true rfl⟩ ⟨Nat.le_refl _, Nat.le_refl _⟩ dX7_append_5 (fun x2703 H locs h2702 HX2704 => ?_)
  have h_in_5 := h2702
  refine lv_if_ne (tgt := 14) hx hb dX7_append_8 (by decide) (fun c_8 => ?_) (fun c_8 => ?_)
  · refine lv_aload_n hx hb dX7_append_14 rfl (lv_at hl 0 rfl) ?_
    refine fa_geti (k := 397) CX HX2704 fl_X7_131 (by omega) rfl rfl dX7_append_15 ?_
    rw [show v 397 9 = nI (n9) from g9]
    refine lv_bipush (v := nI (60)) hx hb dX7_append_18 (by decide) ?_
    refine lv_icmp_ne (tgt := 26) hx hb dX7_append_20 (by decide) (fun c_20 => ?_) (fun c_20 => ?_)
    · have hne : ¬ n9 = 60 := fun z => c_20 (by rw [z])
      refine lv_aload_n hx hb dX7_append_26 rfl (lv_at hl 0 rfl) ?_
      refine fa_getr (k := 397) (j := 405) CX HX2704 fl_X7_32 (by omega) rfl rfl hM.2.2.2.2.2.2.2 dX7_append_27 ?_
      refine lv_aload_n hx hb dX7_append_30 rfl (lv_at hl 0 rfl) ?_
      refine fa_geti (k := 397) CX HX2704 fl_X7_131 (by omega) rfl rfl dX7_append_31 ?_
      rw [show v 397 9 = nI (n9) from g9]
      refine lv_iload_n hx hb dX7_append_34 rfl (lv_at hl 1 rfl) ?_
      refine lv_i2c hx hb dX7_append_35 rfl ?_
      refine fa_cast (k := 405) (j := n9) CX HX2704 (by omega) rfl (by omega) (by first | decide | assumption) dX7_append_36 (fun H locs v2705 e2706 HX2707 => ?_)
      refine lv_aload_n hx hb dX7_append_37 rfl (lv_at hl 0 rfl) ?_
      refine lv_dup hx hb dX7_append_38 rfl ?_
      refine fa_geti (k := 397) CX HX2707 fl_X7_131 (by omega) rfl rfl dX7_append_39 ?_
      rw [show v2705 397 9 = nI (n9) from (by rw [e2706, fa_u_n _ _ (by omega)]; exact g9)]
      refine lv_iconst (v := nI (1)) hx hb dX7_append_42 (by decide) ?_
      refine fa_iaddN hx hb dX7_append_43 ?_
      refine fa_puti (k := 397) CX HX2707 fl_X7_131 (by omega) rfl rfl rfl rfl dX7_append_44 (fun H locs v2708 e2709 HX2710 => ?_)
      refine lv_aload_n hx hb dX7_append_47 rfl (lv_at hl 0 rfl) ?_
      refine fa_geti (k := 397) CX HX2710 fl_X7_131 (by omega) rfl rfl dX7_append_48 ?_
      rw [show v2708 397 9 = nI (n9 + 1) from (by rw [e2709, fa_u_s])]
      exact RET _ _ _ _ _ _ _ HX2710 dX7_append_51 (⟨rfl, ⟨⟨(show fa_MJ v2708 from ⟨(show fa_MS (v2708 398) from by rw [e2709, fa_u_k _ _ (by decide)]; exact (show fa_MS (v2705 398) from by rw [e2706, fa_u_k _ _ (by decide)]; exact hJ.1)), (show fa_MS (v2708 399) from by rw [e2709, fa_u_k _ _ (by decide)]; exact (show fa_MS (v2705 399) from by rw [e2706, fa_u_k _ _ (by decide)]; exact hJ.2.1)), (show fa_MS (v2708 400) from by rw [e2709, fa_u_k _ _ (by decide)]; exact (show fa_MS (v2705 400) from by rw [e2706, fa_u_k _ _ (by decide)]; exact hJ.2.2.1)), (show fa_MB (v2708 401) from by rw [e2709, fa_u_k _ _ (by decide)]; exact (show fa_MB (v2705 401) from by rw [e2706, fa_u_k _ _ (by decide)]; exact hJ.2.2.2.1)), ⟨n10, by omega, (by rw [e2709, fa_u_n _ _ (by omega)]; exact (by rw [e2706, fa_u_n _ _ (by omega)]; exact g10))⟩, ⟨n9 + 1, by omega, (by rw [e2709, fa_u_s])⟩⟩), (show v2708 397 8 = v 397 8 from ((show v2708 397 8 = v2705 397 8 from by rw [e2709, fa_u_n _ _ (by omega)]).trans (show v2705 397 8 = v 397 8 from by rw [e2706, fa_u_n _ _ (by omega)]))), (Or.inr ⟨fa_inr1 h_in_5 c_8, Or.inr ⟨(by rw [en9]), (by omega), (by show v2708 = _; rw [e2709, e2706]; exact (fa_put7_eq g9 (by omega)).symm)⟩⟩)⟩, (by rw [e2709]; exact fa_fr.u (by rw [e2706]; exact fa_fr.u fa_fr.rf (by omega)) (by omega))⟩⟩)
    · have he : n9 = 60 := fa_nIinj (by omega) (by omega) c_20
      refine lv_bipush (v := (-4 : Int32)) hx hb dX7_append_23 (by decide) ?_
      exact RET _ _ _ _ _ _ _ HX2704 dX7_append_25 (⟨rfl, ⟨⟨hJ, (show v 397 8 = v 397 8 from rfl), (Or.inr ⟨fa_inr1 h_in_5 c_8, Or.inl ⟨rfl, (by omega), rfl⟩⟩)⟩, fa_fr.rf⟩⟩)
  · refine lv_bipush (v := (-2 : Int32)) hx hb dX7_append_11 (by decide) ?_
    exact RET _ _ _ _ _ _ _ HX2704 dX7_append_13 (⟨rfl, ⟨⟨hJ, (show v 397 8 = v 397 8 from rfl), (Or.inl ⟨fa_inr0 h_in_5 c_8, rfl, rfl⟩)⟩, fa_fr.rf⟩⟩)
set_option maxHeartbeats 4000000 in
set_option maxRecDepth 100000 in
theorem r_clearText (l : Launch) (G : fa_G) (n : Nat) (hn : 406 ≤ n) (v : fa_V) (r : fa_R) (hM : fa_RM r) (hJ : fa_MJ v) : fa_MI l G n yX7_clearText cX7_clearText 2 (some .int) 1 [.ref (fa_B G + (397))] v r (fa_voi r (fun x v1 => ((fa_MJ v1) ∧ (v1 397 8 = v 397 8) ∧ (x = v 397 9 ∧ v1 = fa_u v 397 9 (nI 0))) ∧ (fa_fr (397) (403) v v1))) := by
  refine fa_startI (by decide +kernel) (Nat.le_of_ble_eq_true rfl) (fun p e s m args below meth c ls Q CX hl HX RET => ?_)
  have hl : lv_has ls 2 [(0, .ref (fa_B G + (397)))] := hl
  have hx := CX.1.1
  have hb := CX.1.2.1
  have hS := hJ.1
  obtain ⟨n4, en4⟩ : ∃ m, m = fa_N (v 398 14) := ⟨_, rfl⟩
  obtain ⟨hn4, g4⟩ := hS.n4 en4
  obtain ⟨n5, en5⟩ : ∃ m, m = fa_N (v 398 15) := ⟨_, rfl⟩
  obtain ⟨hn5, g5⟩ := hS.n5 en5
  obtain ⟨n6, en6⟩ : ∃ m, m = fa_N (v 398 16) := ⟨_, rfl⟩
  obtain ⟨hn6, g6⟩ := hS.n6 en6
  obtain ⟨n10, hn10, g10⟩ := hJ.2.2.2.2.1
  obtain ⟨n9, hn9, g9⟩ := hJ.2.2.2.2.2
  refine lv_aload_n hx hb dX7_clearText_0 rfl (lv_at hl 0 rfl) ?_
  refine fa_geti (k := 397) CX HX fl_X7_131 (by omega) rfl rfl dX7_clearText_1 ?_
  rw [show v 397 9 = nI (n9) from g9]
  refine lv_istore_n (lv' := [(1, .int (nI (n9))), (0, .ref (fa_B G + (397)))]) hx hb dX7_clearText_4 rfl hl (by decide) rfl (fun ls hl => ?_)
  refine lv_aload_n hx hb dX7_clearText_5 rfl (lv_at hl 1 rfl) ?_
  refine lv_iconst (v := nI (0)) hx hb dX7_clearText_6 (by decide) ?_
  refine fa_puti (k := 397) CX HX fl_X7_131 (by omega) rfl rfl rfl rfl dX7_clearText_7 (fun H locs v2711 e2712 HX2713 => ?_)
  refine lv_iload_n hx hb dX7_clearText_10 rfl (lv_at hl 0 rfl) ?_
  exact RET _ _ _ _ _ _ _ HX2713 dX7_clearText_11 (⟨rfl, ⟨⟨(show fa_MJ v2711 from ⟨(show fa_MS (v2711 398) from by rw [e2712, fa_u_k _ _ (by decide)]; exact hJ.1), (show fa_MS (v2711 399) from by rw [e2712, fa_u_k _ _ (by decide)]; exact hJ.2.1), (show fa_MS (v2711 400) from by rw [e2712, fa_u_k _ _ (by decide)]; exact hJ.2.2.1), (show fa_MB (v2711 401) from by rw [e2712, fa_u_k _ _ (by decide)]; exact hJ.2.2.2.1), ⟨n10, by omega, (by rw [e2712, fa_u_n _ _ (by omega)]; exact g10)⟩, ⟨0, by omega, (by rw [e2712, fa_u_s])⟩⟩), (show v2711 397 8 = v 397 8 from (show v2711 397 8 = v 397 8 from by rw [e2712, fa_u_n _ _ (by omega)])), ⟨g9.symm, (by show v2711 = _; rw [e2712])⟩⟩, (by rw [e2712]; exact fa_fr.u fa_fr.rf (by omega))⟩⟩)
