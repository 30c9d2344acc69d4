set_option maxHeartbeats 4000000 in
set_option maxRecDepth 100000 in
theorem r_recorded (l : Launch) (G : fa_G) (n : Nat) (hn : 406 ≤ n) (v : fa_V) (r : fa_R) (hM : fa_RM r) (hJ : fa_MJ v) (a1 : Int32) : fa_MI l G n yX7_recorded cX7_recorded 3 (some .int) 2 [.ref (fa_B G + (397)), .int (a1)] v r (fa_voi r (fun x v1 => ((fa_MJ v1) ∧ (v1 397 9 = v 397 9)) ∧ (fa_fr (397) (402) v v1))) := by
  refine fa_startI (by decide +kernel) (Nat.le_of_ble_eq_true rfl) (fun p e s m args below meth c ls Q CX hl HX RET => ?_)
  have hl : lv_has ls 3 [(0, .ref (fa_B G + (397))), (1, .int (a1))] := hl
  have hx := CX.1.1
  have hb := CX.1.2.1
  have hS := hJ.1
  obtain ⟨n4, en4⟩ : ∃ m, m = fa_N (v 398 14) := ⟨_, rfl⟩
  obtain ⟨hn4, g4⟩ := hS.n4 en4
  obtain ⟨n5, en5⟩ : ∃ m, m = fa_N (v 398 15) := ⟨_, rfl⟩
  obtain ⟨hn5, g5⟩ := hS.n5 en5
  obtain ⟨n6, en6⟩ : ∃ m, m = fa_N (v 398 16) := ⟨_, rfl⟩
  obtain ⟨hn6, g6⟩ := hS.n6 en6
  obtain ⟨n10, hn10, g10⟩ := hJ.2.2.2.2.1
  obtain ⟨n9, hn9, g9⟩ := hJ.2.2.2.2.2
  refine lv_iload_n hx hb dX7_recorded_0 rfl (lv_at hl 1 rfl) ?_
  refine lv_if_ge (tgt := 10) hx hb dX7_recorded_1 (by decide) (fun c_1 => ?_) (fun c_1 => ?_)
  · refine lv_aload_n hx hb dX7_recorded_10 rfl (lv_at hl 0 rfl) ?_
    refine fa_geti (k := 397) CX HX fl_X7_40 (by omega) rfl rfl dX7_recorded_11 ?_
    rw [show v 397 10 = nI (n10) from g10]
    refine lv_iconst (v := nI (4)) hx hb dX7_recorded_14 (by decide) ?_
    refine lv_icmp_ne (tgt := 59) hx hb dX7_recorded_15 (by decide) (fun c_15 => ?_) (fun c_15 => ?_)
    · have hne : ¬ n10 = 4 := fun z => c_15 (by rw [z])
      refine lv_iconst (v := nI (0)) hx hb dX7_recorded_59 (by decide) ?_
      refine lv_istore_n (lv' := [(2, .int (nI (0))), (0, .ref (fa_B G + (397))), (1, .int (a1))]) hx hb dX7_recorded_60 rfl hl (by decide) rfl (fun ls hl => ?_)
      have LOOP_61 : ∀ (fu : Nat) (k : Nat) (v2505 : fa_V) (H : Heap) (locs : List Loc) (ls : Array Slot), 453 - k < fu → (k ≤ 453 ∧ fa_MB (v2505 401) ∧ fa_fr 401 402 v v2505) → lv_has ls 3 [(0, .ref (fa_B G + (397))), (1, .int (a1)), (2, .int (nI (k)))] → fa_HX G (n) v2505 r s H locs → W p l e (fa_rm 2) s m args below meth c H locs (0) (0) Q (F0 m 61 ls []) := by
        intro fu
        induction fu with
        | zero => intro k v2505 H locs ls hk; exact absurd hk (Nat.not_lt_zero _)
        | succ fu ih_61 =>
          intro k v2505 H locs ls hk_61 hi_61 hl HX2506
          refine lv_iload_n hx hb dX7_recorded_61 rfl (lv_at hl 2 rfl) ?_
          refine lv_sipush (v := nI (453)) hx hb dX7_recorded_62 (by decide) ?_
          refine lv_icmp_ge (tgt := 95) hx hb dX7_recorded_65 (by decide) (fun c_65 => ?_) (fun c_65 => ?_)
          · refine lv_aload_n hx hb dX7_recorded_95 rfl (lv_at hl 0 rfl) ?_
            refine lv_dup hx hb dX7_recorded_96 rfl ?_
            refine fa_geti (k := 397) CX HX2506 fl_X7_40 (by omega) rfl rfl dX7_recorded_97 ?_
            rw [show v2505 397 10 = nI (n10) from (by rw [hi_61.2.2 _ (by omega)]; exact g10)]
            refine lv_iconst (v := nI (1)) hx hb dX7_recorded_100 (by decide) ?_
            refine fa_iaddN hx hb dX7_recorded_101 ?_
            refine fa_puti (k := 397) CX HX2506 fl_X7_40 (by omega) rfl rfl rfl rfl dX7_recorded_102 (fun H locs v2507 e2508 HX2509 => ?_)
            refine lv_iload_n hx hb dX7_recorded_105 rfl (lv_at hl 1 rfl) ?_
            exact RET _ _ _ _ _ _ _ HX2509 dX7_recorded_106 (⟨rfl, ⟨⟨(show fa_MJ v2507 from ⟨(show fa_MS (v2507 398) from by rw [e2508, fa_u_k _ _ (by decide)]; exact (show fa_MS (v2505 398) from by rw [hi_61.2.2 398 (by omega)]; exact hJ.1)), (show fa_MS (v2507 399) from by rw [e2508, fa_u_k _ _ (by decide)]; exact (show fa_MS (v2505 399) from by rw [hi_61.2.2 399 (by omega)]; exact hJ.2.1)), (show fa_MS (v2507 400) from by rw [e2508, fa_u_k _ _ (by decide)]; exact (show fa_MS (v2505 400) from by rw [hi_61.2.2 400 (by omega)]; exact hJ.2.2.1)), (show fa_MB (v2507 401) from by rw [e2508, fa_u_k _ _ (by decide)]; exact hi_61.2.1), ⟨n10 + 1, by omega, (by rw [e2508, fa_u_s])⟩, ⟨n9, by omega, (by rw [e2508, fa_u_n _ _ (by omega)]; exact (by rw [hi_61.2.2 _ (by omega)]; exact g9))⟩⟩), (show v2507 397 9 = v 397 9 from ((show v2507 397 9 = nI (n9) from (by rw [e2508, fa_u_n _ _ (by omega)]; exact (by rw [hi_61.2.2 _ (by omega)]; exact g9))).trans g9.symm))⟩, (by rw [e2508]; exact fa_fr.u (fa_fr.tr fa_fr.rf (fa_fr.wide hi_61.2.2 (by omega) (by omega))) (by omega))⟩⟩)
          · have hk := fa_ltN (by omega) (by omega) c_65
            refine lv_aload_n hx hb dX7_recorded_68 rfl (lv_at hl 0 rfl) ?_
            refine fa_getr (k := 397) (j := 401) CX HX2506 fl_X7_19 (by omega) rfl rfl hM.2.2.2.1 dX7_recorded_69 ?_
            refine lv_sipush (v := nI (453)) hx hb dX7_recorded_72 (by decide) ?_
            refine lv_aload_n hx hb dX7_recorded_75 rfl (lv_at hl 0 rfl) ?_
            refine fa_geti (k := 397) CX HX2506 fl_X7_40 (by omega) rfl rfl dX7_recorded_76 ?_
            rw [show v2505 397 10 = nI (n10) from (by rw [hi_61.2.2 _ (by omega)]; exact g10)]
            refine fa_imulN hx hb dX7_recorded_79 ?_
            refine lv_iload_n hx hb dX7_recorded_80 rfl (lv_at hl 2 rfl) ?_
            refine fa_iaddN hx hb dX7_recorded_81 ?_
            refine lv_aload_n hx hb dX7_recorded_82 rfl (lv_at hl 0 rfl) ?_
            refine fa_getr (k := 397) (j := 399) CX HX2506 fl_X7_13 (by omega) rfl rfl hM.2.1 dX7_recorded_83 ?_
            refine lv_iload_n hx hb dX7_recorded_86 rfl (lv_at hl 2 rfl) ?_
            refine fa_iald (k := 399) (j := k) CX HX2506 (by omega) rfl (by omega) (by first | decide | assumption) dX7_recorded_87 ?_
            refine fa_iast (k := 401) (j := 453 * n10 + k) CX HX2506 (by omega) rfl (by omega) (by first | decide | assumption) dX7_recorded_88 (fun H locs v2510 e2511 HX2512 => ?_)
            refine lv_iinc (v := nI (k + 1)) (lv' := [(2, .int (nI (k + 1))), (0, .ref (fa_B G + (397))), (1, .int (a1))]) hx hb dX7_recorded_89 hl (k := 2) rfl (nI_add (k) 1) (by decide) rfl (fun ls hl => ?_)
            refine lv_goto (tgt := 61) hx hb dX7_recorded_92 (by decide) ?_
            exact ih_61 (k + 1) v2510 _ _ _ (by omega) (⟨by omega, (show fa_MB (v2510 401) from by rw [e2511]; exact fa_MB.u hi_61.2.1 (fa_okb (by omega) ((show fa_MS (v2505 399) from by rw [hi_61.2.2 399 (by omega)]; exact hJ.2.1) k (by omega)))), (by rw [e2511]; exact fa_fr.u hi_61.2.2 (by omega))⟩) (lv_sub hl [1, 2, 0] rfl) HX2512
      exact LOOP_61 (453 - 0 + 1) (0) v _ _ _ (Nat.lt_succ_self _) (⟨Nat.zero_le _, hJ.2.2.2.1, fa_fr.rf⟩) (lv_sub hl [1, 2, 0] rfl) HX
    · have he : n10 = 4 := fa_nIinj (by omega) (by omega) c_15
      refine lv_iconst (v := nI (0)) hx hb dX7_recorded_18 (by decide) ?_
      refine lv_istore_n (lv' := [(2, .int (nI (0))), (0, .ref (fa_B G + (397))), (1, .int (a1))]) hx hb dX7_recorded_19 rfl hl (by decide) rfl (fun ls hl => ?_)
      have LOOP_20 : ∀ (fu : Nat) (k : Nat) (v2513 : fa_V) (H : Heap) (locs : List Loc) (ls : Array Slot), 1359 - k < fu → (k ≤ 1359 ∧ fa_MB (v2513 401) ∧ fa_fr 401 402 v v2513) → lv_has ls 3 [(0, .ref (fa_B G + (397))), (1, .int (a1)), (2, .int (nI (k)))] → fa_HX G (n) v2513 r s H locs → W p l e (fa_rm 2) s m args below meth c H locs (0) (0) Q (F0 m 20 ls []) := by
        intro fu
        induction fu with
        | zero => intro k v2513 H locs ls hk; exact absurd hk (Nat.not_lt_zero _)
        | succ fu ih_20 =>
          intro k v2513 H locs ls hk_20 hi_20 hl HX2514
          refine lv_iload_n hx hb dX7_recorded_20 rfl (lv_at hl 2 rfl) ?_
          refine lv_sipush (v := nI (1359)) hx hb dX7_recorded_21 (by decide) ?_
          refine lv_icmp_ge (tgt := 49) hx hb dX7_recorded_24 (by decide) (fun c_24 => ?_) (fun c_24 => ?_)
          · refine lv_aload_n hx hb dX7_recorded_49 rfl (lv_at hl 0 rfl) ?_
            refine lv_dup hx hb dX7_recorded_50 rfl ?_
            refine fa_geti (k := 397) CX HX2514 fl_X7_40 (by omega) rfl rfl dX7_recorded_51 ?_
            rw [show v2513 397 10 = nI (n10) from (by rw [hi_20.2.2 _ (by omega)]; exact g10)]
            refine lv_iconst (v := nI (1)) hx hb dX7_recorded_54 (by decide) ?_
            refine fa_isubN hx hb dX7_recorded_55 (by omega) ?_
            refine fa_puti (k := 397) CX HX2514 fl_X7_40 (by omega) rfl rfl rfl rfl dX7_recorded_56 (fun H locs v2515 e2516 HX2517 => ?_)
            refine lv_iconst (v := nI (0)) hx hb dX7_recorded_59 (by decide) ?_
            refine lv_istore_n (lv' := [(2, .int (nI (0))), (0, .ref (fa_B G + (397))), (1, .int (a1))]) hx hb dX7_recorded_60 rfl hl (by decide) rfl (fun ls hl => ?_)
            have LOOP_61 : ∀ (fu : Nat) (k : Nat) (v2518 : fa_V) (H : Heap) (locs : List Loc) (ls : Array Slot), 453 - k < fu → (k ≤ 453 ∧ fa_MB (v2518 401) ∧ fa_fr 401 402 v2515 v2518) → lv_has ls 3 [(0, .ref (fa_B G + (397))), (1, .int (a1)), (2, .int (nI (k)))] → fa_HX G (n) v2518 r s H locs → W p l e (fa_rm 2) s m args below meth c H locs (0) (0) Q (F0 m 61 ls []) := by
              intro fu
              induction fu with
              | zero => intro k v2518 H locs ls hk; exact absurd hk (Nat.not_lt_zero _)
              | succ fu ih_61 =>
                intro k v2518 H locs ls hk_61 hi_61 hl HX2519
                refine lv_iload_n hx hb dX7_recorded_61 rfl (lv_at hl 2 rfl) ?_
                refine lv_sipush (v := nI (453)) hx hb dX7_recorded_62 (by decide) ?_
                refine lv_icmp_ge (tgt := 95) hx hb dX7_recorded_65 (by decide) (fun c_65 => ?_) (fun c_65 => ?_)
                · refine lv_aload_n hx hb dX7_recorded_95 rfl (lv_at hl 0 rfl) ?_
                  refine lv_dup hx hb dX7_recorded_96 rfl ?_
                  refine fa_geti (k := 397) CX HX2519 fl_X7_40 (by omega) rfl rfl dX7_recorded_97 ?_
                  rw [show v2518 397 10 = nI (n10 - 1) from (by rw [hi_61.2.2 _ (by omega)]; exact (by rw [e2516, fa_u_s]))]
                  refine lv_iconst (v := nI (1)) hx hb dX7_recorded_100 (by decide) ?_
                  refine fa_iaddN hx hb dX7_recorded_101 ?_
                  refine fa_puti (k := 397) CX HX2519 fl_X7_40 (by omega) rfl rfl rfl rfl dX7_recorded_102 (fun H locs v2520 e2521 HX2522 => ?_)
                  refine lv_iload_n hx hb dX7_recorded_105 rfl (lv_at hl 1 rfl) ?_
                  exact RET _ _ _ _ _ _ _ HX2522 dX7_recorded_106 (⟨rfl, ⟨⟨(show fa_MJ v2520 from ⟨(show fa_MS (v2520 398) from by rw [e2521, fa_u_k _ _ (by decide)]; exact (show fa_MS (v2518 398) from by rw [hi_61.2.2 398 (by omega)]; exact (show fa_MS (v2515 398) from by rw [e2516, fa_u_k _ _ (by decide)]; exact (show fa_MS (v2513 398) from by rw [hi_20.2.2 398 (by omega)]; exact hJ.1)))), (show fa_MS (v2520 399) from by rw [e2521, fa_u_k _ _ (by decide)]; exact (show fa_MS (v2518 399) from by rw [hi_61.2.2 399 (by omega)]; exact (show fa_MS (v2515 399) from by rw [e2516, fa_u_k _ _ (by decide)]; exact (show fa_MS (v2513 399) from by rw [hi_20.2.2 399 (by omega)]; exact hJ.2.1)))), (show fa_MS (v2520 400) from by rw [e2521, fa_u_k _ _ (by decide)]; exact (show fa_MS (v2518 400) from by rw [hi_61.2.2 400 (by omega)]; exact (show fa_MS (v2515 400) from by rw [e2516, fa_u_k _ _ (by decide)]; exact (show fa_MS (v2513 400) from by rw [hi_20.2.2 400 (by omega)]; exact hJ.2.2.1)))), (show fa_MB (v2520 401) from by rw [e2521, fa_u_k _ _ (by decide)]; exact hi_61.2.1), ⟨n10 - 1 + 1, by omega, (by rw [e2521, fa_u_s])⟩, ⟨n9, by omega, (by rw [e2521, fa_u_n _ _ (by omega)]; exact (by rw [hi_61.2.2 _ (by omega)]; exact (by rw [e2516, fa_u_n _ _ (by omega)]; exact (by rw [hi_20.2.2 _ (by omega)]; exact g9))))⟩⟩), (show v2520 397 9 = v 397 9 from ((show v2520 397 9 = nI (n9) from (by rw [e2521, fa_u_n _ _ (by omega)]; exact (by rw [hi_61.2.2 _ (by omega)]; exact (by rw [e2516, fa_u_n _ _ (by omega)]; exact (by rw [hi_20.2.2 _ (by omega)]; exact g9))))).trans g9.symm))⟩, (by rw [e2521]; exact fa_fr.u (fa_fr.tr (by rw [e2516]; exact fa_fr.u (fa_fr.tr fa_fr.rf (fa_fr.wide hi_20.2.2 (by omega) (by omega))) (by omega)) (fa_fr.wide hi_61.2.2 (by omega) (by omega))) (by omega))⟩⟩)
                · have hk := fa_ltN (by omega) (by omega) c_65
                  refine lv_aload_n hx hb dX7_recorded_68 rfl (lv_at hl 0 rfl) ?_
                  refine fa_getr (k := 397) (j := 401) CX HX2519 fl_X7_19 (by omega) rfl rfl hM.2.2.2.1 dX7_recorded_69 ?_
                  refine lv_sipush (v := nI (453)) hx hb dX7_recorded_72 (by decide) ?_
                  refine lv_aload_n hx hb dX7_recorded_75 rfl (lv_at hl 0 rfl) ?_
                  refine fa_geti (k := 397) CX HX2519 fl_X7_40 (by omega) rfl rfl dX7_recorded_76 ?_
                  rw [show v2518 397 10 = nI (n10 - 1) from (by rw [hi_61.2.2 _ (by omega)]; exact (by rw [e2516, fa_u_s]))]
                  refine fa_imulN hx hb dX7_recorded_79 ?_
                  refine lv_iload_n hx hb dX7_recorded_80 rfl (lv_at hl 2 rfl) ?_
                  refine fa_iaddN hx hb dX7_recorded_81 ?_
                  refine lv_aload_n hx hb dX7_recorded_82 rfl (lv_at hl 0 rfl) ?_
                  refine fa_getr (k := 397) (j := 399) CX HX2519 fl_X7_13 (by omega) rfl rfl hM.2.1 dX7_recorded_83 ?_
                  refine lv_iload_n hx hb dX7_recorded_86 rfl (lv_at hl 2 rfl) ?_
                  refine fa_iald (k := 399) (j := k) CX HX2519 (by omega) rfl (by omega) (by first | decide | assumption) dX7_recorded_87 ?_
                  refine fa_iast (k := 401) (j := 453 * (n10 - 1) + k) CX HX2519 (by omega) rfl (by omega) (by first | decide | assumption) dX7_recorded_88 (fun H locs v2523 e2524 HX2525 => ?_)
                  refine lv_iinc (v := nI (k + 1)) (lv' := [(2, .int (nI (k + 1))), (0, .ref (fa_B G + (397))), (1, .int (a1))]) hx hb dX7_recorded_89 hl (k := 2) rfl (nI_add (k) 1) (by decide) rfl (fun ls hl => ?_)
                  refine lv_goto (tgt := 61) hx hb dX7_recorded_92 (by decide) ?_
                  exact ih_61 (k + 1) v2523 _ _ _ (by omega) (⟨by omega, (show fa_MB (v2523 401) from by rw [e2524]; exact fa_MB.u hi_61.2.1 (fa_okb (by omega) ((show fa_MS (v2518 399) from by rw [hi_61.2.2 399 (by omega)]; exact (show fa_MS (v2515 399) from by rw [e2516, fa_u_k _ _ (by decide)]; exact (show fa_MS (v2513 399) from by rw [hi_20.2.2 399 (by omega)]; exact hJ.2.1))) k (by omega)))), (by rw [e2524]; exact fa_fr.u hi_61.2.2 (by omega))⟩) (lv_sub hl [1, 2, 0] rfl) HX2525
            exact LOOP_61 (453 - 0 + 1) (0) v2515 _ _ _ (Nat.lt_succ_self _) (⟨Nat.zero_le _, (show fa_MB (v2515 401) from by rw [e2516, fa_u_k _ _ (by decide)]; exact hi_20.2.1), fa_fr.rf⟩) (lv_sub hl [1, 2, 0] rfl) HX2517
          · have hk := fa_ltN (by omega) (by omega) c_24
            refine lv_aload_n hx hb dX7_recorded_27 rfl (lv_at hl 0 rfl) ?_
            refine fa_getr (k := 397) (j := 401) CX HX2514 fl_X7_19 (by omega) rfl rfl hM.2.2.2.1 dX7_recorded_28 ?_
            refine lv_iload_n hx hb dX7_recorded_31 rfl (lv_at hl 2 rfl) ?_
            refine lv_aload_n hx hb dX7_recorded_32 rfl (lv_at hl 0 rfl) ?_
            refine fa_getr (k := 397) (j := 401) CX HX2514 fl_X7_19 (by omega) rfl rfl hM.2.2.2.1 dX7_recorded_33 ?_
            refine lv_sipush (v := nI (453)) hx hb dX7_recorded_36 (by decide) ?_
            refine lv_iload_n hx hb dX7_recorded_39 rfl (lv_at hl 2 rfl) ?_
            refine fa_iaddN hx hb dX7_recorded_40 ?_
            refine fa_iald (k := 401) (j := 453 + k) CX HX2514 (by omega) rfl (by omega) (by first | decide | assumption) dX7_recorded_41 ?_
            refine fa_iast (k := 401) (j := k) CX HX2514 (by omega) rfl (by omega) (by first | decide | assumption) dX7_recorded_42 (fun H locs v2526 e2527 HX2528 => ?_)
            refine lv_iinc (v := nI (k + 1)) (lv' := [(2, .int (nI (k + 1))), (0, .ref (fa_B G + (397))), (1, .int (a1))]) hx hb dX7_recorded_43 hl (k := 2) rfl (nI_add (k) 1) (by decide) rfl (fun ls hl => ?_)
            refine lv_goto (tgt := 20) hx hb dX7_recorded_46 (by decide) ?_
            exact ih_20 (k + 1) v2526 _ _ _ (by omega) (⟨by omega, (show fa_MB (v2526 401) from by rw [e2527]; exact fa_MB.u hi_20.2.1 (fa_okm hi_20.2.1 (by omega))), (by rw [e2527]; exact fa_fr.u hi_20.2.2 (by omega))⟩) (lv_sub hl [1, 2, 0] rfl) HX2528
      exact LOOP_20 (1359 - 0 + 1) (0) v _ _ _ (Nat.lt_succ_self _) (⟨Nat.zero_le _, hJ.2.2.2.1, fa_fr.rf⟩) (lv_sub hl [1, 2, 0] rfl) HX
  · refine lv_iload_n hx hb dX7_recorded_4 rfl (lv_at hl 1 rfl) ?_
    refine lv_bipush (v := (-6 : Int32)) hx hb dX7_recorded_5 (by decide) ?_
    refine lv_icmp_ne (tgt := 105) hx hb dX7_recorded_7 (by decide) (fun c_7 => ?_) (fun c_7 => ?_)
    · refine lv_iload_n hx hb dX7_recorded_105 rfl (lv_at hl 1 rfl) ?_
      exact RET _ _ _ _ _ _ _ HX dX7_recorded_106 (⟨rfl, ⟨⟨hJ, (show v 397 9 = v 397 9 from rfl)⟩, fa_fr.rf⟩⟩)
    · refine lv_aload_n hx hb dX7_recorded_10 rfl (lv_at hl 0 rfl) ?_
      refine fa_geti (k := 397) CX HX fl_X7_40 (by omega) rfl rfl dX7_recorded_11 ?_
      rw [show v 397 10 = nI (n10) from g10]
      refine lv_iconst (v := nI (4)) hx hb dX7_recorded_14 (by decide) ?_
      refine lv_icmp_ne (tgt := 59) hx hb dX7_recorded_15 (by decide) (fun c_15 => ?_) (fun c_15 => ?_)
      · have hne : ¬ n10 = 4 := fun z => c_15 (by rw [z])
        refine lv_iconst (v := nI (0)) hx hb dX7_recorded_59 (by decide) ?_
        refine lv_istore_n (lv' := [(2, .int (nI (0))), (0, .ref (fa_B G + (397))), (1, .int (a1))]) hx hb dX7_recorded_60 rfl hl (by decide) rfl (fun ls hl => ?_)
        have LOOP_61 : ∀ (fu : Nat) (k : Nat) (v2529 : fa_V) (H : Heap) (locs : List Loc) (ls : Array Slot), 453 - k < fu → (k ≤ 453 ∧ fa_MB (v2529 401) ∧ fa_fr 401 402 v v2529) → lv_has ls 3 [(0, .ref (fa_B G + (397))), (1, .int (a1)), (2, .int (nI (k)))] → fa_HX G (n) v2529 r s H locs → W p l e (fa_rm 2) s m args below meth c H locs (0) (0) Q (F0 m 61 ls []) := by
          intro fu
          induction fu with
          | zero => intro k v2529 H locs ls hk; exact absurd hk (Nat.not_lt_zero _)
          | succ fu ih_61 =>
            intro k v2529 H locs ls hk_61 hi_61 hl HX2530
            refine lv_iload_n hx hb dX7_recorded_61 rfl (lv_at hl 2 rfl) ?_
            refine lv_sipush (v := nI (453)) hx hb dX7_recorded_62 (by decide) ?_
            refine lv_icmp_ge (tgt := 95) hx hb dX7_recorded_65 (by decide) (fun c_65 => ?_) (fun c_65 => ?_)
            · refine lv_aload_n hx hb dX7_recorded_95 rfl (lv_at hl 0 rfl) ?_
              refine lv_dup hx hb dX7_recorded_96 rfl ?_
              refine fa_geti (k := 397) CX HX2530 fl_X7_40 (by omega) rfl rfl dX7_recorded_97 ?_
              rw [show v2529 397 10 = nI (n10) from (by rw [hi_61.2.2 _ (by omega)]; exact g10)]
              refine lv_iconst (v := nI (1)) hx hb dX7_recorded_100 (by decide) ?_
              refine fa_iaddN hx hb dX7_recorded_101 ?_
              refine fa_puti (k := 397) CX HX2530 fl_X7_40 (by omega) rfl rfl rfl rfl dX7_recorded_102 (fun H locs v2531 e2532 HX2533 => ?_)
              refine lv_iload_n hx hb dX7_recorded_105 rfl (lv_at hl 1 rfl) ?_
              exact RET _ _ _ _ _ _ _ HX2533 dX7_recorded_106 (⟨rfl, ⟨⟨(show fa_MJ v2531 from ⟨(show fa_MS (v2531 398) from by rw [e2532, fa_u_k _ _ (by decide)]; exact (show fa_MS (v2529 398) from by rw [hi_61.2.2 398 (by omega)]; exact hJ.1)), (show fa_MS (v2531 399) from by rw [e2532, fa_u_k _ _ (by decide)]; exact (show fa_MS (v2529 399) from by rw [hi_61.2.2 399 (by omega)]; exact hJ.2.1)), (show fa_MS (v2531 400) from by rw [e2532, fa_u_k _ _ (by decide)]; exact (show fa_MS (v2529 400) from by rw [hi_61.2.2 400 (by omega)]; exact hJ.2.2.1)), (show fa_MB (v2531 401) from by rw [e2532, fa_u_k _ _ (by decide)]; exact hi_61.2.1), ⟨n10 + 1, by omega, (by rw [e2532, fa_u_s])⟩, ⟨n9, by omega, (by rw [e2532, fa_u_n _ _ (by omega)]; exact (by rw [hi_61.2.2 _ (by omega)]; exact g9))⟩⟩), (show v2531 397 9 = v 397 9 from ((show v2531 397 9 = nI (n9) from (by rw [e2532, fa_u_n _ _ (by omega)]; exact (by rw [hi_61.2.2 _ (by omega)]; exact g9))).trans g9.symm))⟩, (by rw [e2532]; exact fa_fr.u (fa_fr.tr fa_fr.rf (fa_fr.wide hi_61.2.2 (by omega) (by omega))) (by omega))⟩⟩)
            · have hk := fa_ltN (by omega) (by omega) c_65
              refine lv_aload_n hx hb dX7_recorded_68 rfl (lv_at hl 0 rfl) ?_
              refine fa_getr (k := 397) (j := 401) CX HX2530 fl_X7_19 (by omega) rfl rfl hM.2.2.2.1 dX7_recorded_69 ?_
              refine lv_sipush (v := nI (453)) hx hb dX7_recorded_72 (by decide) ?_
              refine lv_aload_n hx hb dX7_recorded_75 rfl (lv_at hl 0 rfl) ?_
              refine fa_geti (k := 397) CX HX2530 fl_X7_40 (by omega) rfl rfl dX7_recorded_76 ?_
              rw [show v2529 397 10 = nI (n10) from (by rw [hi_61.2.2 _ (by omega)]; exact g10)]
              refine fa_imulN hx hb dX7_recorded_79 ?_
              refine lv_iload_n hx hb dX7_recorded_80 rfl (lv_at hl 2 rfl) ?_
              refine fa_iaddN hx hb dX7_recorded_81 ?_
              refine lv_aload_n hx hb dX7_recorded_82 rfl (lv_at hl 0 rfl) ?_
              refine fa_getr (k := 397) (j := 399) CX HX2530 fl_X7_13 (by omega) rfl rfl hM.2.1 dX7_recorded_83 ?_
              refine lv_iload_n hx hb dX7_recorded_86 rfl (lv_at hl 2 rfl) ?_
              refine fa_iald (k := 399) (j := k) CX HX2530 (by omega) rfl (by omega) (by first | decide | assumption) dX7_recorded_87 ?_
              refine fa_iast (k := 401) (j := 453 * n10 + k) CX HX2530 (by omega) rfl (by omega) (by first | decide | assumption) dX7_recorded_88 (fun H locs v2534 e2535 HX2536 => ?_)
              refine lv_iinc (v := nI (k + 1)) (lv' := [(2, .int (nI (k + 1))), (0, .ref (fa_B G + (397))), (1, .int (a1))]) hx hb dX7_recorded_89 hl (k := 2) rfl (nI_add (k) 1) (by decide) rfl (fun ls hl => ?_)
              refine lv_goto (tgt := 61) hx hb dX7_recorded_92 (by decide) ?_
              exact ih_61 (k + 1) v2534 _ _ _ (by omega) (⟨by omega, (show fa_MB (v2534 401) from by rw [e2535]; exact fa_MB.u hi_61.2.1 (fa_okb (by omega) ((show fa_MS (v2529 399) from by rw [hi_61.2.2 399 (by omega)]; exact hJ.2.1) k (by omega)))), (by rw [e2535]; exact fa_fr.u hi_61.2.2 (by omega))⟩) (lv_sub hl [1, 2, 0] rfl) HX2536
        exact LOOP_61 (453 - 0 + 1) (0) v _ _ _ (Nat.lt_succ_self _) (⟨Nat.zero_le _, hJ.2.2.2.1, fa_fr.rf⟩) (lv_sub hl [1, 2, 0] rfl) HX
      · have he : n10 = 4 := fa_nIinj (by omega) (by omega) c_15
        refine lv_iconst (v := nI (0)) hx hb dX7_recorded_18 (by decide) ?_
        refine lv_istore_n (lv' := [(2, .int (nI (0))), (0, .ref (fa_B G + (397))), (1, .int (a1))]) hx hb dX7_recorded_19 rfl hl (by decide) rfl (fun ls hl => ?_)
        have LOOP_20 : ∀ (fu : Nat) (k : Nat) (v2537 : fa_V) (H : Heap) (locs : List Loc) (ls : Array Slot), 1359 - k < fu → (k ≤ 1359 ∧ fa_MB (v2537 401) ∧ fa_fr 401 402 v v2537) → lv_has ls 3 [(0, .ref (fa_B G + (397))), (1, .int (a1)), (2, .int (nI (k)))] → fa_HX G (n) v2537 r s H locs → W p l e (fa_rm 2) s m args below meth c H locs (0) (0) Q (F0 m 20 ls []) := by
          intro fu
          induction fu with
          | zero => intro k v2537 H locs ls hk; exact absurd hk (Nat.not_lt_zero _)
          | succ fu ih_20 =>
            intro k v2537 H locs ls hk_20 hi_20 hl HX2538
            refine lv_iload_n hx hb dX7_recorded_20 rfl (lv_at hl 2 rfl) ?_
            refine lv_sipush (v := nI (1359)) hx hb dX7_recorded_21 (by decide) ?_
            refine lv_icmp_ge (tgt := 49) hx hb dX7_recorded_24 (by decide) (fun c_24 => ?_) (fun c_24 => ?_)
            · refine lv_aload_n hx hb dX7_recorded_49 rfl (lv_at hl 0 rfl) ?_
              refine lv_dup hx hb dX7_recorded_50 rfl ?_
              refine fa_geti (k := 397) CX HX2538 fl_X7_40 (by omega) rfl rfl dX7_recorded_51 ?_
              rw [show v2537 397 10 = nI (n10) from (by rw [hi_20.2.2 _ (by omega)]; exact g10)]
              refine lv_iconst (v := nI (1)) hx hb dX7_recorded_54 (by decide) ?_
              refine fa_isubN hx hb dX7_recorded_55 (by omega) ?_
              refine fa_puti (k := 397) CX HX2538 fl_X7_40 (by omega) rfl rfl rfl rfl dX7_recorded_56 (fun H locs v2539 e2540 HX2541 => ?_)
              refine lv_iconst (v := nI (0)) hx hb dX7_recorded_59 (by decide) ?_
              refine lv_istore_n (lv' := [(2, .int (nI (0))), (0, .ref (fa_B G + (397))), (1, .int (a1))]) hx hb dX7_recorded_60 rfl hl (by decide) rfl (fun ls hl => ?_)
              have LOOP_61 : ∀ (fu : Nat) (k : Nat) (v2542 : fa_V) (H : Heap) (locs : List Loc) (ls : Array Slot), 453 - k < fu → (k ≤ 453 ∧ fa_MB (v2542 401) ∧ fa_fr 401 402 v2539 v2542) → lv_has ls 3 [(0, .ref (fa_B G + (397))), (1, .int (a1)), (2, .int (nI (k)))] → fa_HX G (n) v2542 r s H locs → W p l e (fa_rm 2) s m args below meth c H locs (0) (0) Q (F0 m 61 ls []) := by
                intro fu
                induction fu with
                | zero => intro k v2542 H locs ls hk; exact absurd hk (Nat.not_lt_zero _)
                | succ fu ih_61 =>
                  intro k v2542 H locs ls hk_61 hi_61 hl HX2543
                  refine lv_iload_n hx hb dX7_recorded_61 rfl (lv_at hl 2 rfl) ?_
                  refine lv_sipush (v := nI (453)) hx hb dX7_recorded_62 (by decide) ?_
                  refine lv_icmp_ge (tgt := 95) hx hb dX7_recorded_65 (by decide) (fun c_65 => ?_) (fun c_65 => ?_)
                  · refine lv_aload_n hx hb dX7_recorded_95 rfl (lv_at hl 0 rfl) ?_
                    refine lv_dup hx hb dX7_recorded_96 rfl ?_
                    refine fa_geti (k := 397) CX HX2543 fl_X7_40 (by omega) rfl rfl dX7_recorded_97 ?_
                    rw [show v2542 397 10 = nI (n10 - 1) from (by rw [hi_61.2.2 _ (by omega)]; exact (by rw [e2540, fa_u_s]))]
                    refine lv_iconst (v := nI (1)) hx hb dX7_recorded_100 (by decide) ?_
                    refine fa_iaddN hx hb dX7_recorded_101 ?_
                    refine fa_puti (k := 397) CX HX2543 fl_X7_40 (by omega) rfl rfl rfl rfl dX7_recorded_102 (fun H locs v2544 e2545 HX2546 => ?_)
                    refine lv_iload_n hx hb dX7_recorded_105 rfl (lv_at hl 1 rfl) ?_
                    exact RET _ _ _ _ _ _ _ HX2546 dX7_recorded_106 (⟨rfl, ⟨⟨(show fa_MJ v2544 from ⟨(show fa_MS (v2544 398) from by rw [e2545, fa_u_k _ _ (by decide)]; exact (show fa_MS (v2542 398) from by rw [hi_61.2.2 398 (by omega)]; exact (show fa_MS (v2539 398) from by rw [e2540, fa_u_k _ _ (by decide)]; exact (show fa_MS (v2537 398) from by rw [hi_20.2.2 398 (by omega)]; exact hJ.1)))), (show fa_MS (v2544 399) from by rw [e2545, fa_u_k _ _ (by decide)]; exact (show fa_MS (v2542 399) from by rw [hi_61.2.2 399 (by omega)]; exact (show fa_MS (v2539 399) from by rw [e2540, fa_u_k _ _ (by decide)]; exact (show fa_MS (v2537 399) from by rw [hi_20.2.2 399 (by omega)]; exact hJ.2.1)))), (show fa_MS (v2544 400) from by rw [e2545, fa_u_k _ _ (by decide)]; exact (show fa_MS (v2542 400) from by rw [hi_61.2.2 400 (by omega)]; exact (show fa_MS (v2539 400) from by rw [e2540, fa_u_k _ _ (by decide)]; exact (show fa_MS (v2537 400) from by rw [hi_20.2.2 400 (by omega)]; exact hJ.2.2.1)))), (show fa_MB (v2544 401) from by rw [e2545, fa_u_k _ _ (by decide)]; exact hi_61.2.1), ⟨n10 - 1 + 1, by omega, (by rw [e2545, fa_u_s])⟩, ⟨n9, by omega, (by rw [e2545, fa_u_n _ _ (by omega)]; exact (by rw [hi_61.2.2 _ (by omega)]; exact (by rw [e2540, fa_u_n _ _ (by omega)]; exact (by rw [hi_20.2.2 _ (by omega)]; exact g9))))⟩⟩), (show v2544 397 9 = v 397 9 from ((show v2544 397 9 = nI (n9) from (by rw [e2545, fa_u_n _ _ (by omega)]; exact (by rw [hi_61.2.2 _ (by omega)]; exact (by rw [e2540, fa_u_n _ _ (by omega)]; exact (by rw [hi_20.2.2 _ (by omega)]; exact g9))))).trans g9.symm))⟩, (by rw [e2545]; exact fa_fr.u (fa_fr.tr (by rw [e2540]; exact fa_fr.u (fa_fr.tr fa_fr.rf (fa_fr.wide hi_20.2.2 (by omega) (by omega))) (by omega)) (fa_fr.wide hi_61.2.2 (by omega) (by omega))) (by omega))⟩⟩)
                  · have hk := fa_ltN (by omega) (by omega) c_65
                    refine lv_aload_n hx hb dX7_recorded_68 rfl (lv_at hl 0 rfl) ?_
                    refine fa_getr (k := 397) (j := 401) CX HX2543 fl_X7_19 (by omega) rfl rfl hM.2.2.2.1 dX7_recorded_69 ?_
                    refine lv_sipush (v := nI (453)) hx hb dX7_recorded_72 (by decide) ?_
                    refine lv_aload_n hx hb dX7_recorded_75 rfl (lv_at hl 0 rfl) ?_
                    refine fa_geti (k := 397) CX HX2543 fl_X7_40 (by omega) rfl rfl dX7_recorded_76 ?_
                    rw [show v2542 397 10 = nI (n10 - 1) from (by rw [hi_61.2.2 _ (by omega)]; exact (by rw [e2540, fa_u_s]))]
                    refine fa_imulN hx hb dX7_recorded_79 ?_
                    refine lv_iload_n hx hb dX7_recorded_80 rfl (lv_at hl 2 rfl) ?_
                    refine fa_iaddN hx hb dX7_recorded_81 ?_
                    refine lv_aload_n hx hb dX7_recorded_82 rfl (lv_at hl 0 rfl) ?_
                    refine fa_getr (k := 397) (j := 399) CX HX2543 fl_X7_13 (by omega) rfl rfl hM.2.1 dX7_recorded_83 ?_
                    refine lv_iload_n hx hb dX7_recorded_86 rfl (lv_at hl 2 rfl) ?_
                    refine fa_iald (k := 399) (j := k) CX HX2543 (by omega) rfl (by omega) (by first | decide | assumption) dX7_recorded_87 ?_
                    refine fa_iast (k := 401) (j := 453 * (n10 - 1) + k) CX HX2543 (by omega) rfl (by omega) (by first | decide | assumption) dX7_recorded_88 (fun H locs v2547 e2548 HX2549 => ?_)
                    refine lv_iinc (v := nI (k + 1)) (lv' := [(2, .int (nI (k + 1))), (0, .ref (fa_B G + (397))), (1, .int (a1))]) hx hb dX7_recorded_89 hl (k := 2) rfl (nI_add (k) 1) (by decide) rfl (fun ls hl => ?_)
                    refine lv_goto (tgt := 61) hx hb dX7_recorded_92 (by decide) ?_
                    exact ih_61 (k + 1) v2547 _ _ _ (by omega) (⟨by omega, (show fa_MB (v2547 401) from by rw [e2548]; exact fa_MB.u hi_61.2.1 (fa_okb (by omega) ((show fa_MS (v2542 399) from by rw [hi_61.2.2 399 (by omega)]; exact (show fa_MS (v2539 399) from by rw [e2540, fa_u_k _ _ (by decide)]; exact (show fa_MS (v2537 399) from by rw [hi_20.2.2 399 (by omega)]; exact hJ.2.1))) k (by omega)))), (by rw [e2548]; exact fa_fr.u hi_61.2.2 (by omega))⟩) (lv_sub hl [1, 2, 0] rfl) HX2549
              exact LOOP_61 (453 - 0 + 1) (0) v2539 _ _ _ (Nat.lt_succ_self _) (⟨Nat.zero_le _, (show fa_MB (v2539 401) from by rw [e2540, fa_u_k _ _ (by decide)]; exact hi_20.2.1), fa_fr.rf⟩) (lv_sub hl [1, 2, 0] rfl) HX2541
            · have hk := fa_ltN (by omega) (by omega) c_24
              refine lv_aload_n hx hb dX7_recorded_27 rfl (lv_at hl 0 rfl) ?_
              refine fa_getr (k := 397) (j := 401) CX HX2538 fl_X7_19 (by omega) rfl rfl hM.2.2.2.1 dX7_recorded_28 ?_
              refine lv_iload_n hx hb dX7_recorded_31 rfl (lv_at hl 2 rfl) ?_
              refine lv_aload_n hx hb dX7_recorded_32 rfl (lv_at hl 0 rfl) ?_
              refine fa_getr (k := 397) (j := 401) CX HX2538 fl_X7_19 (by omega) rfl rfl hM.2.2.2.1 dX7_recorded_33 ?_
              refine lv_sipush (v := nI (453)) hx hb dX7_recorded_36 (by decide) ?_
              refine lv_iload_n hx hb dX7_recorded_39 rfl (lv_at hl 2 rfl) ?_
              refine fa_iaddN hx hb dX7_recorded_40 ?_
              refine fa_iald (k := 401) (j := 453 + k) CX HX2538 (by omega) rfl (by omega) (by first | decide | assumption) dX7_recorded_41 ?_
              refine fa_iast (k := 401) (j := k) CX HX2538 (by omega) rfl (by omega) (by first | decide | assumption) dX7_recorded_42 (fun H locs v2550 e2551 HX2552 => ?_)
              refine lv_iinc (v := nI (k + 1)) (lv' := [(2, .int (nI (k + 1))), (0, .ref (fa_B G + (397))), (1, .int (a1))]) hx hb dX7_recorded_43 hl (k := 2) rfl (nI_add (k) 1) (by decide) rfl (fun ls hl => ?_)
              refine lv_goto (tgt := 20) hx hb dX7_recorded_46 (by decide) ?_
              exact ih_20 (k + 1) v2550 _ _ _ (by omega) (⟨by omega, (show fa_MB (v2550 401) from by rw [e2551]; exact fa_MB.u hi_20.2.1 (fa_okm hi_20.2.1 (by omega))), (by rw [e2551]; exact fa_fr.u hi_20.2.2 (by omega))⟩) (lv_sub hl [1, 2, 0] rfl) HX2552
        exact LOOP_20 (1359 - 0 + 1) (0) v _ _ _ (Nat.lt_succ_self _) (⟨Nat.zero_le _, hJ.2.2.2.1, fa_fr.rf⟩) (lv_sub hl [1, 2, 0] rfl) HX
set_option maxHeartbeats 4000000 in
set_option maxRecDepth 100000 in
theorem r_undo (l : Launch) (G : fa_G) (n : Nat) (hn : 406 ≤ n) (v : fa_V) (r : fa_R) (hM : fa_RM r) (hJ : fa_MJ v) : fa_MI l G n yX7_undo cX7_undo 2 (some .int) 1 [.ref (fa_B G + (397))] v r (fa_voi r (fun x v1 => ((fa_MJ v1) ∧ (v1 397 9 = v 397 9)) ∧ (fa_fr (397) (405) v v1))) := by
  refine fa_startI (by decide +kernel) (Nat.le_of_ble_eq_true rfl) (fun p e s m args below meth c ls Q CX hl HX RET => ?_)
  have hl : lv_has ls 2 [(0, .ref (fa_B G + (397)))] := hl
  have hx := CX.1.1
  have hb := CX.1.2.1
  have hS := hJ.1
  obtain ⟨n4, en4⟩ : ∃ m, m = fa_N (v 398 14) := ⟨_, rfl⟩
  obtain ⟨hn4, g4⟩ := hS.n4 en4
  obtain ⟨n5, en5⟩ : ∃ m, m = fa_N (v 398 15) := ⟨_, rfl⟩
  obtain ⟨hn5, g5⟩ := hS.n5 en5
  obtain ⟨n6, en6⟩ : ∃ m, m = fa_N (v 398 16) := ⟨_, rfl⟩
  obtain ⟨hn6, g6⟩ := hS.n6 en6
  obtain ⟨n10, hn10, g10⟩ := hJ.2.2.2.2.1
  obtain ⟨n9, hn9, g9⟩ := hJ.2.2.2.2.2
  refine lv_aload_n hx hb dX7_undo_0 rfl (lv_at hl 0 rfl) ?_
  refine fa_geti (k := 397) CX HX fl_X7_40 (by omega) rfl rfl dX7_undo_1 ?_
  rw [show v 397 10 = nI (n10) from g10]
  refine lv_if_ne (tgt := 10) hx hb dX7_undo_4 (by decide) (fun c_4 => ?_) (fun c_4 => ?_)
  · have hp10 : 0 < n10 := by
      refine Nat.pos_of_ne_zero (fun z => c_4 ?_)
      rw [z]; decide
    refine lv_aload_n hx hb dX7_undo_10 rfl (lv_at hl 0 rfl) ?_
    refine lv_dup hx hb dX7_undo_11 rfl ?_
    refine fa_geti (k := 397) CX HX fl_X7_40 (by omega) rfl rfl dX7_undo_12 ?_
    rw [show v 397 10 = nI (n10) from g10]
    refine lv_iconst (v := nI (1)) hx hb dX7_undo_15 (by decide) ?_
    refine fa_isubN hx hb dX7_undo_16 (by omega) ?_
    refine fa_puti (k := 397) CX HX fl_X7_40 (by omega) rfl rfl rfl rfl dX7_undo_17 (fun H locs v2553 e2554 HX2555 => ?_)
    refine lv_iconst (v := nI (0)) hx hb dX7_undo_20 (by decide) ?_
    refine lv_istore_n (lv' := [(1, .int (nI (0))), (0, .ref (fa_B G + (397)))]) hx hb dX7_undo_21 rfl hl (by decide) rfl (fun ls hl => ?_)
    have LOOP_22 : ∀ (fu : Nat) (k : Nat) (v2556 : fa_V) (H : Heap) (locs : List Loc) (ls : Array Slot), 453 - k < fu → (k ≤ 453 ∧ fa_MS (v2556 398) ∧ fa_fr 398 399 v2553 v2556) → lv_has ls 2 [(0, .ref (fa_B G + (397))), (1, .int (nI (k)))] → fa_HX G (n) v2556 r s H locs → W p l e (fa_rm 1) s m args below meth c H locs (0) (0) Q (F0 m 22 ls []) := by
      intro fu
      induction fu with
      | zero => intro k v2556 H locs ls hk; exact absurd hk (Nat.not_lt_zero _)
      | succ fu ih_22 =>
        intro k v2556 H locs ls hk_22 hi_22 hl HX2557
        refine lv_iload_n hx hb dX7_undo_22 rfl (lv_at hl 1 rfl) ?_
        refine lv_sipush (v := nI (453)) hx hb dX7_undo_23 (by decide) ?_
        refine lv_icmp_ge (tgt := 56) hx hb dX7_undo_26 (by decide) (fun c_26 => ?_) (fun c_26 => ?_)
        · refine lv_aload_n hx hb dX7_undo_56 rfl (lv_at hl 0 rfl) ?_
          refine fa_geti (k := 397) CX HX2557 fl_X7_40 (by omega) rfl rfl dX7_undo_57 ?_
          rw [show v2556 397 10 = nI (n10 - 1) from (by rw [hi_22.2.2 _ (by omega)]; exact (by rw [e2554, fa_u_s]))]
          exact RET _ _ _ _ _ _ _ HX2557 dX7_undo_60 (⟨rfl, ⟨⟨(show fa_MJ v2556 from ⟨hi_22.2.1, (show fa_MS (v2556 399) from by rw [hi_22.2.2 399 (by omega)]; exact (show fa_MS (v2553 399) from by rw [e2554, fa_u_k _ _ (by decide)]; exact hJ.2.1)), (show fa_MS (v2556 400) from by rw [hi_22.2.2 400 (by omega)]; exact (show fa_MS (v2553 400) from by rw [e2554, fa_u_k _ _ (by decide)]; exact hJ.2.2.1)), (show fa_MB (v2556 401) from by rw [hi_22.2.2 401 (by omega)]; exact (show fa_MB (v2553 401) from by rw [e2554, fa_u_k _ _ (by decide)]; exact hJ.2.2.2.1)), ⟨n10 - 1, by omega, (by rw [hi_22.2.2 _ (by omega)]; exact (by rw [e2554, fa_u_s]))⟩, ⟨n9, by omega, (by rw [hi_22.2.2 _ (by omega)]; exact (by rw [e2554, fa_u_n _ _ (by omega)]; exact g9))⟩⟩), (show v2556 397 9 = v 397 9 from ((show v2556 397 9 = nI (n9) from (by rw [hi_22.2.2 _ (by omega)]; exact (by rw [e2554, fa_u_n _ _ (by omega)]; exact g9))).trans g9.symm))⟩, (fa_fr.tr (by rw [e2554]; exact fa_fr.u fa_fr.rf (by omega)) (fa_fr.wide hi_22.2.2 (by omega) (by omega)))⟩⟩)
        · have hk := fa_ltN (by omega) (by omega) c_26
          refine lv_aload_n hx hb dX7_undo_29 rfl (lv_at hl 0 rfl) ?_
          refine fa_getr (k := 397) (j := 398) CX HX2557 fl_X7_7 (by omega) rfl rfl hM.1 dX7_undo_30 ?_
          refine lv_iload_n hx hb dX7_undo_33 rfl (lv_at hl 1 rfl) ?_
          refine lv_aload_n hx hb dX7_undo_34 rfl (lv_at hl 0 rfl) ?_
          refine fa_getr (k := 397) (j := 401) CX HX2557 fl_X7_19 (by omega) rfl rfl hM.2.2.2.1 dX7_undo_35 ?_
          refine lv_sipush (v := nI (453)) hx hb dX7_undo_38 (by decide) ?_
          refine lv_aload_n hx hb dX7_undo_41 rfl (lv_at hl 0 rfl) ?_
          refine fa_geti (k := 397) CX HX2557 fl_X7_40 (by omega) rfl rfl dX7_undo_42 ?_
          rw [show v2556 397 10 = nI (n10 - 1) from (by rw [hi_22.2.2 _ (by omega)]; exact (by rw [e2554, fa_u_s]))]
          refine fa_imulN hx hb dX7_undo_45 ?_
          refine lv_iload_n hx hb dX7_undo_46 rfl (lv_at hl 1 rfl) ?_
          refine fa_iaddN hx hb dX7_undo_47 ?_
          refine fa_iald (k := 401) (j := 453 * (n10 - 1) + k) CX HX2557 (by omega) rfl (by omega) (by first | decide | assumption) dX7_undo_48 ?_
          refine fa_iast (k := 398) (j := k) CX HX2557 (by omega) rfl (by omega) (by first | decide | assumption) dX7_undo_49 (fun H locs v2558 e2559 HX2560 => ?_)
          refine lv_iinc (v := nI (k + 1)) (lv' := [(1, .int (nI (k + 1))), (0, .ref (fa_B G + (397)))]) hx hb dX7_undo_50 hl (k := 1) rfl (nI_add (k) 1) (by decide) rfl (fun ls hl => ?_)
          refine lv_goto (tgt := 22) hx hb dX7_undo_53 (by decide) ?_
          exact ih_22 (k + 1) v2558 _ _ _ (by omega) (⟨by omega, (show fa_MS (v2558 398) from by rw [e2559]; exact fa_MS.u hi_22.2.1 (fa_okx (show fa_MB (v2556 401) from by rw [hi_22.2.2 401 (by omega)]; exact (show fa_MB (v2553 401) from by rw [e2554, fa_u_k _ _ (by decide)]; exact hJ.2.2.2.1)) (by omega) (by omega))), (by rw [e2559]; exact fa_fr.u hi_22.2.2 (by omega))⟩) (lv_sub hl [1, 0] rfl) HX2560
    exact LOOP_22 (453 - 0 + 1) (0) v2553 _ _ _ (Nat.lt_succ_self _) (⟨Nat.zero_le _, (show fa_MS (v2553 398) from by rw [e2554, fa_u_k _ _ (by decide)]; exact hJ.1), fa_fr.rf⟩) (lv_sub hl [1, 0] rfl) HX2555
  · refine lv_bipush (v := (-6 : Int32)) hx hb dX7_undo_7 (by decide) ?_
    exact RET _ _ _ _ _ _ _ HX dX7_undo_9 (⟨rfl, ⟨⟨hJ, (show v 397 9 = v 397 9 from rfl)⟩, fa_fr.rf⟩⟩)
set_option maxHeartbeats 4000000 in
set_option maxRecDepth 100000 in
theorem r_add (l : Launch) (G : fa_G) (n : Nat) (hn : 406 ≤ n) (v : fa_V) (r : fa_R) (hM : fa_RM r) (hJ : fa_MJ v) (a1 : Int32) (a2 : Int32) : fa_MI l G n yX7_add cX7_add 3 (some .int) 8 [.ref (fa_B G + (397)), .int (a1), .int (a2)] v r (fa_voi r (fun x v1 => ((fa_MJ v1) ∧ (v1 397 9 = v 397 9)) ∧ (fa_fr (397) (405) v v1))) := by
  refine fa_startI (by decide +kernel) (Nat.le_of_ble_eq_true rfl) (fun p e s m args below meth c ls Q CX hl HX RET => ?_)
  have hl : lv_has ls 3 [(0, .ref (fa_B G + (397))), (1, .int (a1)), (2, .int (a2))] := hl
  have hx := CX.1.1
  have hb := CX.1.2.1
  have hS := hJ.1
  obtain ⟨n4, en4⟩ : ∃ m, m = fa_N (v 398 14) := ⟨_, rfl⟩
  obtain ⟨hn4, g4⟩ := hS.n4 en4
  obtain ⟨n5, en5⟩ : ∃ m, m = fa_N (v 398 15) := ⟨_, rfl⟩
  obtain ⟨hn5, g5⟩ := hS.n5 en5
  obtain ⟨n6, en6⟩ : ∃ m, m = fa_N (v 398 16) := ⟨_, rfl⟩
  obtain ⟨hn6, g6⟩ := hS.n6 en6
  obtain ⟨n10, hn10, g10⟩ := hJ.2.2.2.2.1
  obtain ⟨n9, hn9, g9⟩ := hJ.2.2.2.2.2
  refine lv_aload_n hx hb dX7_add_0 rfl (lv_at hl 0 rfl) ?_
  refine fa_callVvu (As := []) (rest := []) CX HX (r_hold l G n hn v r hM) ln_X7_102 (by omega) rfl rfl rfl rfl (Nat.le_of_ble_eq_true rfl) hl.1 ⟨Nat.le_of_ble_eq_true rfl, Nat.le_of_ble_eq_true rfl⟩ ⟨Nat.le_refl _, Nat.le_refl _⟩ dX7_add_1 (fun v2562 H locs h2561 HX2563 => ?_)
  have h_hold := h2561.1
  refine lv_aload_n hx hb dX7_add_4 rfl (lv_at hl 0 rfl) ?_
  refine lv_aload_n hx hb dX7_add_5 rfl (lv_at hl 0 rfl) ?_
  refine lv_iload_n hx hb dX7_add_6 rfl (lv_at hl 1 rfl) ?_
  refine lv_iload_n hx hb dX7_add_7 rfl (lv_at hl 2 rfl) ?_
  refine fa_callViu (As := [.int (a1), .int (a2)]) (rest := [.ref (fa_B G + (397))]) CX HX2563 (r_adds l G n hn v2562 r hM (show fa_MS (v2562 398) from by rw [h2561.2 398 (by omega)]; exact hJ.1) (a1) (a2)) ln_X7_105 (by omega) rfl rfl rfl rfl (Nat.le_of_ble_eq_true rfl) hl.1 ⟨Nat.le_of_ble_eq_true rfl, Nat.le_of_ble_eq_true rfl⟩ ⟨Nat.le_refl _, Nat.le_refl _⟩ dX7_add_8 (fun x2565 v2566 H locs h2564 HX2567 => ?_)
  have hS_v2566 := h2564.1.1
  refine fa_callViu (As := [.int (x2565)]) (rest := []) CX HX2567 (r_recorded l G n hn v2566 r hM (show fa_MJ v2566 from ⟨hS_v2566, (show fa_MS (v2566 399) from by rw [h2564.2 399 (by omega)]; exact (fa_MS.cp hJ.1 h2561.1)), (show fa_MS (v2566 400) from by rw [h2564.2 400 (by omega)]; exact (show fa_MS (v2562 400) from by rw [h2561.2 400 (by omega)]; exact hJ.2.2.1)), (show fa_MB (v2566 401) from by rw [h2564.2 401 (by omega)]; exact (show fa_MB (v2562 401) from by rw [h2561.2 401 (by omega)]; exact hJ.2.2.2.1)), ⟨n10, by omega, (by rw [h2564.2 _ (by omega)]; exact (by rw [h2561.2 _ (by omega)]; exact g10))⟩, ⟨n9, by omega, (by rw [h2564.2 _ (by omega)]; exact (by rw [h2561.2 _ (by omega)]; exact g9))⟩⟩) (x2565)) ln_X7_109 (by omega) rfl rfl rfl rfl (Nat.le_of_ble_eq_true rfl) hl.1 ⟨Nat.le_of_ble_eq_true rfl, Nat.le_of_ble_eq_true rfl⟩ ⟨Nat.le_refl _, Nat.le_refl _⟩ dX7_add_11 (fun x2569 v2570 H locs h2568 HX2571 => ?_)
  have hJ_v2570 := h2568.1.1
  obtain ⟨n10_v2570, hn10_v2570, g10_v2570⟩ := hJ_v2570.2.2.2.2.1
  exact RET _ _ _ _ _ _ _ HX2571 dX7_add_14 (⟨rfl, ⟨⟨hJ_v2570, (show v2570 397 9 = v 397 9 from ((show v2570 397 9 = nI (n9) from ((h2568.1.2).trans (by rw [h2564.2 _ (by omega)]; exact (by rw [h2561.2 _ (by omega)]; exact g9)))).trans g9.symm))⟩, (fa_fr.tr (fa_fr.tr (fa_fr.tr fa_fr.rf (fa_fr.wide h2561.2 (by omega) (by omega))) (fa_fr.wide h2564.2 (by omega) (by omega))) (fa_fr.wide h2568.2 (by omega) (by omega)))⟩⟩)
set_option maxHeartbeats 4000000 in
set_option maxRecDepth 100000 in
theorem r_ask (l : Launch) (G : fa_G) (n : Nat) (hn : 406 ≤ n) (v : fa_V) (r : fa_R) (hM : fa_RM r) (hJ : fa_MJ v) (a1 : Int32) : fa_MI l G n yX7_ask cX7_ask 2 (some .int) 8 [.ref (fa_B G + (397)), .int (a1)] v r (fa_voi r (fun x v1 => ((fa_MJ v1) ∧ (v1 397 9 = v 397 9)) ∧ (fa_fr (397) (405) v v1))) := by
  refine fa_startI (by decide +kernel) (Nat.le_of_ble_eq_true rfl) (fun p e s m args below meth c ls Q CX hl HX RET => ?_)
  have hl : lv_has ls 2 [(0, .ref (fa_B G + (397))), (1, .int (a1))] := hl
  have hx := CX.1.1
  have hb := CX.1.2.1
  have hS := hJ.1
  obtain ⟨n4, en4⟩ : ∃ m, m = fa_N (v 398 14) := ⟨_, rfl⟩
  obtain ⟨hn4, g4⟩ := hS.n4 en4
  obtain ⟨n5, en5⟩ : ∃ m, m = fa_N (v 398 15) := ⟨_, rfl⟩
  obtain ⟨hn5, g5⟩ := hS.n5 en5
  obtain ⟨n6, en6⟩ : ∃ m, m = fa_N (v 398 16) := ⟨_, rfl⟩
  obtain ⟨hn6, g6⟩ := hS.n6 en6
  obtain ⟨n10, hn10, g10⟩ := hJ.2.2.2.2.1
  obtain ⟨n9, hn9, g9⟩ := hJ.2.2.2.2.2
  refine lv_aload_n hx hb dX7_ask_0 rfl (lv_at hl 0 rfl) ?_
  refine fa_callVvu (As := []) (rest := []) CX HX (r_hold l G n hn v r hM) ln_X7_102 (by omega) rfl rfl rfl rfl (Nat.le_of_ble_eq_true rfl) hl.1 ⟨Nat.le_of_ble_eq_true rfl, Nat.le_of_ble_eq_true rfl⟩ ⟨Nat.le_refl _, Nat.le_refl _⟩ dX7_ask_1 (fun v2573 H locs h2572 HX2574 => ?_)
  have h_hold := h2572.1
  refine lv_aload_n hx hb dX7_ask_4 rfl (lv_at hl 0 rfl) ?_
  refine lv_aload_n hx hb dX7_ask_5 rfl (lv_at hl 0 rfl) ?_
  refine lv_iload_n hx hb dX7_ask_6 rfl (lv_at hl 1 rfl) ?_
  refine fa_callViu (As := [.int (a1)]) (rest := [.ref (fa_B G + (397))]) CX HX2574 (r_asksFor l G n hn v2573 r hM (show fa_MS (v2573 398) from by rw [h2572.2 398 (by omega)]; exact hJ.1) (a1)) ln_X7_112 (by omega) rfl rfl rfl rfl (Nat.le_of_ble_eq_true rfl) hl.1 ⟨Nat.le_of_ble_eq_true rfl, Nat.le_of_ble_eq_true rfl⟩ ⟨Nat.le_refl _, Nat.le_refl _⟩ dX7_ask_7 (fun x2576 v2577 H locs h2575 HX2578 => ?_)
  have hS_v2577 := h2575.1.1
  refine fa_callViu (As := [.int (x2576)]) (rest := []) CX HX2578 (r_recorded l G n hn v2577 r hM (show fa_MJ v2577 from ⟨hS_v2577, (show fa_MS (v2577 399) from by rw [h2575.2 399 (by omega)]; exact (fa_MS.cp hJ.1 h2572.1)), (show fa_MS (v2577 400) from by rw [h2575.2 400 (by omega)]; exact (show fa_MS (v2573 400) from by rw [h2572.2 400 (by omega)]; exact hJ.2.2.1)), (show fa_MB (v2577 401) from by rw [h2575.2 401 (by omega)]; exact (show fa_MB (v2573 401) from by rw [h2572.2 401 (by omega)]; exact hJ.2.2.2.1)), ⟨n10, by omega, (by rw [h2575.2 _ (by omega)]; exact (by rw [h2572.2 _ (by omega)]; exact g10))⟩, ⟨n9, by omega, (by rw [h2575.2 _ (by omega)]; exact (by rw [h2572.2 _ (by omega)]; exact g9))⟩⟩) (x2576)) ln_X7_109 (by omega) rfl rfl rfl rfl (Nat.le_of_ble_eq_true rfl) hl.1 ⟨Nat.le_of_ble_eq_true rfl, Nat.le_of_ble_eq_true rfl⟩ ⟨Nat.le_refl _, Nat.le_refl _⟩ dX7_ask_10 (fun x2580 v2581 H locs h2579 HX2582 => ?_)
  have hJ_v2581 := h2579.1.1
  obtain ⟨n10_v2581, hn10_v2581, g10_v2581⟩ := hJ_v2581.2.2.2.2.1
  exact RET _ _ _ _ _ _ _ HX2582 dX7_ask_13 (⟨rfl, ⟨⟨hJ_v2581, (show v2581 397 9 = v 397 9 from ((show v2581 397 9 = nI (n9) from ((h2579.1.2).trans (by rw [h2575.2 _ (by omega)]; exact (by rw [h2572.2 _ (by omega)]; exact g9)))).trans g9.symm))⟩, (fa_fr.tr (fa_fr.tr (fa_fr.tr fa_fr.rf (fa_fr.wide h2572.2 (by omega) (by omega))) (fa_fr.wide h2575.2 (by omega) (by omega))) (fa_fr.wide h2579.2 (by omega) (by omega)))⟩⟩)
set_option maxHeartbeats 4000000 in
set_option maxRecDepth 100000 in
theorem r_seal (l : Launch) (G : fa_G) (n : Nat) (hn : 406 ≤ n) (v : fa_V) (r : fa_R) (hM : fa_RM r) (hJ : fa_MJ v) (a1 : Int32) (a2 : Int32) (a3 : Int32) : fa_MI l G n yX7_seal cX7_seal 4 (some .int) 8 [.ref (fa_B G + (397)), .int (a1), .int (a2), .int (a3)] v r (fa_voi r (fun x v1 => ((fa_MJ v1) ∧ (v1 397 9 = v 397 9)) ∧ (fa_fr (397) (405) v v1))) := by
  refine fa_startI (by decide +kernel) (Nat.le_of_ble_eq_true rfl) (fun p e s m args below meth c ls Q CX hl HX RET => ?_)
  have hl : lv_has ls 4 [(0, .ref (fa_B G + (397))), (1, .int (a1)), (2, .int (a2)), (3, .int (a3))] := hl
  have hx := CX.1.1
  have hb := CX.1.2.1
  have hS := hJ.1
  obtain ⟨n4, en4⟩ : ∃ m, m = fa_N (v 398 14) := ⟨_, rfl⟩
  obtain ⟨hn4, g4⟩ := hS.n4 en4
  obtain ⟨n5, en5⟩ : ∃ m, m = fa_N (v 398 15) := ⟨_, rfl⟩
  obtain ⟨hn5, g5⟩ := hS.n5 en5
  obtain ⟨n6, en6⟩ : ∃ m, m = fa_N (v 398 16) := ⟨_, rfl⟩
  obtain ⟨hn6, g6⟩ := hS.n6 en6
  obtain ⟨n10, hn10, g10⟩ := hJ.2.2.2.2.1
  obtain ⟨n9, hn9, g9⟩ := hJ.2.2.2.2.2
  refine lv_aload_n hx hb dX7_seal_0 rfl (lv_at hl 0 rfl) ?_
  refine fa_callVvu (As := []) (rest := []) CX HX (r_hold l G n hn v r hM) ln_X7_102 (by omega) rfl rfl rfl rfl (Nat.le_of_ble_eq_true rfl) hl.1 ⟨Nat.le_of_ble_eq_true rfl, Nat.le_of_ble_eq_true rfl⟩ ⟨Nat.le_refl _, Nat.le_refl _⟩ dX7_seal_1 (fun v2584 H locs h2583 HX2585 => ?_)
  have h_hold := h2583.1
  refine lv_aload_n hx hb dX7_seal_4 rfl (lv_at hl 0 rfl) ?_
  refine lv_aload_n hx hb dX7_seal_5 rfl (lv_at hl 0 rfl) ?_
  refine lv_iload_n hx hb dX7_seal_6 rfl (lv_at hl 1 rfl) ?_
  refine lv_iload_n hx hb dX7_seal_7 rfl (lv_at hl 2 rfl) ?_
  refine lv_iload_n hx hb dX7_seal_8 rfl (lv_at hl 3 rfl) ?_
  refine fa_callViu (As := [.int (a1), .int (a2), .int (a3)]) (rest := [.ref (fa_B G + (397))]) CX HX2585 (r_seals l G n hn v2584 r hM (show fa_MS (v2584 398) from by rw [h2583.2 398 (by omega)]; exact hJ.1) (a1) (a2) (a3)) ln_X7_115 (by omega) rfl rfl rfl rfl (Nat.le_of_ble_eq_true rfl) hl.1 ⟨Nat.le_of_ble_eq_true rfl, Nat.le_of_ble_eq_true rfl⟩ ⟨Nat.le_refl _, Nat.le_refl _⟩ dX7_seal_9 (fun x2587 v2588 H locs h2586 HX2589 => ?_)
  have hS_v2588 := h2586.1.1
  refine fa_callViu (As := [.int (x2587)]) (rest := []) CX HX2589 (r_recorded l G n hn v2588 r hM (show fa_MJ v2588 from ⟨hS_v2588, (show fa_MS (v2588 399) from by rw [h2586.2 399 (by omega)]; exact (fa_MS.cp hJ.1 h2583.1)), (show fa_MS (v2588 400) from by rw [h2586.2 400 (by omega)]; exact (show fa_MS (v2584 400) from by rw [h2583.2 400 (by omega)]; exact hJ.2.2.1)), (show fa_MB (v2588 401) from by rw [h2586.2 401 (by omega)]; exact (show fa_MB (v2584 401) from by rw [h2583.2 401 (by omega)]; exact hJ.2.2.2.1)), ⟨n10, by omega, (by rw [h2586.2 _ (by omega)]; exact (by rw [h2583.2 _ (by omega)]; exact g10))⟩, ⟨n9, by omega, (by rw [h2586.2 _ (by omega)]; exact (by rw [h2583.2 _ (by omega)]; exact g9))⟩⟩) (x2587)) ln_X7_109 (by omega) rfl rfl rfl rfl (Nat.le_of_ble_eq_true rfl) hl.1 ⟨Nat.le_of_ble_eq_true rfl, Nat.le_of_ble_eq_true rfl⟩ ⟨Nat.le_refl _, Nat.le_refl _⟩ dX7_seal_12 (fun x2591 v2592 H locs h2590 HX2593 => ?_)
  have hJ_v2592 := h2590.1.1
  obtain ⟨n10_v2592, hn10_v2592, g10_v2592⟩ := hJ_v2592.2.2.2.2.1
  exact RET _ _ _ _ _ _ _ HX2593 dX7_seal_15 (⟨rfl, ⟨⟨hJ_v2592, (show v2592 397 9 = v 397 9 from ((show v2592 397 9 = nI (n9) from ((h2590.1.2).trans (by rw [h2586.2 _ (by omega)]; exact (by rw [h2583.2 _ (by omega)]; exact g9)))).trans g9.symm))⟩, (fa_fr.tr (fa_fr.tr (fa_fr.tr fa_fr.rf (fa_fr.wide h2583.2 (by omega) (by omega))) (fa_fr.wide h2586.2 (by omega) (by omega))) (fa_fr.wide h2590.2 (by omega) (by omega)))⟩⟩)
set_option maxHeartbeats 4000000 in
set_option maxRecDepth 100000 in
theorem r_lift (l : Launch) (G : fa_G) (n : Nat) (hn : 406 ≤ n) (v : fa_V) (r : fa_R) (hM : fa_RM r) (hJ : fa_MJ v) (a1 : Int32) (a2 : Int32) : fa_MI l G n yX7_lift cX7_lift 3 (some .int) 8 [.ref (fa_B G + (397)), .int (a1), .int (a2)] v r (fa_voi r (fun x v1 => ((fa_MJ v1) ∧ (v1 397 9 = v 397 9)) ∧ (fa_fr (397) (405) v v1))) := by
  refine fa_startI (by decide +kernel) (Nat.le_of_ble_eq_true rfl) (fun p e s m args below meth c ls Q CX hl HX RET => ?_)
  have hl : lv_has ls 3 [(0, .ref (fa_B G + (397))), (1, .int (a1)), (2, .int (a2))] := hl
  have hx := CX.1.1
  have hb := CX.1.2.1
  have hS := hJ.1
  obtain ⟨n4, en4⟩ : ∃ m, m = fa_N (v 398 14) := ⟨_, rfl⟩
  obtain ⟨hn4, g4⟩ := hS.n4 en4
  obtain ⟨n5, en5⟩ : ∃ m, m = fa_N (v 398 15) := ⟨_, rfl⟩
  obtain ⟨hn5, g5⟩ := hS.n5 en5
  obtain ⟨n6, en6⟩ : ∃ m, m = fa_N (v 398 16) := ⟨_, rfl⟩
  obtain ⟨hn6, g6⟩ := hS.n6 en6
  obtain ⟨n10, hn10, g10⟩ := hJ.2.2.2.2.1
  obtain ⟨n9, hn9, g9⟩ := hJ.2.2.2.2.2
  refine lv_aload_n hx hb dX7_lift_0 rfl (lv_at hl 0 rfl) ?_
  refine fa_callVvu (As := []) (rest := []) CX HX (r_hold l G n hn v r hM) ln_X7_102 (by omega) rfl rfl rfl rfl (Nat.le_of_ble_eq_true rfl) hl.1 ⟨Nat.le_of_ble_eq_true rfl, Nat.le_of_ble_eq_true rfl⟩ ⟨Nat.le_refl _, Nat.le_refl _⟩ dX7_lift_1 (fun v2595 H locs h2594 HX2596 => ?_)
  have h_hold := h2594.1
  refine lv_aload_n hx hb dX7_lift_4 rfl (lv_at hl 0 rfl) ?_
  refine lv_aload_n hx hb dX7_lift_5 rfl (lv_at hl 0 rfl) ?_
  refine lv_iload_n hx hb dX7_lift_6 rfl (lv_at hl 1 rfl) ?_
  refine lv_iload_n hx hb dX7_lift_7 rfl (lv_at hl 2 rfl) ?_
  refine fa_callViu (As := [.int (a1), .int (a2)]) (rest := [.ref (fa_B G + (397))]) CX HX2596 (r_lifts l G n hn v2595 r hM (show fa_MS (v2595 398) from by rw [h2594.2 398 (by omega)]; exact hJ.1) (a1) (a2)) ln_X7_119 (by omega) rfl rfl rfl rfl (Nat.le_of_ble_eq_true rfl) hl.1 ⟨Nat.le_of_ble_eq_true rfl, Nat.le_of_ble_eq_true rfl⟩ ⟨Nat.le_refl _, Nat.le_refl _⟩ dX7_lift_8 (fun x2598 v2599 H locs h2597 HX2600 => ?_)
  have hS_v2599 := h2597.1.1
  refine fa_callViu (As := [.int (x2598)]) (rest := []) CX HX2600 (r_recorded l G n hn v2599 r hM (show fa_MJ v2599 from ⟨hS_v2599, (show fa_MS (v2599 399) from by rw [h2597.2 399 (by omega)]; exact (fa_MS.cp hJ.1 h2594.1)), (show fa_MS (v2599 400) from by rw [h2597.2 400 (by omega)]; exact (show fa_MS (v2595 400) from by rw [h2594.2 400 (by omega)]; exact hJ.2.2.1)), (show fa_MB (v2599 401) from by rw [h2597.2 401 (by omega)]; exact (show fa_MB (v2595 401) from by rw [h2594.2 401 (by omega)]; exact hJ.2.2.2.1)), ⟨n10, by omega, (by rw [h2597.2 _ (by omega)]; exact (by rw [h2594.2 _ (by omega)]; exact g10))⟩, ⟨n9, by omega, (by rw [h2597.2 _ (by omega)]; exact (by rw [h2594.2 _ (by omega)]; exact g9))⟩⟩) (x2598)) ln_X7_109 (by omega) rfl rfl rfl rfl (Nat.le_of_ble_eq_true rfl) hl.1 ⟨Nat.le_of_ble_eq_true rfl, Nat.le_of_ble_eq_true rfl⟩ ⟨Nat.le_refl _, Nat.le_refl _⟩ dX7_lift_11 (fun x2602 v2603 H locs h2601 HX2604 => ?_)
  have hJ_v2603 := h2601.1.1
  obtain ⟨n10_v2603, hn10_v2603, g10_v2603⟩ := hJ_v2603.2.2.2.2.1
  exact RET _ _ _ _ _ _ _ HX2604 dX7_lift_14 (⟨rfl, ⟨⟨hJ_v2603, (show v2603 397 9 = v 397 9 from ((show v2603 397 9 = nI (n9) from ((h2601.1.2).trans (by rw [h2597.2 _ (by omega)]; exact (by rw [h2594.2 _ (by omega)]; exact g9)))).trans g9.symm))⟩, (fa_fr.tr (fa_fr.tr (fa_fr.tr fa_fr.rf (fa_fr.wide h2594.2 (by omega) (by omega))) (fa_fr.wide h2597.2 (by omega) (by omega))) (fa_fr.wide h2601.2 (by omega) (by omega)))⟩⟩)
set_option maxHeartbeats 4000000 in
set_option maxRecDepth 100000 in
theorem r_refer (l : Launch) (G : fa_G) (n : Nat) (hn : 406 ≤ n) (v : fa_V) (r : fa_R) (hM : fa_RM r) (hJ : fa_MJ v) (a1 : Int32) (a2 : Int32) : fa_MI l G n yX7_refer cX7_refer 3 (some .int) 8 [.ref (fa_B G + (397)), .int (a1), .int (a2)] v r (fa_voi r (fun x v1 => ((fa_MJ v1) ∧ (v1 397 9 = v 397 9)) ∧ (fa_fr (397) (405) v v1))) := by
  refine fa_startI (by decide +kernel) (Nat.le_of_ble_eq_true rfl) (fun p e s m args below meth c ls Q CX hl HX RET => ?_)
  have hl : lv_has ls 3 [(0, .ref (fa_B G + (397))), (1, .int (a1)), (2, .int (a2))] := hl
  have hx := CX.1.1
  have hb := CX.1.2.1
  have hS := hJ.1
  obtain ⟨n4, en4⟩ : ∃ m, m = fa_N (v 398 14) := ⟨_, rfl⟩
  obtain ⟨hn4, g4⟩ := hS.n4 en4
  obtain ⟨n5, en5⟩ : ∃ m, m = fa_N (v 398 15) := ⟨_, rfl⟩
  obtain ⟨hn5, g5⟩ := hS.n5 en5
  obtain ⟨n6, en6⟩ : ∃ m, m = fa_N (v 398 16) := ⟨_, rfl⟩
  obtain ⟨hn6, g6⟩ := hS.n6 en6
  obtain ⟨n10, hn10, g10⟩ := hJ.2.2.2.2.1
  obtain ⟨n9, hn9, g9⟩ := hJ.2.2.2.2.2
  refine lv_aload_n hx hb dX7_refer_0 rfl (lv_at hl 0 rfl) ?_
  refine fa_callVvu (As := []) (rest := []) CX HX (r_hold l G n hn v r hM) ln_X7_102 (by omega) rfl rfl rfl rfl (Nat.le_of_ble_eq_true rfl) hl.1 ⟨Nat.le_of_ble_eq_true rfl, Nat.le_of_ble_eq_true rfl⟩ ⟨Nat.le_refl _, Nat.le_refl _⟩ dX7_refer_1 (fun v2606 H locs h2605 HX2607 => ?_)
  have h_hold := h2605.1
  refine lv_aload_n hx hb dX7_refer_4 rfl (lv_at hl 0 rfl) ?_
  refine lv_aload_n hx hb dX7_refer_5 rfl (lv_at hl 0 rfl) ?_
  refine lv_iload_n hx hb dX7_refer_6 rfl (lv_at hl 1 rfl) ?_
  refine lv_iload_n hx hb dX7_refer_7 rfl (lv_at hl 2 rfl) ?_
  refine fa_callViu (As := [.int (a1), .int (a2)]) (rest := [.ref (fa_B G + (397))]) CX HX2607 (r_refers l G n hn v2606 r hM (show fa_MS (v2606 398) from by rw [h2605.2 398 (by omega)]; exact hJ.1) (a1) (a2)) ln_X7_122 (by omega) rfl rfl rfl rfl (Nat.le_of_ble_eq_true rfl) hl.1 ⟨Nat.le_of_ble_eq_true rfl, Nat.le_of_ble_eq_true rfl⟩ ⟨Nat.le_refl _, Nat.le_refl _⟩ dX7_refer_8 (fun x2609 v2610 H locs h2608 HX2611 => ?_)
  have hS_v2610 := h2608.1.1
  refine fa_callViu (As := [.int (x2609)]) (rest := []) CX HX2611 (r_recorded l G n hn v2610 r hM (show fa_MJ v2610 from ⟨hS_v2610, (show fa_MS (v2610 399) from by rw [h2608.2 399 (by omega)]; exact (fa_MS.cp hJ.1 h2605.1)), (show fa_MS (v2610 400) from by rw [h2608.2 400 (by omega)]; exact (show fa_MS (v2606 400) from by rw [h2605.2 400 (by omega)]; exact hJ.2.2.1)), (show fa_MB (v2610 401) from by rw [h2608.2 401 (by omega)]; exact (show fa_MB (v2606 401) from by rw [h2605.2 401 (by omega)]; exact hJ.2.2.2.1)), ⟨n10, by omega, (by rw [h2608.2 _ (by omega)]; exact (by rw [h2605.2 _ (by omega)]; exact g10))⟩, ⟨n9, by omega, (by rw [h2608.2 _ (by omega)]; exact (by rw [h2605.2 _ (by omega)]; exact g9))⟩⟩) (x2609)) ln_X7_109 (by omega) rfl rfl rfl rfl (Nat.le_of_ble_eq_true rfl) hl.1 ⟨Nat.le_of_ble_eq_true rfl, Nat.le_of_ble_eq_true rfl⟩ ⟨Nat.le_refl _, Nat.le_refl _⟩ dX7_refer_11 (fun x2613 v2614 H locs h2612 HX2615 => ?_)
  have hJ_v2614 := h2612.1.1
  obtain ⟨n10_v2614, hn10_v2614, g10_v2614⟩ := hJ_v2614.2.2.2.2.1
  exact RET _ _ _ _ _ _ _ HX2615 dX7_refer_14 (⟨rfl, ⟨⟨hJ_v2614, (show v2614 397 9 = v 397 9 from ((show v2614 397 9 = nI (n9) from ((h2612.1.2).trans (by rw [h2608.2 _ (by omega)]; exact (by rw [h2605.2 _ (by omega)]; exact g9)))).trans g9.symm))⟩, (fa_fr.tr (fa_fr.tr (fa_fr.tr fa_fr.rf (fa_fr.wide h2605.2 (by omega) (by omega))) (fa_fr.wide h2608.2 (by omega) (by omega))) (fa_fr.wide h2612.2 (by omega) (by omega)))⟩⟩)
set_option maxHeartbeats 4000000 in
set_option maxRecDepth 100000 in
theorem r_pass (l : Launch) (G : fa_G) (n : Nat) (hn : 406 ≤ n) (v : fa_V) (r : fa_R) (hM : fa_RM r) (hJ : fa_MJ v) (a1 : Int32) : fa_MI l G n yX7_pass cX7_pass 2 (some .int) 10 [.ref (fa_B G + (397)), .int (a1)] v r (fa_voi r (fun x v1 => ((fa_MJ v1) ∧ (v1 397 9 = v 397 9)) ∧ (fa_fr (397) (405) v v1))) := by
  refine fa_startI (by decide +kernel) (Nat.le_of_ble_eq_true rfl) (fun p e s m args below meth c ls Q CX hl HX RET => ?_)
  have hl : lv_has ls 2 [(0, .ref (fa_B G + (397))), (1, .int (a1))] := hl
  have hx := CX.1.1
  have hb := CX.1.2.1
  have hS := hJ.1
  obtain ⟨n4, en4⟩ : ∃ m, m = fa_N (v 398 14) := ⟨_, rfl⟩
  obtain ⟨hn4, g4⟩ := hS.n4 en4
  obtain ⟨n5, en5⟩ : ∃ m, m = fa_N (v 398 15) := ⟨_, rfl⟩
  obtain ⟨hn5, g5⟩ := hS.n5 en5
  obtain ⟨n6, en6⟩ : ∃ m, m = fa_N (v 398 16) := ⟨_, rfl⟩
  obtain ⟨hn6, g6⟩ := hS.n6 en6
  obtain ⟨n10, hn10, g10⟩ := hJ.2.2.2.2.1
  obtain ⟨n9, hn9, g9⟩ := hJ.2.2.2.2.2
  refine lv_aload_n hx hb dX7_pass_0 rfl (lv_at hl 0 rfl) ?_
  refine fa_callVvu (As := []) (rest := []) CX HX (r_hold l G n hn v r hM) ln_X7_102 (by omega) rfl rfl rfl rfl (Nat.le_of_ble_eq_true rfl) hl.1 ⟨Nat.le_of_ble_eq_true rfl, Nat.le_of_ble_eq_true rfl⟩ ⟨Nat.le_refl _, Nat.le_refl _⟩ dX7_pass_1 (fun v2617 H locs h2616 HX2618 => ?_)
  have h_hold := h2616.1
  refine lv_aload_n hx hb dX7_pass_4 rfl (lv_at hl 0 rfl) ?_
  refine lv_aload_n hx hb dX7_pass_5 rfl (lv_at hl 0 rfl) ?_
  refine lv_iload_n hx hb dX7_pass_6 rfl (lv_at hl 1 rfl) ?_
  refine fa_callViu (As := [.int (a1)]) (rest := [.ref (fa_B G + (397))]) CX HX2618 (r_passes l G n hn v2617 r hM (show fa_MS (v2617 398) from by rw [h2616.2 398 (by omega)]; exact hJ.1) (a1)) ln_X7_128 (by omega) rfl rfl rfl rfl (Nat.le_of_ble_eq_true rfl) hl.1 ⟨Nat.le_of_ble_eq_true rfl, Nat.le_of_ble_eq_true rfl⟩ ⟨Nat.le_refl _, Nat.le_refl _⟩ dX7_pass_7 (fun x2620 v2621 H locs h2619 HX2622 => ?_)
  have hS_v2621 := h2619.1.1
  refine fa_callViu (As := [.int (x2620)]) (rest := []) CX HX2622 (r_recorded l G n hn v2621 r hM (show fa_MJ v2621 from ⟨hS_v2621, (show fa_MS (v2621 399) from by rw [h2619.1.2 399 (by decide) (by decide)]; exact (fa_MS.cp hJ.1 h2616.1)), (show fa_MS (v2621 400) from by rw [h2619.1.2 400 (by decide) (by decide)]; exact (show fa_MS (v2617 400) from by rw [h2616.2 400 (by omega)]; exact hJ.2.2.1)), (show fa_MB (v2621 401) from by rw [h2619.1.2 401 (by decide) (by decide)]; exact (show fa_MB (v2617 401) from by rw [h2616.2 401 (by omega)]; exact hJ.2.2.2.1)), ⟨n10, by omega, (by rw [h2619.2 _ (by omega)]; exact (by rw [h2616.2 _ (by omega)]; exact g10))⟩, ⟨n9, by omega, (by rw [h2619.2 _ (by omega)]; exact (by rw [h2616.2 _ (by omega)]; exact g9))⟩⟩) (x2620)) ln_X7_109 (by omega) rfl rfl rfl rfl (Nat.le_of_ble_eq_true rfl) hl.1 ⟨Nat.le_of_ble_eq_true rfl, Nat.le_of_ble_eq_true rfl⟩ ⟨Nat.le_refl _, Nat.le_refl _⟩ dX7_pass_10 (fun x2624 v2625 H locs h2623 HX2626 => ?_)
  have hJ_v2625 := h2623.1.1
  obtain ⟨n10_v2625, hn10_v2625, g10_v2625⟩ := hJ_v2625.2.2.2.2.1
  exact RET _ _ _ _ _ _ _ HX2626 dX7_pass_13 (⟨rfl, ⟨⟨hJ_v2625, (show v2625 397 9 = v 397 9 from ((show v2625 397 9 = nI (n9) from ((h2623.1.2).trans (by rw [h2619.2 _ (by omega)]; exact (by rw [h2616.2 _ (by omega)]; exact g9)))).trans g9.symm))⟩, (fa_fr.tr (fa_fr.tr (fa_fr.tr fa_fr.rf (fa_fr.wide h2616.2 (by omega) (by omega))) (fa_fr.wide h2619.2 (by omega) (by omega))) (fa_fr.wide h2623.2 (by omega) (by omega)))⟩⟩)
set_option maxHeartbeats 4000000 in
set_option maxRecDepth 100000 in
theorem r_reserve (l : Launch) (G : fa_G) (n : Nat) (hn : 406 ≤ n) (v : fa_V) (r : fa_R) (hM : fa_RM r) (hJ : fa_MJ v) (a1 : Int32) (a2 : Int32) : fa_MI l G n yX7_reserve cX7_reserve 3 (some .int) 8 [.ref (fa_B G + (397)), .int (a1), .int (a2)] v r (fa_voi r (fun x v1 => ((fa_MJ v1) ∧ (v1 397 9 = v 397 9)) ∧ (fa_fr (397) (405) v v1))) := by
  refine fa_startI (by decide +kernel) (Nat.le_of_ble_eq_true rfl) (fun p e s m args below meth c ls Q CX hl HX RET => ?_)
  have hl : lv_has ls 3 [(0, .ref (fa_B G + (397))), (1, .int (a1)), (2, .int (a2))] := hl
  have hx := CX.1.1
  have hb := CX.1.2.1
  have hS := hJ.1
  obtain ⟨n4, en4⟩ : ∃ m, m = fa_N (v 398 14) := ⟨_, rfl⟩
  obtain ⟨hn4, g4⟩ := hS.n4 en4
  obtain ⟨n5, en5⟩ : ∃ m, m = fa_N (v 398 15) := ⟨_, rfl⟩
  obtain ⟨hn5, g5⟩ := hS.n5 en5
  obtain ⟨n6, en6⟩ : ∃ m, m = fa_N (v 398 16) := ⟨_, rfl⟩
  obtain ⟨hn6, g6⟩ := hS.n6 en6
  obtain ⟨n10, hn10, g10⟩ := hJ.2.2.2.2.1
  obtain ⟨n9, hn9, g9⟩ := hJ.2.2.2.2.2
  refine lv_aload_n hx hb dX7_reserve_0 rfl (lv_at hl 0 rfl) ?_
  refine lv_iload_n hx hb dX7_reserve_1 rfl (lv_at hl 1 rfl) ?_
  refine fa_callVip (As := [.int (a1)]) (rest := []) CX HX (r_placeOf l G n hn v r hM hJ.1 (a1)) ln_X7_60 (by omega) rfl rfl rfl rfl (Nat.le_of_ble_eq_true rfl) hl.1 ⟨Nat.le_of_ble_eq_true rfl, Nat.le_of_ble_eq_true rfl⟩ ⟨Nat.le_refl _, Nat.le_refl _⟩ dX7_reserve_2 (fun x2628 H locs h2627 HX2629 => ?_)
  have h_pl2 := h2627
  refine lv_iconst (v := (-1 : Int32)) hx hb dX7_reserve_5 (by decide) ?_
  refine lv_icmp_ne (tgt := 11) hx hb dX7_reserve_6 (by decide) (fun c_6 => ?_) (fun c_6 => ?_)
  · refine lv_iload_n hx hb dX7_reserve_11 rfl (lv_at hl 2 rfl) ?_
    refine lv_aload_n hx hb dX7_reserve_12 rfl (lv_at hl 0 rfl) ?_
    refine fa_getr (k := 397) (j := 398) CX HX2629 fl_X7_7 (by omega) rfl rfl hM.1 dX7_reserve_13 ?_
    refine lv_bipush (v := nI (7)) hx hb dX7_reserve_16 (by decide) ?_
    refine fa_iald (k := 398) (j := 7) CX HX2629 (by omega) rfl (by omega) (by first | decide | assumption) dX7_reserve_18 ?_
    refine lv_iconst (v := nI (1)) hx hb dX7_reserve_19 (by decide) ?_
    refine lv_iadd hx hb dX7_reserve_20 ?_
    refine lv_sipush (v := nI (9999)) hx hb dX7_reserve_21 (by decide) ?_
    refine fa_callSip (As := [.int (a2), .int ((v 398 7) + (nI (1))), .int (nI (9999))]) (rest := []) CX HX2629 (r_in l G n v r (a2) ((v 398 7) + (nI (1))) (nI (9999))) ln_X7_86 rfl rfl (Nat.le_of_ble_eq_true rfl) hl.1 ⟨Nat.le_of_ble_eq_true rfl, Nat.le_of_ble_eq_true rfl⟩ ⟨Nat.le_refl _, Nat.le_refl _⟩ dX7_reserve_24 (fun x2631 H locs h2630 HX2632 => ?_)
    have h_in_24 := h2630
    refine lv_if_ne (tgt := 33) hx hb dX7_reserve_27 (by decide) (fun c_27 => ?_) (fun c_27 => ?_)
    · refine lv_aload_n hx hb dX7_reserve_33 rfl (lv_at hl 0 rfl) ?_
      refine lv_iload_n hx hb dX7_reserve_34 rfl (lv_at hl 1 rfl) ?_
      refine lv_iload_n hx hb dX7_reserve_35 rfl (lv_at hl 2 rfl) ?_
      refine fa_callVip (As := [.int (a1), .int (a2)]) (rest := []) CX HX2632 (r_find l G n hn v r hM hJ.1 (a1) (a2)) ln_X7_125 (by omega) rfl rfl rfl rfl (Nat.le_of_ble_eq_true rfl) hl.1 ⟨Nat.le_of_ble_eq_true rfl, Nat.le_of_ble_eq_true rfl⟩ ⟨Nat.le_refl _, Nat.le_refl _⟩ dX7_reserve_36 (fun x2634 H locs h2633 HX2635 => ?_)
      have h_pl36 := h2633
      refine lv_iconst (v := (-1 : Int32)) hx hb dX7_reserve_39 (by decide) ?_
      refine lv_icmp_eq (tgt := 46) hx hb dX7_reserve_40 (by decide) (fun c_40 => ?_) (fun c_40 => ?_)
      · refine lv_aload_n hx hb dX7_reserve_46 rfl (lv_at hl 0 rfl) ?_
        refine fa_getr (k := 397) (j := 398) CX HX2635 fl_X7_7 (by omega) rfl rfl hM.1 dX7_reserve_47 ?_
        refine lv_bipush (v := nI (15)) hx hb dX7_reserve_50 (by decide) ?_
        refine fa_iald (k := 398) (j := 15) CX HX2635 (by omega) rfl (by omega) (by first | decide | assumption) dX7_reserve_52 ?_
        rw [show v 398 15 = nI (n5) from g5]
        refine lv_bipush (v := nI (8)) hx hb dX7_reserve_53 (by decide) ?_
        refine lv_icmp_ne (tgt := 61) hx hb dX7_reserve_55 (by decide) (fun c_55 => ?_) (fun c_55 => ?_)
        · have hne : ¬ n5 = 8 := fun z => c_55 (by rw [z])
          refine lv_aload_n hx hb dX7_reserve_61 rfl (lv_at hl 0 rfl) ?_
          refine fa_callVvu (As := []) (rest := []) CX HX2635 (r_hold l G n hn v r hM) ln_X7_102 (by omega) rfl rfl rfl rfl (Nat.le_of_ble_eq_true rfl) hl.1 ⟨Nat.le_of_ble_eq_true rfl, Nat.le_of_ble_eq_true rfl⟩ ⟨Nat.le_refl _, Nat.le_refl _⟩ dX7_reserve_62 (fun v2637 H locs h2636 HX2638 => ?_)
          have h_hold := h2636.1
          refine lv_aload_n hx hb dX7_reserve_65 rfl (lv_at hl 0 rfl) ?_
          refine fa_getr (k := 397) (j := 398) CX HX2638 fl_X7_7 (by omega) rfl rfl hM.1 dX7_reserve_66 ?_
          refine lv_sipush (v := nI (377)) hx hb dX7_reserve_69 (by decide) ?_
          refine lv_iconst (v := nI (2)) hx hb dX7_reserve_72 (by decide) ?_
          refine lv_aload_n hx hb dX7_reserve_73 rfl (lv_at hl 0 rfl) ?_
          refine fa_getr (k := 397) (j := 398) CX HX2638 fl_X7_7 (by omega) rfl rfl hM.1 dX7_reserve_74 ?_
          refine lv_bipush (v := nI (15)) hx hb dX7_reserve_77 (by decide) ?_
          refine fa_iald (k := 398) (j := 15) CX HX2638 (by omega) rfl (by omega) (by first | decide | assumption) dX7_reserve_79 ?_
          rw [show v2637 398 15 = nI (n5) from (by rw [h2636.2 _ (by omega)]; exact g5)]
          refine fa_imulN hx hb dX7_reserve_80 ?_
          refine fa_iaddN hx hb dX7_reserve_81 ?_
          refine lv_iload_n hx hb dX7_reserve_82 rfl (lv_at hl 1 rfl) ?_
          refine fa_iast (k := 398) (j := 377 + (2 * n5)) CX HX2638 (by omega) rfl (by omega) (by first | decide | assumption) dX7_reserve_83 (fun H locs v2639 e2640 HX2641 => ?_)
          refine lv_aload_n hx hb dX7_reserve_84 rfl (lv_at hl 0 rfl) ?_
          refine fa_getr (k := 397) (j := 398) CX HX2641 fl_X7_7 (by omega) rfl rfl hM.1 dX7_reserve_85 ?_
          refine lv_sipush (v := nI (377)) hx hb dX7_reserve_88 (by decide) ?_
          refine lv_iconst (v := nI (2)) hx hb dX7_reserve_91 (by decide) ?_
          refine lv_aload_n hx hb dX7_reserve_92 rfl (lv_at hl 0 rfl) ?_
          refine fa_getr (k := 397) (j := 398) CX HX2641 fl_X7_7 (by omega) rfl rfl hM.1 dX7_reserve_93 ?_
          refine lv_bipush (v := nI (15)) hx hb dX7_reserve_96 (by decide) ?_
          refine fa_iald (k := 398) (j := 15) CX HX2641 (by omega) rfl (by omega) (by first | decide | assumption) dX7_reserve_98 ?_
          rw [show v2639 398 15 = nI (n5) from (by rw [e2640, fa_u_n _ _ (by omega)]; exact (by rw [h2636.2 _ (by omega)]; exact g5))]
          refine fa_imulN hx hb dX7_reserve_99 ?_
          refine fa_iaddN hx hb dX7_reserve_100 ?_
          refine lv_iconst (v := nI (1)) hx hb dX7_reserve_101 (by decide) ?_
          refine fa_iaddN hx hb dX7_reserve_102 ?_
          refine lv_iload_n hx hb dX7_reserve_103 rfl (lv_at hl 2 rfl) ?_
          refine fa_iast (k := 398) (j := 377 + (2 * n5) + 1) CX HX2641 (by omega) rfl (by omega) (by first | decide | assumption) dX7_reserve_104 (fun H locs v2642 e2643 HX2644 => ?_)
          refine lv_aload_n hx hb dX7_reserve_105 rfl (lv_at hl 0 rfl) ?_
          refine fa_getr (k := 397) (j := 398) CX HX2644 fl_X7_7 (by omega) rfl rfl hM.1 dX7_reserve_106 ?_
          refine lv_bipush (v := nI (15)) hx hb dX7_reserve_109 (by decide) ?_
          refine lv_dup2_11 hx hb dX7_reserve_111 rfl rfl ?_
          refine fa_iald (k := 398) (j := 15) CX HX2644 (by omega) rfl (by omega) (by first | decide | assumption) dX7_reserve_112 ?_
          rw [show v2642 398 15 = nI (n5) from (by rw [e2643, fa_u_n _ _ (by omega)]; exact (by rw [e2640, fa_u_n _ _ (by omega)]; exact (by rw [h2636.2 _ (by omega)]; exact g5)))]
          refine lv_iconst (v := nI (1)) hx hb dX7_reserve_113 (by decide) ?_
          refine fa_iaddN hx hb dX7_reserve_114 ?_
          refine fa_iast (k := 398) (j := 15) CX HX2644 (by omega) rfl (by omega) (by first | decide | assumption) dX7_reserve_115 (fun H locs v2645 e2646 HX2647 => ?_)
          refine lv_aload_n hx hb dX7_reserve_116 rfl (lv_at hl 0 rfl) ?_
          refine lv_aload_n hx hb dX7_reserve_117 rfl (lv_at hl 0 rfl) ?_
          refine fa_getr (k := 397) (j := 398) CX HX2647 fl_X7_7 (by omega) rfl rfl hM.1 dX7_reserve_118 ?_
          refine lv_bipush (v := nI (15)) hx hb dX7_reserve_121 (by decide) ?_
          refine fa_iald (k := 398) (j := 15) CX HX2647 (by omega) rfl (by omega) (by first | decide | assumption) dX7_reserve_123 ?_
          rw [show v2645 398 15 = nI (n5 + 1) from (by rw [e2646, fa_u_s])]
          refine fa_callViu (As := [.int (nI (n5 + 1))]) (rest := []) CX HX2647 (r_recorded l G n hn v2645 r hM (show fa_MJ v2645 from ⟨(show fa_MS (v2645 398) from by rw [e2646]; exact fa_MS.u (show fa_MS (v2642 398) from by rw [e2643]; exact fa_MS.u (show fa_MS (v2639 398) from by rw [e2640]; exact fa_MS.u (show fa_MS (v2637 398) from by rw [h2636.2 398 (by omega)]; exact hJ.1) (fa_ok.o (by omega) (by omega) (by omega) (fun p hp => by omega))) (fa_ok.o (by omega) (by omega) (by omega) (fun p hp => by omega))) (fa_ok.n15 (by omega))), (show fa_MS (v2645 399) from by rw [e2646, fa_u_k _ _ (by decide)]; exact (show fa_MS (v2642 399) from by rw [e2643, fa_u_k _ _ (by decide)]; exact (show fa_MS (v2639 399) from by rw [e2640, fa_u_k _ _ (by decide)]; exact (fa_MS.cp hJ.1 h2636.1)))), (show fa_MS (v2645 400) from by rw [e2646, fa_u_k _ _ (by decide)]; exact (show fa_MS (v2642 400) from by rw [e2643, fa_u_k _ _ (by decide)]; exact (show fa_MS (v2639 400) from by rw [e2640, fa_u_k _ _ (by decide)]; exact (show fa_MS (v2637 400) from by rw [h2636.2 400 (by omega)]; exact hJ.2.2.1)))), (show fa_MB (v2645 401) from by rw [e2646, fa_u_k _ _ (by decide)]; exact (show fa_MB (v2642 401) from by rw [e2643, fa_u_k _ _ (by decide)]; exact (show fa_MB (v2639 401) from by rw [e2640, fa_u_k _ _ (by decide)]; exact (show fa_MB (v2637 401) from by rw [h2636.2 401 (by omega)]; exact hJ.2.2.2.1)))), ⟨n10, by omega, (by rw [e2646, fa_u_n _ _ (by omega)]; exact (by rw [e2643, fa_u_n _ _ (by omega)]; exact (by rw [e2640, fa_u_n _ _ (by omega)]; exact (by rw [h2636.2 _ (by omega)]; exact g10))))⟩, ⟨n9, by omega, (by rw [e2646, fa_u_n _ _ (by omega)]; exact (by rw [e2643, fa_u_n _ _ (by omega)]; exact (by rw [e2640, fa_u_n _ _ (by omega)]; exact (by rw [h2636.2 _ (by omega)]; exact g9))))⟩⟩) (nI (n5 + 1))) ln_X7_109 (by omega) rfl rfl rfl rfl (Nat.le_of_ble_eq_true rfl) hl.1 ⟨Nat.le_of_ble_eq_true rfl, Nat.le_of_ble_eq_true rfl⟩ ⟨Nat.le_refl _, Nat.le_refl _⟩ dX7_reserve_124 (fun x2649 v2650 H locs h2648 HX2651 => ?_)
          have hJ_v2650 := h2648.1.1
          obtain ⟨n10_v2650, hn10_v2650, g10_v2650⟩ := hJ_v2650.2.2.2.2.1
          exact RET _ _ _ _ _ _ _ HX2651 dX7_reserve_127 (⟨rfl, ⟨⟨hJ_v2650, (show v2650 397 9 = v 397 9 from ((show v2650 397 9 = nI (n9) from ((h2648.1.2).trans (by rw [e2646, fa_u_n _ _ (by omega)]; exact (by rw [e2643, fa_u_n _ _ (by omega)]; exact (by rw [e2640, fa_u_n _ _ (by omega)]; exact (by rw [h2636.2 _ (by omega)]; exact g9)))))).trans g9.symm))⟩, (fa_fr.tr (by rw [e2646]; exact fa_fr.u (by rw [e2643]; exact fa_fr.u (by rw [e2640]; exact fa_fr.u (fa_fr.tr fa_fr.rf (fa_fr.wide h2636.2 (by omega) (by omega))) (by omega)) (by omega)) (by omega)) (fa_fr.wide h2648.2 (by omega) (by omega)))⟩⟩)
        · refine lv_bipush (v := (-4 : Int32)) hx hb dX7_reserve_58 (by decide) ?_
          exact RET _ _ _ _ _ _ _ HX2635 dX7_reserve_60 (⟨rfl, ⟨⟨hJ, (show v 397 9 = v 397 9 from rfl)⟩, fa_fr.rf⟩⟩)
      · refine lv_bipush (v := (-5 : Int32)) hx hb dX7_reserve_43 (by decide) ?_
        exact RET _ _ _ _ _ _ _ HX2635 dX7_reserve_45 (⟨rfl, ⟨⟨hJ, (show v 397 9 = v 397 9 from rfl)⟩, fa_fr.rf⟩⟩)
    · refine lv_bipush (v := (-2 : Int32)) hx hb dX7_reserve_30 (by decide) ?_
      exact RET _ _ _ _ _ _ _ HX2632 dX7_reserve_32 (⟨rfl, ⟨⟨hJ, (show v 397 9 = v 397 9 from rfl)⟩, fa_fr.rf⟩⟩)
  · refine lv_iconst (v := (-1 : Int32)) hx hb dX7_reserve_9 (by decide) ?_
    exact RET _ _ _ _ _ _ _ HX2629 dX7_reserve_10 (⟨rfl, ⟨⟨hJ, (show v 397 9 = v 397 9 from rfl)⟩, fa_fr.rf⟩⟩)
set_option maxHeartbeats 4000000 in
set_option maxRecDepth 100000 in
theorem r_cancel (l : Launch) (G : fa_G) (n : Nat) (hn : 406 ≤ n) (v : fa_V) (r : fa_R) (hM : fa_RM r) (hJ : fa_MJ v) (a1 : Int32) (a2 : Int32) : fa_MI l G n yX7_cancel cX7_cancel 4 (some .int) 8 [.ref (fa_B G + (397)), .int (a1), .int (a2)] v r (fa_voi r (fun x v1 => ((fa_MJ v1) ∧ (v1 397 9 = v 397 9)) ∧ (fa_fr (397) (405) v v1))) := by
  refine fa_startI (by decide +kernel) (Nat.le_of_ble_eq_true rfl) (fun p e s m args below meth c ls Q CX hl HX RET => ?_)
  have hl : lv_has ls 4 [(0, .ref (fa_B G + (397))), (1, .int (a1)), (2, .int (a2))] := hl
  have hx := CX.1.1
  have hb := CX.1.2.1
  have hS := hJ.1
  obtain ⟨n4, en4⟩ : ∃ m, m = fa_N (v 398 14) := ⟨_, rfl⟩
  obtain ⟨hn4, g4⟩ := hS.n4 en4
  obtain ⟨n5, en5⟩ : ∃ m, m = fa_N (v 398 15) := ⟨_, rfl⟩
  obtain ⟨hn5, g5⟩ := hS.n5 en5
  obtain ⟨n6, en6⟩ : ∃ m, m = fa_N (v 398 16) := ⟨_, rfl⟩
  obtain ⟨hn6, g6⟩ := hS.n6 en6
  obtain ⟨n10, hn10, g10⟩ := hJ.2.2.2.2.1
  obtain ⟨n9, hn9, g9⟩ := hJ.2.2.2.2.2
  refine lv_aload_n hx hb dX7_cancel_0 rfl (lv_at hl 0 rfl) ?_
  refine lv_iload_n hx hb dX7_cancel_1 rfl (lv_at hl 1 rfl) ?_
  refine lv_iload_n hx hb dX7_cancel_2 rfl (lv_at hl 2 rfl) ?_
  refine fa_callVip (As := [.int (a1), .int (a2)]) (rest := []) CX HX (r_find l G n hn v r hM hJ.1 (a1) (a2)) ln_X7_125 (by omega) rfl rfl rfl rfl (Nat.le_of_ble_eq_true rfl) hl.1 ⟨Nat.le_of_ble_eq_true rfl, Nat.le_of_ble_eq_true rfl⟩ ⟨Nat.le_refl _, Nat.le_refl _⟩ dX7_cancel_3 (fun x2653 H locs h2652 HX2654 => ?_)
  have h_pl3 := h2652
  refine lv_istore_n (lv' := [(3, .int (x2653)), (0, .ref (fa_B G + (397))), (1, .int (a1)), (2, .int (a2))]) hx hb dX7_cancel_6 rfl hl (by decide) rfl (fun ls hl => ?_)
  refine lv_iload_n hx hb dX7_cancel_7 rfl (lv_at hl 0 rfl) ?_
  refine lv_iconst (v := (-1 : Int32)) hx hb dX7_cancel_8 (by decide) ?_
  refine lv_icmp_ne (tgt := 14) hx hb dX7_cancel_9 (by decide) (fun c_9 => ?_) (fun c_9 => ?_)
  · obtain ⟨tp, htp, etp⟩ := h_pl3.ne c_9
    refine lv_aload_n hx hb dX7_cancel_14 rfl (lv_at hl 1 rfl) ?_
    refine fa_callVvu (As := []) (rest := []) CX HX2654 (r_hold l G n hn v r hM) ln_X7_102 (by omega) rfl rfl rfl rfl (Nat.le_of_ble_eq_true rfl) hl.1 ⟨Nat.le_of_ble_eq_true rfl, Nat.le_of_ble_eq_true rfl⟩ ⟨Nat.le_refl _, Nat.le_refl _⟩ dX7_cancel_15 (fun v2656 H locs h2655 HX2657 => ?_)
    have h_hold := h2655.1
    refine lv_aload_n hx hb dX7_cancel_18 rfl (lv_at hl 1 rfl) ?_
    refine lv_iload_n hx hb dX7_cancel_19 rfl (lv_at hl 0 rfl) ?_
    rw [show x2653 = nI (tp) from etp]
    refine fa_callVvu (As := [.int (nI (tp))]) (rest := []) CX HX2657 (r_removeReservation l G n hn v2656 r hM (show fa_MS (v2656 398) from by rw [h2655.2 398 (by omega)]; exact hJ.1) (tp) (by omega) (show tp < fa_N (v2656 398 15) from by rw [show v2656 398 = v 398 from h2655.2 398 (by omega)]; exact htp)) ln_X7_76 (by omega) rfl rfl rfl rfl (Nat.le_of_ble_eq_true rfl) hl.1 ⟨Nat.le_of_ble_eq_true rfl, Nat.le_of_ble_eq_true rfl⟩ ⟨Nat.le_refl _, Nat.le_refl _⟩ dX7_cancel_20 (fun v2659 H locs h2658 HX2660 => ?_)
    have hS_v2659 := h2658.1.1
    have h_removeReservation := h2658.1.2.2.2
    refine lv_aload_n hx hb dX7_cancel_23 rfl (lv_at hl 1 rfl) ?_
    refine lv_aload_n hx hb dX7_cancel_24 rfl (lv_at hl 1 rfl) ?_
    refine fa_getr (k := 397) (j := 398) CX HX2660 fl_X7_7 (by omega) rfl rfl hM.1 dX7_cancel_25 ?_
    refine lv_bipush (v := nI (15)) hx hb dX7_cancel_28 (by decide) ?_
    refine fa_iald (k := 398) (j := 15) CX HX2660 (by omega) rfl (by omega) (by first | decide | assumption) dX7_cancel_30 ?_
    rw [show v2659 398 15 = nI (n5 - 1) from (by rw [h_removeReservation, (show v2656 398 15 = nI (n5) from (by rw [h2655.2 _ (by omega)]; exact g5)), fa_N_nI (by omega)])]
    refine fa_callViu (As := [.int (nI (n5 - 1))]) (rest := []) CX HX2660 (r_recorded l G n hn v2659 r hM (show fa_MJ v2659 from ⟨hS_v2659, (show fa_MS (v2659 399) from by rw [h2658.2 399 (by omega)]; exact (fa_MS.cp hJ.1 h2655.1)), (show fa_MS (v2659 400) from by rw [h2658.2 400 (by omega)]; exact (show fa_MS (v2656 400) from by rw [h2655.2 400 (by omega)]; exact hJ.2.2.1)), (show fa_MB (v2659 401) from by rw [h2658.2 401 (by omega)]; exact (show fa_MB (v2656 401) from by rw [h2655.2 401 (by omega)]; exact hJ.2.2.2.1)), ⟨n10, by omega, (by rw [h2658.2 _ (by omega)]; exact (by rw [h2655.2 _ (by omega)]; exact g10))⟩, ⟨n9, by omega, (by rw [h2658.2 _ (by omega)]; exact (by rw [h2655.2 _ (by omega)]; exact g9))⟩⟩) (nI (n5 - 1))) ln_X7_109 (by omega) rfl rfl rfl rfl (Nat.le_of_ble_eq_true rfl) hl.1 ⟨Nat.le_of_ble_eq_true rfl, Nat.le_of_ble_eq_true rfl⟩ ⟨Nat.le_refl _, Nat.le_refl _⟩ dX7_cancel_31 (fun x2662 v2663 H locs h2661 HX2664 => ?_)
    have hJ_v2663 := h2661.1.1
    obtain ⟨n10_v2663, hn10_v2663, g10_v2663⟩ := hJ_v2663.2.2.2.2.1
    exact RET _ _ _ _ _ _ _ HX2664 dX7_cancel_34 (⟨rfl, ⟨⟨hJ_v2663, (show v2663 397 9 = v 397 9 from ((show v2663 397 9 = nI (n9) from ((h2661.1.2).trans (by rw [h2658.2 _ (by omega)]; exact (by rw [h2655.2 _ (by omega)]; exact g9)))).trans g9.symm))⟩, (fa_fr.tr (fa_fr.tr (fa_fr.tr fa_fr.rf (fa_fr.wide h2655.2 (by omega) (by omega))) (fa_fr.wide h2658.2 (by omega) (by omega))) (fa_fr.wide h2661.2 (by omega) (by omega)))⟩⟩)
  · refine lv_iconst (v := (-1 : Int32)) hx hb dX7_cancel_12 (by decide) ?_
    exact RET _ _ _ _ _ _ _ HX2654 dX7_cancel_13 (⟨rfl, ⟨⟨hJ, (show v 397 9 = v 397 9 from rfl)⟩, fa_fr.rf⟩⟩)
set_option maxHeartbeats 4000000 in
set_option maxRecDepth 100000 in
theorem r_set (l : Launch) (G : fa_G) (n : Nat) (hn : 406 ≤ n) (v : fa_V) (r : fa_R) (hM : fa_RM r) (hJ : fa_MJ v) (a1 : Int32) (a2 : Int32) : fa_MI l G n yX7_set cX7_set 4 (some .int) 8 [.ref (fa_B G + (397)), .int (a1), .int (a2)] v r (fa_voi r (fun x v1 => ((fa_MJ v1) ∧ (v1 397 9 = v 397 9)) ∧ (fa_fr (397) (405) v v1))) := by
  refine fa_startI (by decide +kernel) (Nat.le_of_ble_eq_true rfl) (fun p e s m args below meth c ls Q CX hl HX RET => ?_)
  have hl : lv_has ls 4 [(0, .ref (fa_B G + (397))), (1, .int (a1)), (2, .int (a2))] := hl
  have hx := CX.1.1
  have hb := CX.1.2.1
  have hS := hJ.1
  obtain ⟨n4, en4⟩ : ∃ m, m = fa_N (v 398 14) := ⟨_, rfl⟩
  obtain ⟨hn4, g4⟩ := hS.n4 en4
  obtain ⟨n5, en5⟩ : ∃ m, m = fa_N (v 398 15) := ⟨_, rfl⟩
  obtain ⟨hn5, g5⟩ := hS.n5 en5
  obtain ⟨n6, en6⟩ : ∃ m, m = fa_N (v 398 16) := ⟨_, rfl⟩
  obtain ⟨hn6, g6⟩ := hS.n6 en6
  obtain ⟨n10, hn10, g10⟩ := hJ.2.2.2.2.1
  obtain ⟨n9, hn9, g9⟩ := hJ.2.2.2.2.2
  refine lv_iload_n hx hb dX7_set_0 rfl (lv_at hl 1 rfl) ?_
  refine lv_iconst (v := nI (0)) hx hb dX7_set_1 (by decide) ?_
  refine lv_bipush (v := nI (6)) hx hb dX7_set_2 (by decide) ?_
  refine fa_callSip (As := [.int (a1), .int (nI (0)), .int (nI (6))]) (rest := []) CX HX (r_in l G n v r (a1) (nI (0)) (nI (6))) ln_X7_86 rfl rfl (Nat.le_of_ble_eq_true rfl) hl.1 ⟨Nat.le_of_ble_eq_true rfl, Nat.le_of_ble_eq_true rfl⟩ ⟨Nat.le_refl _, Nat.le_refl _⟩ dX7_set_4 (fun x2666 H locs h2665 HX2667 => ?_)
  have h_in_4 := h2665
  refine lv_if_ne (tgt := 12) hx hb dX7_set_7 (by decide) (fun c_7 => ?_) (fun c_7 => ?_)
  · obtain ⟨ja, hja, eja⟩ := fa_inN (by decide) (fa_in1 h_in_4 c_7)
    refine lv_iload_n hx hb dX7_set_12 rfl (lv_at hl 2 rfl) ?_
    refine lv_iload_n hx hb dX7_set_13 rfl (lv_at hl 1 rfl) ?_
    rw [show a1 = nI (ja) from eja]
    refine lv_iconst (v := nI (5)) hx hb dX7_set_14 (by decide) ?_
    refine lv_icmp_ge (tgt := 23) hx hb dX7_set_15 (by decide) (fun c_15 => ?_) (fun c_15 => ?_)
    · refine lv_iload_n hx hb dX7_set_23 rfl (lv_at hl 1 rfl) ?_
      rw [show a1 = nI (ja) from eja]
      refine lv_iconst (v := nI (5)) hx hb dX7_set_24 (by decide) ?_
      refine lv_icmp_ne (tgt := 32) hx hb dX7_set_25 (by decide) (fun c_25 => ?_) (fun c_25 => ?_)
      · refine lv_bipush (v := nI (50)) hx hb dX7_set_32 (by decide) ?_
        refine lv_iload_n hx hb dX7_set_34 rfl (lv_at hl 1 rfl) ?_
        rw [show a1 = nI (ja) from eja]
        refine lv_iconst (v := nI (5)) hx hb dX7_set_35 (by decide) ?_
        refine lv_icmp_ge (tgt := 45) hx hb dX7_set_36 (by decide) (fun c_36 => ?_) (fun c_36 => ?_)
        · refine lv_iload_n hx hb dX7_set_45 rfl (lv_at hl 1 rfl) ?_
          rw [show a1 = nI (ja) from eja]
          refine lv_iconst (v := nI (5)) hx hb dX7_set_46 (by decide) ?_
          refine lv_icmp_ne (tgt := 55) hx hb dX7_set_47 (by decide) (fun c_47 => ?_) (fun c_47 => ?_)
          · refine lv_sipush (v := nI (600)) hx hb dX7_set_55 (by decide) ?_
            refine fa_callSip (As := [.int (a2), .int (nI (50)), .int (nI (600))]) (rest := []) CX HX2667 (r_in l G n v r (a2) (nI (50)) (nI (600))) ln_X7_86 rfl rfl (Nat.le_of_ble_eq_true rfl) hl.1 ⟨Nat.le_of_ble_eq_true rfl, Nat.le_of_ble_eq_true rfl⟩ ⟨Nat.le_refl _, Nat.le_refl _⟩ dX7_set_58 (fun x2669 H locs h2668 HX2670 => ?_)
            have h_in_58 := h2668
            refine lv_if_ne (tgt := 67) hx hb dX7_set_61 (by decide) (fun c_61 => ?_) (fun c_61 => ?_)
            · refine lv_aload_n hx hb dX7_set_67 rfl (lv_at hl 0 rfl) ?_
              refine fa_callVvu (As := []) (rest := []) CX HX2670 (r_hold l G n hn v r hM) ln_X7_102 (by omega) rfl rfl rfl rfl (Nat.le_of_ble_eq_true rfl) hl.1 ⟨Nat.le_of_ble_eq_true rfl, Nat.le_of_ble_eq_true rfl⟩ ⟨Nat.le_refl _, Nat.le_refl _⟩ dX7_set_68 (fun v2672 H locs h2671 HX2673 => ?_)
              have h_hold := h2671.1
              refine lv_aload_n hx hb dX7_set_71 rfl (lv_at hl 0 rfl) ?_
              refine fa_getr (k := 397) (j := 398) CX HX2673 fl_X7_7 (by omega) rfl rfl hM.1 dX7_set_72 ?_
              refine lv_iload_n hx hb dX7_set_75 rfl (lv_at hl 1 rfl) ?_
              rw [show a1 = nI (ja) from eja]
              refine fa_iald (k := 398) (j := ja) CX HX2673 (by omega) rfl (by omega) (by first | decide | assumption) dX7_set_76 ?_
              refine lv_istore_n (lv' := [(3, .int (v2672 398 ja)), (0, .ref (fa_B G + (397))), (1, .int (a1)), (2, .int (a2))]) hx hb dX7_set_77 rfl hl (by decide) rfl (fun ls hl => ?_)
              refine lv_aload_n hx hb dX7_set_78 rfl (lv_at hl 1 rfl) ?_
              refine fa_getr (k := 397) (j := 398) CX HX2673 fl_X7_7 (by omega) rfl rfl hM.1 dX7_set_79 ?_
              refine lv_iload_n hx hb dX7_set_82 rfl (lv_at hl 2 rfl) ?_
              rw [show a1 = nI (ja) from eja]
              refine lv_iload_n hx hb dX7_set_83 rfl (lv_at hl 3 rfl) ?_
              refine fa_iast (k := 398) (j := ja) CX HX2673 (by omega) rfl (by omega) (by first | decide | assumption) dX7_set_84 (fun H locs v2674 e2675 HX2676 => ?_)
              refine lv_aload_n hx hb dX7_set_85 rfl (lv_at hl 1 rfl) ?_
              refine lv_iload_n hx hb dX7_set_86 rfl (lv_at hl 0 rfl) ?_
              refine fa_callViu (As := [.int (v2672 398 ja)]) (rest := []) CX HX2676 (r_recorded l G n hn v2674 r hM (show fa_MJ v2674 from ⟨(show fa_MS (v2674 398) from by rw [e2675]; exact fa_MS.u (show fa_MS (v2672 398) from by rw [h2671.2 398 (by omega)]; exact hJ.1) (fa_ok.o (by omega) (by omega) (by omega) (fun p hp => by omega))), (show fa_MS (v2674 399) from by rw [e2675, fa_u_k _ _ (by decide)]; exact (fa_MS.cp hJ.1 h2671.1)), (show fa_MS (v2674 400) from by rw [e2675, fa_u_k _ _ (by decide)]; exact (show fa_MS (v2672 400) from by rw [h2671.2 400 (by omega)]; exact hJ.2.2.1)), (show fa_MB (v2674 401) from by rw [e2675, fa_u_k _ _ (by decide)]; exact (show fa_MB (v2672 401) from by rw [h2671.2 401 (by omega)]; exact hJ.2.2.2.1)), ⟨n10, by omega, (by rw [e2675, fa_u_n _ _ (by omega)]; exact (by rw [h2671.2 _ (by omega)]; exact g10))⟩, ⟨n9, by omega, (by rw [e2675, fa_u_n _ _ (by omega)]; exact (by rw [h2671.2 _ (by omega)]; exact g9))⟩⟩) (v2672 398 ja)) ln_X7_109 (by omega) rfl rfl rfl rfl (Nat.le_of_ble_eq_true rfl) hl.1 ⟨Nat.le_of_ble_eq_true rfl, Nat.le_of_ble_eq_true rfl⟩ ⟨Nat.le_refl _, Nat.le_refl _⟩ dX7_set_87 (fun x2678 v2679 H locs h2677 HX2680 => ?_)
              have hJ_v2679 := h2677.1.1
              obtain ⟨n10_v2679, hn10_v2679, g10_v2679⟩ := hJ_v2679.2.2.2.2.1
              exact RET _ _ _ _ _ _ _ HX2680 dX7_set_90 (⟨rfl, ⟨⟨hJ_v2679, (show v2679 397 9 = v 397 9 from ((show v2679 397 9 = nI (n9) from ((h2677.1.2).trans (by rw [e2675, fa_u_n _ _ (by omega)]; exact (by rw [h2671.2 _ (by omega)]; exact g9)))).trans g9.symm))⟩, (fa_fr.tr (by rw [e2675]; exact fa_fr.u (fa_fr.tr fa_fr.rf (fa_fr.wide h2671.2 (by omega) (by omega))) (by omega)) (fa_fr.wide h2677.2 (by omega) (by omega)))⟩⟩)
            · refine lv_bipush (v := (-2 : Int32)) hx hb dX7_set_64 (by decide) ?_
              exact RET _ _ _ _ _ _ _ HX2670 dX7_set_66 (⟨rfl, ⟨⟨hJ, (show v 397 9 = v 397 9 from rfl)⟩, fa_fr.rf⟩⟩)
          · refine lv_bipush (v := nI (20)) hx hb dX7_set_50 (by decide) ?_
            refine lv_goto (tgt := 58) hx hb dX7_set_52 (by decide) ?_
            refine fa_callSip (As := [.int (a2), .int (nI (50)), .int (nI (20))]) (rest := []) CX HX2667 (r_in l G n v r (a2) (nI (50)) (nI (20))) ln_X7_86 rfl rfl (Nat.le_of_ble_eq_true rfl) hl.1 ⟨Nat.le_of_ble_eq_true rfl, Nat.le_of_ble_eq_true rfl⟩ ⟨Nat.le_refl _, Nat.le_refl _⟩ dX7_set_58 (fun x2682 H locs h2681 HX2683 => ?_)
            have h_in_58 := h2681
            refine lv_if_ne (tgt := 67) hx hb dX7_set_61 (by decide) (fun c_61 => ?_) (fun c_61 => ?_)
            · refine lv_aload_n hx hb dX7_set_67 rfl (lv_at hl 0 rfl) ?_
              refine fa_callVvu (As := []) (rest := []) CX HX2683 (r_hold l G n hn v r hM) ln_X7_102 (by omega) rfl rfl rfl rfl (Nat.le_of_ble_eq_true rfl) hl.1 ⟨Nat.le_of_ble_eq_true rfl, Nat.le_of_ble_eq_true rfl⟩ ⟨Nat.le_refl _, Nat.le_refl _⟩ dX7_set_68 (fun v2685 H locs h2684 HX2686 => ?_)
              have h_hold := h2684.1
              refine lv_aload_n hx hb dX7_set_71 rfl (lv_at hl 0 rfl) ?_
              refine fa_getr (k := 397) (j := 398) CX HX2686 fl_X7_7 (by omega) rfl rfl hM.1 dX7_set_72 ?_
              refine lv_iload_n hx hb dX7_set_75 rfl (lv_at hl 1 rfl) ?_
              rw [show a1 = nI (ja) from eja]
              refine fa_iald (k := 398) (j := ja) CX HX2686 (by omega) rfl (by omega) (by first | decide | assumption) dX7_set_76 ?_
              refine lv_istore_n (lv' := [(3, .int (v2685 398 ja)), (0, .ref (fa_B G + (397))), (1, .int (a1)), (2, .int (a2))]) hx hb dX7_set_77 rfl hl (by decide) rfl (fun ls hl => ?_)
              refine lv_aload_n hx hb dX7_set_78 rfl (lv_at hl 1 rfl) ?_
              refine fa_getr (k := 397) (j := 398) CX HX2686 fl_X7_7 (by omega) rfl rfl hM.1 dX7_set_79 ?_
              refine lv_iload_n hx hb dX7_set_82 rfl (lv_at hl 2 rfl) ?_
              rw [show a1 = nI (ja) from eja]
              refine lv_iload_n hx hb dX7_set_83 rfl (lv_at hl 3 rfl) ?_
              refine fa_iast (k := 398) (j := ja) CX HX2686 (by omega) rfl (by omega) (by first | decide | assumption) dX7_set_84 (fun H locs v2687 e2688 HX2689 => ?_)
              refine lv_aload_n hx hb dX7_set_85 rfl (lv_at hl 1 rfl) ?_
              refine lv_iload_n hx hb dX7_set_86 rfl (lv_at hl 0 rfl) ?_
              refine fa_callViu (As := [.int (v2685 398 ja)]) (rest := []) CX HX2689 (r_recorded l G n hn v2687 r hM (show fa_MJ v2687 from ⟨(show fa_MS (v2687 398) from by rw [e2688]; exact fa_MS.u (show fa_MS (v2685 398) from by rw [h2684.2 398 (by omega)]; exact hJ.1) (fa_ok.o (by omega) (by omega) (by omega) (fun p hp => by omega))), (show fa_MS (v2687 399) from by rw [e2688, fa_u_k _ _ (by decide)]; exact (fa_MS.cp hJ.1 h2684.1)), (show fa_MS (v2687 400) from by rw [e2688, fa_u_k _ _ (by decide)]; exact (show fa_MS (v2685 400) from by rw [h2684.2 400 (by omega)]; exact hJ.2.2.1)), (show fa_MB (v2687 401) from by rw [e2688, fa_u_k _ _ (by decide)]; exact (show fa_MB (v2685 401) from by rw [h2684.2 401 (by omega)]; exact hJ.2.2.2.1)), ⟨n10, by omega, (by rw [e2688, fa_u_n _ _ (by omega)]; exact (by rw [h2684.2 _ (by omega)]; exact g10))⟩, ⟨n9, by omega, (by rw [e2688, fa_u_n _ _ (by omega)]; exact (by rw [h2684.2 _ (by omega)]; exact g9))⟩⟩) (v2685 398 ja)) ln_X7_109 (by omega) rfl rfl rfl rfl (Nat.le_of_ble_eq_true rfl) hl.1 ⟨Nat.le_of_ble_eq_true rfl, Nat.le_of_ble_eq_true rfl⟩ ⟨Nat.le_refl _, Nat.le_refl _⟩ dX7_set_87 (fun x2691 v2692 H locs h2690 HX2693 => ?_)
              have hJ_v2692 := h2690.1.1
              obtain ⟨n10_v2692, hn10_v2692, g10_v2692⟩ := hJ_v2692.2.2.2.2.1
              exact RET _ _ _ _ _ _ _ HX2693 dX7_set_90 (⟨rfl, ⟨⟨hJ_v2692, (show v2692 397 9 = v 397 9 from ((show v2692 397 9 = nI (n9) from ((h2690.1.2).trans (by rw [e2688, fa_u_n _ _ (by omega)]; exact (by rw [h2684.2 _ (by omega)]; exact g9)))).trans g9.symm))⟩, (fa_fr.tr (by rw [e2688]; exact fa_fr.u (fa_fr.tr fa_fr.rf (fa_fr.wide h2684.2 (by omega) (by omega))) (by omega)) (fa_fr.wide h2690.2 (by omega) (by omega)))⟩⟩)
            · refine lv_bipush (v := (-2 : Int32)) hx hb dX7_set_64 (by decide) ?_
              exact RET _ _ _ _ _ _ _ HX2683 dX7_set_66 (⟨rfl, ⟨⟨hJ, (show v 397 9 = v 397 9 from rfl)⟩, fa_fr.rf⟩⟩)
        · refine lv_sipush (v := nI (2000)) hx hb dX7_set_39 (by decide) ?_
          refine lv_goto (tgt := 58) hx hb dX7_set_42 (by decide) ?_
          refine fa_callSip (As := [.int (a2), .int (nI (50)), .int (nI (2000))]) (rest := []) CX HX2667 (r_in l G n v r (a2) (nI (50)) (nI (2000))) ln_X7_86 rfl rfl (Nat.le_of_ble_eq_true rfl) hl.1 ⟨Nat.le_of_ble_eq_true rfl, Nat.le_of_ble_eq_true rfl⟩ ⟨Nat.le_refl _, Nat.le_refl _⟩ dX7_set_58 (fun x2695 H locs h2694 HX2696 => ?_)
          have h_in_58 := h2694
          refine lv_if_ne (tgt := 67) hx hb dX7_set_61 (by decide) (fun c_61 => ?_) (fun c_61 => ?_)
          · refine lv_aload_n hx hb dX7_set_67 rfl (lv_at hl 0 rfl) ?_
            refine fa_callVvu (As := []) (rest := []) CX HX2696 (r_hold l G n hn v r hM) ln_X7_102 (by omega) rfl rfl rfl rfl (Nat.le_of_ble_eq_true rfl) hl.1 ⟨Nat.le_of_ble_eq_true rfl, Nat.le_of_ble_eq_true rfl⟩ ⟨Nat.le_refl _, Nat.le_refl _⟩ dX7_set_68 (fun v2698 H locs h2697 HX2699 => ?_)
            have h_hold := h2697.1
            refine lv_aload_n hx hb dX7_set_71 rfl (lv_at hl 0 rfl) ?_
            refine fa_getr (k := 397) (j := 398) CX HX2699 fl_X7_7 (by omega) rfl rfl hM.1 dX7_set_72 ?_
            refine lv_iload_n hx hb dX7_set_75 rfl (lv_at hl 1 rfl) ?_
            rw [show a1 = nI (ja) from eja]
            refine fa_iald (k := 398) (j := ja) CX HX2699 (by omega) rfl (by omega) (by first | decide | assumption) dX7_set_76 ?_
            refine lv_istore_n (lv' := [(3, .int (v2698 398 ja)), (0, .ref (fa_B G + (397))), (1, .int (a1)), (2, .int (a2))]) hx hb dX7_set_77 rfl hl (by decide) rfl (fun ls hl => ?_)
            refine lv_aload_n hx hb dX7_set_78 rfl (lv_at hl 1 rfl) ?_
            refine fa_getr (k := 397) (j := 398) CX HX2699 fl_X7_7 (by omega) rfl rfl hM.1 dX7_set_79 ?_
            refine lv_iload_n hx hb dX7_set_82 rfl (lv_at hl 2 rfl) ?_
            rw [show a1 = nI (ja) from eja]
            refine lv_iload_n hx hb dX7_set_83 rfl (lv_at hl 3 rfl) ?_
            refine fa_iast (k := 398) (j := ja) CX HX2699 (by omega) rfl (by omega) (by first | decide | assumption) dX7_set_84 (fun H locs v2700 e2701 HX2702 => ?_)
            refine lv_aload_n hx hb dX7_set_85 rfl (lv_at hl 1 rfl) ?_
            refine lv_iload_n hx hb dX7_set_86 rfl (lv_at hl 0 rfl) ?_
            refine fa_callViu (As := [.int (v2698 398 ja)]) (rest := []) CX HX2702 (r_recorded l G n hn v2700 r hM (show fa_MJ v2700 from ⟨(show fa_MS (v2700 398) from by rw [e2701]; exact fa_MS.u (show fa_MS (v2698 398) from by rw [h2697.2 398 (by omega)]; exact hJ.1) (fa_ok.o (by omega) (by omega) (by omega) (fun p hp => by omega))), (show fa_MS (v2700 399) from by rw [e2701, fa_u_k _ _ (by decide)]; exact (fa_MS.cp hJ.1 h2697.1)), (show fa_MS (v2700 400) from by rw [e2701, fa_u_k _ _ (by decide)]; exact (show fa_MS (v2698 400) from by rw [h2697.2 400 (by omega)]; exact hJ.2.2.1)), (show fa_MB (v2700 401) from by rw [e2701, fa_u_k _ _ (by decide)]; exact (show fa_MB (v2698 401) from by rw [h2697.2 401 (by omega)]; exact hJ.2.2.2.1)), ⟨n10, by omega, (by rw [e2701, fa_u_n _ _ (by omega)]; exact (by rw [h2697.2 _ (by omega)]; exact g10))⟩, ⟨n9, by omega, (by rw [e2701, fa_u_n _ _ (by omega)]; exact (by rw [h2697.2 _ (by omega)]; exact g9))⟩⟩) (v2698 398 ja)) ln_X7_109 (by omega) rfl rfl rfl rfl (Nat.le_of_ble_eq_true rfl) hl.1 ⟨Nat.le_of_ble_eq_true rfl, Nat.le_of_ble_eq_true rfl⟩ ⟨Nat.le_refl _, Nat.le_refl _⟩ dX7_set_87 (fun x2704 v2705 H locs h2703 HX2706 => ?_)
            have hJ_v2705 := h2703.1.1
            obtain ⟨n10_v2705, hn10_v2705, g10_v2705⟩ := hJ_v2705.2.2.2.2.1
            exact RET _ _ _ _ _ _ _ HX2706 dX7_set_90 (⟨rfl, ⟨⟨hJ_v2705, (show v2705 397 9 = v 397 9 from ((show v2705 397 9 = nI (n9) from ((h2703.1.2).trans (by rw [e2701, fa_u_n _ _ (by omega)]; exact (by rw [h2697.2 _ (by omega)]; exact g9)))).trans g9.symm))⟩, (fa_fr.tr (by rw [e2701]; exact fa_fr.u (fa_fr.tr fa_fr.rf (fa_fr.wide h2697.2 (by omega) (by omega))) (by omega)) (fa_fr.wide h2703.2 (by omega) (by omega)))⟩⟩)
          · refine lv_bipush (v := (-2 : Int32)) hx hb dX7_set_64 (by decide) ?_
            exact RET _ _ _ _ _ _ _ HX2696 dX7_set_66 (⟨rfl, ⟨⟨hJ, (show v 397 9 = v 397 9 from rfl)⟩, fa_fr.rf⟩⟩)
      · refine lv_iconst (v := nI (1)) hx hb dX7_set_28 (by decide) ?_
        refine lv_goto (tgt := 34) hx hb dX7_set_29 (by decide) ?_
        refine lv_iload_n hx hb dX7_set_34 rfl (lv_at hl 1 rfl) ?_
        rw [show a1 = nI (ja) from eja]
        refine lv_iconst (v := nI (5)) hx hb dX7_set_35 (by decide) ?_
        refine lv_icmp_ge (tgt := 45) hx hb dX7_set_36 (by decide) (fun c_36 => ?_) (fun c_36 => ?_)
        · refine lv_iload_n hx hb dX7_set_45 rfl (lv_at hl 1 rfl) ?_
          rw [show a1 = nI (ja) from eja]
          refine lv_iconst (v := nI (5)) hx hb dX7_set_46 (by decide) ?_
          refine lv_icmp_ne (tgt := 55) hx hb dX7_set_47 (by decide) (fun c_47 => ?_) (fun c_47 => ?_)
          · refine lv_sipush (v := nI (600)) hx hb dX7_set_55 (by decide) ?_
            refine fa_callSip (As := [.int (a2), .int (nI (1)), .int (nI (600))]) (rest := []) CX HX2667 (r_in l G n v r (a2) (nI (1)) (nI (600))) ln_X7_86 rfl rfl (Nat.le_of_ble_eq_true rfl) hl.1 ⟨Nat.le_of_ble_eq_true rfl, Nat.le_of_ble_eq_true rfl⟩ ⟨Nat.le_refl _, Nat.le_refl _⟩ dX7_set_58 (fun x2708 H locs h2707 HX2709 => ?_)
            have h_in_58 := h2707
            refine lv_if_ne (tgt := 67) hx hb dX7_set_61 (by decide) (fun c_61 => ?_) (fun c_61 => ?_)
            · refine lv_aload_n hx hb dX7_set_67 rfl (lv_at hl 0 rfl) ?_
              refine fa_callVvu (As := []) (rest := []) CX HX2709 (r_hold l G n hn v r hM) ln_X7_102 (by omega) rfl rfl rfl rfl (Nat.le_of_ble_eq_true rfl) hl.1 ⟨Nat.le_of_ble_eq_true rfl, Nat.le_of_ble_eq_true rfl⟩ ⟨Nat.le_refl _, Nat.le_refl _⟩ dX7_set_68 (fun v2711 H locs h2710 HX2712 => ?_)
              have h_hold := h2710.1
              refine lv_aload_n hx hb dX7_set_71 rfl (lv_at hl 0 rfl) ?_
              refine fa_getr (k := 397) (j := 398) CX HX2712 fl_X7_7 (by omega) rfl rfl hM.1 dX7_set_72 ?_
              refine lv_iload_n hx hb dX7_set_75 rfl (lv_at hl 1 rfl) ?_
              rw [show a1 = nI (ja) from eja]
              refine fa_iald (k := 398) (j := ja) CX HX2712 (by omega) rfl (by omega) (by first | decide | assumption) dX7_set_76 ?_
              refine lv_istore_n (lv' := [(3, .int (v2711 398 ja)), (0, .ref (fa_B G + (397))), (1, .int (a1)), (2, .int (a2))]) hx hb dX7_set_77 rfl hl (by decide) rfl (fun ls hl => ?_)
              refine lv_aload_n hx hb dX7_set_78 rfl (lv_at hl 1 rfl) ?_
              refine fa_getr (k := 397) (j := 398) CX HX2712 fl_X7_7 (by omega) rfl rfl hM.1 dX7_set_79 ?_
              refine lv_iload_n hx hb dX7_set_82 rfl (lv_at hl 2 rfl) ?_
              rw [show a1 = nI (ja) from eja]
              refine lv_iload_n hx hb dX7_set_83 rfl (lv_at hl 3 rfl) ?_
              refine fa_iast (k := 398) (j := ja) CX HX2712 (by omega) rfl (by omega) (by first | decide | assumption) dX7_set_84 (fun H locs v2713 e2714 HX2715 => ?_)
              refine lv_aload_n hx hb dX7_set_85 rfl (lv_at hl 1 rfl) ?_
              refine lv_iload_n hx hb dX7_set_86 rfl (lv_at hl 0 rfl) ?_
              refine fa_callViu (As := [.int (v2711 398 ja)]) (rest := []) CX HX2715 (r_recorded l G n hn v2713 r hM (show fa_MJ v2713 from ⟨(show fa_MS (v2713 398) from by rw [e2714]; exact fa_MS.u (show fa_MS (v2711 398) from by rw [h2710.2 398 (by omega)]; exact hJ.1) (fa_ok.o (by omega) (by omega) (by omega) (fun p hp => by omega))), (show fa_MS (v2713 399) from by rw [e2714, fa_u_k _ _ (by decide)]; exact (fa_MS.cp hJ.1 h2710.1)), (show fa_MS (v2713 400) from by rw [e2714, fa_u_k _ _ (by decide)]; exact (show fa_MS (v2711 400) from by rw [h2710.2 400 (by omega)]; exact hJ.2.2.1)), (show fa_MB (v2713 401) from by rw [e2714, fa_u_k _ _ (by decide)]; exact (show fa_MB (v2711 401) from by rw [h2710.2 401 (by omega)]; exact hJ.2.2.2.1)), ⟨n10, by omega, (by rw [e2714, fa_u_n _ _ (by omega)]; exact (by rw [h2710.2 _ (by omega)]; exact g10))⟩, ⟨n9, by omega, (by rw [e2714, fa_u_n _ _ (by omega)]; exact (by rw [h2710.2 _ (by omega)]; exact g9))⟩⟩) (v2711 398 ja)) ln_X7_109 (by omega) rfl rfl rfl rfl (Nat.le_of_ble_eq_true rfl) hl.1 ⟨Nat.le_of_ble_eq_true rfl, Nat.le_of_ble_eq_true rfl⟩ ⟨Nat.le_refl _, Nat.le_refl _⟩ dX7_set_87 (fun x2717 v2718 H locs h2716 HX2719 => ?_)
              have hJ_v2718 := h2716.1.1
              obtain ⟨n10_v2718, hn10_v2718, g10_v2718⟩ := hJ_v2718.2.2.2.2.1
              exact RET _ _ _ _ _ _ _ HX2719 dX7_set_90 (⟨rfl, ⟨⟨hJ_v2718, (show v2718 397 9 = v 397 9 from ((show v2718 397 9 = nI (n9) from ((h2716.1.2).trans (by rw [e2714, fa_u_n _ _ (by omega)]; exact (by rw [h2710.2 _ (by omega)]; exact g9)))).trans g9.symm))⟩, (fa_fr.tr (by rw [e2714]; exact fa_fr.u (fa_fr.tr fa_fr.rf (fa_fr.wide h2710.2 (by omega) (by omega))) (by omega)) (fa_fr.wide h2716.2 (by omega) (by omega)))⟩⟩)
            · refine lv_bipush (v := (-2 : Int32)) hx hb dX7_set_64 (by decide) ?_
              exact RET _ _ _ _ _ _ _ HX2709 dX7_set_66 (⟨rfl, ⟨⟨hJ, (show v 397 9 = v 397 9 from rfl)⟩, fa_fr.rf⟩⟩)
          · refine lv_bipush (v := nI (20)) hx hb dX7_set_50 (by decide) ?_
            refine lv_goto (tgt := 58) hx hb dX7_set_52 (by decide) ?_
            refine fa_callSip (As := [.int (a2), .int (nI (1)), .int (nI (20))]) (rest := []) CX HX2667 (r_in l G n v r (a2) (nI (1)) (nI (20))) ln_X7_86 rfl rfl (Nat.le_of_ble_eq_true rfl) hl.1 ⟨Nat.le_of_ble_eq_true rfl, Nat.le_of_ble_eq_true rfl⟩ ⟨Nat.le_refl _, Nat.le_refl _⟩ dX7_set_58 (fun x2721 H locs h2720 HX2722 => ?_)
            have h_in_58 := h2720
            refine lv_if_ne (tgt := 67) hx hb dX7_set_61 (by decide) (fun c_61 => ?_) (fun c_61 => ?_)
            · refine lv_aload_n hx hb dX7_set_67 rfl (lv_at hl 0 rfl) ?_
              refine fa_callVvu (As := []) (rest := []) CX HX2722 (r_hold l G n hn v r hM) ln_X7_102 (by omega) rfl rfl rfl rfl (Nat.le_of_ble_eq_true rfl) hl.1 ⟨Nat.le_of_ble_eq_true rfl, Nat.le_of_ble_eq_true rfl⟩ ⟨Nat.le_refl _, Nat.le_refl _⟩ dX7_set_68 (fun v2724 H locs h2723 HX2725 => ?_)
              have h_hold := h2723.1
              refine lv_aload_n hx hb dX7_set_71 rfl (lv_at hl 0 rfl) ?_
              refine fa_getr (k := 397) (j := 398) CX HX2725 fl_X7_7 (by omega) rfl rfl hM.1 dX7_set_72 ?_
              refine lv_iload_n hx hb dX7_set_75 rfl (lv_at hl 1 rfl) ?_
              rw [show a1 = nI (ja) from eja]
              refine fa_iald (k := 398) (j := ja) CX HX2725 (by omega) rfl (by omega) (by first | decide | assumption) dX7_set_76 ?_
              refine lv_istore_n (lv' := [(3, .int (v2724 398 ja)), (0, .ref (fa_B G + (397))), (1, .int (a1)), (2, .int (a2))]) hx hb dX7_set_77 rfl hl (by decide) rfl (fun ls hl => ?_)
              refine lv_aload_n hx hb dX7_set_78 rfl (lv_at hl 1 rfl) ?_
              refine fa_getr (k := 397) (j := 398) CX HX2725 fl_X7_7 (by omega) rfl rfl hM.1 dX7_set_79 ?_
              refine lv_iload_n hx hb dX7_set_82 rfl (lv_at hl 2 rfl) ?_
              rw [show a1 = nI (ja) from eja]
              refine lv_iload_n hx hb dX7_set_83 rfl (lv_at hl 3 rfl) ?_
              refine fa_iast (k := 398) (j := ja) CX HX2725 (by omega) rfl (by omega) (by first | decide | assumption) dX7_set_84 (fun H locs v2726 e2727 HX2728 => ?_)
              refine lv_aload_n hx hb dX7_set_85 rfl (lv_at hl 1 rfl) ?_
              refine lv_iload_n hx hb dX7_set_86 rfl (lv_at hl 0 rfl) ?_
              refine fa_callViu (As := [.int (v2724 398 ja)]) (rest := []) CX HX2728 (r_recorded l G n hn v2726 r hM (show fa_MJ v2726 from ⟨(show fa_MS (v2726 398) from by rw [e2727]; exact fa_MS.u (show fa_MS (v2724 398) from by rw [h2723.2 398 (by omega)]; exact hJ.1) (fa_ok.o (by omega) (by omega) (by omega) (fun p hp => by omega))), (show fa_MS (v2726 399) from by rw [e2727, fa_u_k _ _ (by decide)]; exact (fa_MS.cp hJ.1 h2723.1)), (show fa_MS (v2726 400) from by rw [e2727, fa_u_k _ _ (by decide)]; exact (show fa_MS (v2724 400) from by rw [h2723.2 400 (by omega)]; exact hJ.2.2.1)), (show fa_MB (v2726 401) from by rw [e2727, fa_u_k _ _ (by decide)]; exact (show fa_MB (v2724 401) from by rw [h2723.2 401 (by omega)]; exact hJ.2.2.2.1)), ⟨n10, by omega, (by rw [e2727, fa_u_n _ _ (by omega)]; exact (by rw [h2723.2 _ (by omega)]; exact g10))⟩, ⟨n9, by omega, (by rw [e2727, fa_u_n _ _ (by omega)]; exact (by rw [h2723.2 _ (by omega)]; exact g9))⟩⟩) (v2724 398 ja)) ln_X7_109 (by omega) rfl rfl rfl rfl (Nat.le_of_ble_eq_true rfl) hl.1 ⟨Nat.le_of_ble_eq_true rfl, Nat.le_of_ble_eq_true rfl⟩ ⟨Nat.le_refl _, Nat.le_refl _⟩ dX7_set_87 (fun x2730 v2731 H locs h2729 HX2732 => ?_)
              have hJ_v2731 := h2729.1.1
              obtain ⟨n10_v2731, hn10_v2731, g10_v2731⟩ := hJ_v2731.2.2.2.2.1
              exact RET _ _ _ _ _ _ _ HX2732 dX7_set_90 (⟨rfl, ⟨⟨hJ_v2731, (show v2731 397 9 = v 397 9 from ((show v2731 397 9 = nI (n9) from ((h2729.1.2).trans (by rw [e2727, fa_u_n _ _ (by omega)]; exact (by rw [h2723.2 _ (by omega)]; exact g9)))).trans g9.symm))⟩, (fa_fr.tr (by rw [e2727]; exact fa_fr.u (fa_fr.tr fa_fr.rf (fa_fr.wide h2723.2 (by omega) (by omega))) (by omega)) (fa_fr.wide h2729.2 (by omega) (by omega)))⟩⟩)
            · refine lv_bipush (v := (-2 : Int32)) hx hb dX7_set_64 (by decide) ?_
              exact RET _ _ _ _ _ _ _ HX2722 dX7_set_66 (⟨rfl, ⟨⟨hJ, (show v 397 9 = v 397 9 from rfl)⟩, fa_fr.rf⟩⟩)
        · refine lv_sipush (v := nI (2000)) hx hb dX7_set_39 (by decide) ?_
          refine lv_goto (tgt := 58) hx hb dX7_set_42 (by decide) ?_
          refine fa_callSip (As := [.int (a2), .int (nI (1)), .int (nI (2000))]) (rest := []) CX HX2667 (r_in l G n v r (a2) (nI (1)) (nI (2000))) ln_X7_86 rfl rfl (Nat.le_of_ble_eq_true rfl) hl.1 ⟨Nat.le_of_ble_eq_true rfl, Nat.le_of_ble_eq_true rfl⟩ ⟨Nat.le_refl _, Nat.le_refl _⟩ dX7_set_58 (fun x2734 H locs h2733 HX2735 => ?_)
          have h_in_58 := h2733
          refine lv_if_ne (tgt := 67) hx hb dX7_set_61 (by decide) (fun c_61 => ?_) (fun c_61 => ?_)
          · refine lv_aload_n hx hb dX7_set_67 rfl (lv_at hl 0 rfl) ?_
            refine fa_callVvu (As := []) (rest := []) CX HX2735 (r_hold l G n hn v r hM) ln_X7_102 (by omega) rfl rfl rfl rfl (Nat.le_of_ble_eq_true rfl) hl.1 ⟨Nat.le_of_ble_eq_true rfl, Nat.le_of_ble_eq_true rfl⟩ ⟨Nat.le_refl _, Nat.le_refl _⟩ dX7_set_68 (fun v2737 H locs h2736 HX2738 => ?_)
            have h_hold := h2736.1
            refine lv_aload_n hx hb dX7_set_71 rfl (lv_at hl 0 rfl) ?_
            refine fa_getr (k := 397) (j := 398) CX HX2738 fl_X7_7 (by omega) rfl rfl hM.1 dX7_set_72 ?_
            refine lv_iload_n hx hb dX7_set_75 rfl (lv_at hl 1 rfl) ?_
            rw [show a1 = nI (ja) from eja]
            refine fa_iald (k := 398) (j := ja) CX HX2738 (by omega) rfl (by omega) (by first | decide | assumption) dX7_set_76 ?_
            refine lv_istore_n (lv' := [(3, .int (v2737 398 ja)), (0, .ref (fa_B G + (397))), (1, .int (a1)), (2, .int (a2))]) hx hb dX7_set_77 rfl hl (by decide) rfl (fun ls hl => ?_)
            refine lv_aload_n hx hb dX7_set_78 rfl (lv_at hl 1 rfl) ?_
            refine fa_getr (k := 397) (j := 398) CX HX2738 fl_X7_7 (by omega) rfl rfl hM.1 dX7_set_79 ?_
            refine lv_iload_n hx hb dX7_set_82 rfl (lv_at hl 2 rfl) ?_
            rw [show a1 = nI (ja) from eja]
            refine lv_iload_n hx hb dX7_set_83 rfl (lv_at hl 3 rfl) ?_
            refine fa_iast (k := 398) (j := ja) CX HX2738 (by omega) rfl (by omega) (by first | decide | assumption) dX7_set_84 (fun H locs v2739 e2740 HX2741 => ?_)
            refine lv_aload_n hx hb dX7_set_85 rfl (lv_at hl 1 rfl) ?_
            refine lv_iload_n hx hb dX7_set_86 rfl (lv_at hl 0 rfl) ?_
            refine fa_callViu (As := [.int (v2737 398 ja)]) (rest := []) CX HX2741 (r_recorded l G n hn v2739 r hM (show fa_MJ v2739 from ⟨(show fa_MS (v2739 398) from by rw [e2740]; exact fa_MS.u (show fa_MS (v2737 398) from by rw [h2736.2 398 (by omega)]; exact hJ.1) (fa_ok.o (by omega) (by omega) (by omega) (fun p hp => by omega))), (show fa_MS (v2739 399) from by rw [e2740, fa_u_k _ _ (by decide)]; exact (fa_MS.cp hJ.1 h2736.1)), (show fa_MS (v2739 400) from by rw [e2740, fa_u_k _ _ (by decide)]; exact (show fa_MS (v2737 400) from by rw [h2736.2 400 (by omega)]; exact hJ.2.2.1)), (show fa_MB (v2739 401) from by rw [e2740, fa_u_k _ _ (by decide)]; exact (show fa_MB (v2737 401) from by rw [h2736.2 401 (by omega)]; exact hJ.2.2.2.1)), ⟨n10, by omega, (by rw [e2740, fa_u_n _ _ (by omega)]; exact (by rw [h2736.2 _ (by omega)]; exact g10))⟩, ⟨n9, by omega, (by rw [e2740, fa_u_n _ _ (by omega)]; exact (by rw [h2736.2 _ (by omega)]; exact g9))⟩⟩) (v2737 398 ja)) ln_X7_109 (by omega) rfl rfl rfl rfl (Nat.le_of_ble_eq_true rfl) hl.1 ⟨Nat.le_of_ble_eq_true rfl, Nat.le_of_ble_eq_true rfl⟩ ⟨Nat.le_refl _, Nat.le_refl _⟩ dX7_set_87 (fun x2743 v2744 H locs h2742 HX2745 => ?_)
            have hJ_v2744 := h2742.1.1
            obtain ⟨n10_v2744, hn10_v2744, g10_v2744⟩ := hJ_v2744.2.2.2.2.1
            exact RET _ _ _ _ _ _ _ HX2745 dX7_set_90 (⟨rfl, ⟨⟨hJ_v2744, (show v2744 397 9 = v 397 9 from ((show v2744 397 9 = nI (n9) from ((h2742.1.2).trans (by rw [e2740, fa_u_n _ _ (by omega)]; exact (by rw [h2736.2 _ (by omega)]; exact g9)))).trans g9.symm))⟩, (fa_fr.tr (by rw [e2740]; exact fa_fr.u (fa_fr.tr fa_fr.rf (fa_fr.wide h2736.2 (by omega) (by omega))) (by omega)) (fa_fr.wide h2742.2 (by omega) (by omega)))⟩⟩)
          · refine lv_bipush (v := (-2 : Int32)) hx hb dX7_set_64 (by decide) ?_
            exact RET _ _ _ _ _ _ _ HX2735 dX7_set_66 (⟨rfl, ⟨⟨hJ, (show v 397 9 = v 397 9 from rfl)⟩, fa_fr.rf⟩⟩)
    · refine lv_bipush (v := nI (30)) hx hb dX7_set_18 (by decide) ?_
      refine lv_goto (tgt := 34) hx hb dX7_set_20 (by decide) ?_
      refine lv_iload_n hx hb dX7_set_34 rfl (lv_at hl 1 rfl) ?_
      rw [show a1 = nI (ja) from eja]
      refine lv_iconst (v := nI (5)) hx hb dX7_set_35 (by decide) ?_
      refine lv_icmp_ge (tgt := 45) hx hb dX7_set_36 (by decide) (fun c_36 => ?_) (fun c_36 => ?_)
      · refine lv_iload_n hx hb dX7_set_45 rfl (lv_at hl 1 rfl) ?_
        rw [show a1 = nI (ja) from eja]
        refine lv_iconst (v := nI (5)) hx hb dX7_set_46 (by decide) ?_
        refine lv_icmp_ne (tgt := 55) hx hb dX7_set_47 (by decide) (fun c_47 => ?_) (fun c_47 => ?_)
        · refine lv_sipush (v := nI (600)) hx hb dX7_set_55 (by decide) ?_
          refine fa_callSip (As := [.int (a2), .int (nI (30)), .int (nI (600))]) (rest := []) CX HX2667 (r_in l G n v r (a2) (nI (30)) (nI (600))) ln_X7_86 rfl rfl (Nat.le_of_ble_eq_true rfl) hl.1 ⟨Nat.le_of_ble_eq_true rfl, Nat.le_of_ble_eq_true rfl⟩ ⟨Nat.le_refl _, Nat.le_refl _⟩ dX7_set_58 (fun x2747 H locs h2746 HX2748 => ?_)
          have h_in_58 := h2746
          refine lv_if_ne (tgt := 67) hx hb dX7_set_61 (by decide) (fun c_61 => ?_) (fun c_61 => ?_)
          · refine lv_aload_n hx hb dX7_set_67 rfl (lv_at hl 0 rfl) ?_
            refine fa_callVvu (As := []) (rest := []) CX HX2748 (r_hold l G n hn v r hM) ln_X7_102 (by omega) rfl rfl rfl rfl (Nat.le_of_ble_eq_true rfl) hl.1 ⟨Nat.le_of_ble_eq_true rfl, Nat.le_of_ble_eq_true rfl⟩ ⟨Nat.le_refl _, Nat.le_refl _⟩ dX7_set_68 (fun v2750 H locs h2749 HX2751 => ?_)
            have h_hold := h2749.1
            refine lv_aload_n hx hb dX7_set_71 rfl (lv_at hl 0 rfl) ?_
            refine fa_getr (k := 397) (j := 398) CX HX2751 fl_X7_7 (by omega) rfl rfl hM.1 dX7_set_72 ?_
            refine lv_iload_n hx hb dX7_set_75 rfl (lv_at hl 1 rfl) ?_
            rw [show a1 = nI (ja) from eja]
            refine fa_iald (k := 398) (j := ja) CX HX2751 (by omega) rfl (by omega) (by first | decide | assumption) dX7_set_76 ?_
            refine lv_istore_n (lv' := [(3, .int (v2750 398 ja)), (0, .ref (fa_B G + (397))), (1, .int (a1)), (2, .int (a2))]) hx hb dX7_set_77 rfl hl (by decide) rfl (fun ls hl => ?_)
            refine lv_aload_n hx hb dX7_set_78 rfl (lv_at hl 1 rfl) ?_
            refine fa_getr (k := 397) (j := 398) CX HX2751 fl_X7_7 (by omega) rfl rfl hM.1 dX7_set_79 ?_
            refine lv_iload_n hx hb dX7_set_82 rfl (lv_at hl 2 rfl) ?_
            rw [show a1 = nI (ja) from eja]
            refine lv_iload_n hx hb dX7_set_83 rfl (lv_at hl 3 rfl) ?_
            refine fa_iast (k := 398) (j := ja) CX HX2751 (by omega) rfl (by omega) (by first | decide | assumption) dX7_set_84 (fun H locs v2752 e2753 HX2754 => ?_)
            refine lv_aload_n hx hb dX7_set_85 rfl (lv_at hl 1 rfl) ?_
            refine lv_iload_n hx hb dX7_set_86 rfl (lv_at hl 0 rfl) ?_
            refine fa_callViu (As := [.int (v2750 398 ja)]) (rest := []) CX HX2754 (r_recorded l G n hn v2752 r hM (show fa_MJ v2752 from ⟨(show fa_MS (v2752 398) from by rw [e2753]; exact fa_MS.u (show fa_MS (v2750 398) from by rw [h2749.2 398 (by omega)]; exact hJ.1) (fa_ok.o (by omega) (by omega) (by omega) (fun p hp => by omega))), (show fa_MS (v2752 399) from by rw [e2753, fa_u_k _ _ (by decide)]; exact (fa_MS.cp hJ.1 h2749.1)), (show fa_MS (v2752 400) from by rw [e2753, fa_u_k _ _ (by decide)]; exact (show fa_MS (v2750 400) from by rw [h2749.2 400 (by omega)]; exact hJ.2.2.1)), (show fa_MB (v2752 401) from by rw [e2753, fa_u_k _ _ (by decide)]; exact (show fa_MB (v2750 401) from by rw [h2749.2 401 (by omega)]; exact hJ.2.2.2.1)), ⟨n10, by omega, (by rw [e2753, fa_u_n _ _ (by omega)]; exact (by rw [h2749.2 _ (by omega)]; exact g10))⟩, ⟨n9, by omega, (by rw [e2753, fa_u_n _ _ (by omega)]; exact (by rw [h2749.2 _ (by omega)]; exact g9))⟩⟩) (v2750 398 ja)) ln_X7_109 (by omega) rfl rfl rfl rfl (Nat.le_of_ble_eq_true rfl) hl.1 ⟨Nat.le_of_ble_eq_true rfl, Nat.le_of_ble_eq_true rfl⟩ ⟨Nat.le_refl _, Nat.le_refl _⟩ dX7_set_87 (fun x2756 v2757 H locs h2755 HX2758 => ?_)
            have hJ_v2757 := h2755.1.1
            obtain ⟨n10_v2757, hn10_v2757, g10_v2757⟩ := hJ_v2757.2.2.2.2.1
            exact RET _ _ _ _ _ _ _ HX2758 dX7_set_90 (⟨rfl, ⟨⟨hJ_v2757, (show v2757 397 9 = v 397 9 from ((show v2757 397 9 = nI (n9) from ((h2755.1.2).trans (by rw [e2753, fa_u_n _ _ (by omega)]; exact (by rw [h2749.2 _ (by omega)]; exact g9)))).trans g9.symm))⟩, (fa_fr.tr (by rw [e2753]; exact fa_fr.u (fa_fr.tr fa_fr.rf (fa_fr.wide h2749.2 (by omega) (by omega))) (by omega)) (fa_fr.wide h2755.2 (by omega) (by omega)))⟩⟩)
          · refine lv_bipush (v := (-2 : Int32)) hx hb dX7_set_64 (by decide) ?_
            exact RET _ _ _ _ _ _ _ HX2748 dX7_set_66 (⟨rfl, ⟨⟨hJ, (show v 397 9 = v 397 9 from rfl)⟩, fa_fr.rf⟩⟩)
        · refine lv_bipush (v := nI (20)) hx hb dX7_set_50 (by decide) ?_
          refine lv_goto (tgt := 58) hx hb dX7_set_52 (by decide) ?_
          refine fa_callSip (As := [.int (a2), .int (nI (30)), .int (nI (20))]) (rest := []) CX HX2667 (r_in l G n v r (a2) (nI (30)) (nI (20))) ln_X7_86 rfl rfl (Nat.le_of_ble_eq_true rfl) hl.1 ⟨Nat.le_of_ble_eq_true rfl, Nat.le_of_ble_eq_true rfl⟩ ⟨Nat.le_refl _, Nat.le_refl _⟩ dX7_set_58 (fun x2760 H locs h2759 HX2761 => ?_)
          have h_in_58 := h2759
          refine lv_if_ne (tgt := 67) hx hb dX7_set_61 (by decide) (fun c_61 => ?_) (fun c_61 => ?_)
          · refine lv_aload_n hx hb dX7_set_67 rfl (lv_at hl 0 rfl) ?_
            refine fa_callVvu (As := []) (rest := []) CX HX2761 (r_hold l G n hn v r hM) ln_X7_102 (by omega) rfl rfl rfl rfl (Nat.le_of_ble_eq_true rfl) hl.1 ⟨Nat.le_of_ble_eq_true rfl, Nat.le_of_ble_eq_true rfl⟩ ⟨Nat.le_refl _, Nat.le_refl _⟩ dX7_set_68 (fun v2763 H locs h2762 HX2764 => ?_)
            have h_hold := h2762.1
            refine lv_aload_n hx hb dX7_set_71 rfl (lv_at hl 0 rfl) ?_
            refine fa_getr (k := 397) (j := 398) CX HX2764 fl_X7_7 (by omega) rfl rfl hM.1 dX7_set_72 ?_
            refine lv_iload_n hx hb dX7_set_75 rfl (lv_at hl 1 rfl) ?_
            rw [show a1 = nI (ja) from eja]
            refine fa_iald (k := 398) (j := ja) CX HX2764 (by omega) rfl (by omega) (by first | decide | assumption) dX7_set_76 ?_
            refine lv_istore_n (lv' := [(3, .int (v2763 398 ja)), (0, .ref (fa_B G + (397))), (1, .int (a1)), (2, .int (a2))]) hx hb dX7_set_77 rfl hl (by decide) rfl (fun ls hl => ?_)
            refine lv_aload_n hx hb dX7_set_78 rfl (lv_at hl 1 rfl) ?_
            refine fa_getr (k := 397) (j := 398) CX HX2764 fl_X7_7 (by omega) rfl rfl hM.1 dX7_set_79 ?_
            refine lv_iload_n hx hb dX7_set_82 rfl (lv_at hl 2 rfl) ?_
            rw [show a1 = nI (ja) from eja]
            refine lv_iload_n hx hb dX7_set_83 rfl (lv_at hl 3 rfl) ?_
            refine fa_iast (k := 398) (j := ja) CX HX2764 (by omega) rfl (by omega) (by first | decide | assumption) dX7_set_84 (fun H locs v2765 e2766 HX2767 => ?_)
            refine lv_aload_n hx hb dX7_set_85 rfl (lv_at hl 1 rfl) ?_
            refine lv_iload_n hx hb dX7_set_86 rfl (lv_at hl 0 rfl) ?_
            refine fa_callViu (As := [.int (v2763 398 ja)]) (rest := []) CX HX2767 (r_recorded l G n hn v2765 r hM (show fa_MJ v2765 from ⟨(show fa_MS (v2765 398) from by rw [e2766]; exact fa_MS.u (show fa_MS (v2763 398) from by rw [h2762.2 398 (by omega)]; exact hJ.1) (fa_ok.o (by omega) (by omega) (by omega) (fun p hp => by omega))), (show fa_MS (v2765 399) from by rw [e2766, fa_u_k _ _ (by decide)]; exact (fa_MS.cp hJ.1 h2762.1)), (show fa_MS (v2765 400) from by rw [e2766, fa_u_k _ _ (by decide)]; exact (show fa_MS (v2763 400) from by rw [h2762.2 400 (by omega)]; exact hJ.2.2.1)), (show fa_MB (v2765 401) from by rw [e2766, fa_u_k _ _ (by decide)]; exact (show fa_MB (v2763 401) from by rw [h2762.2 401 (by omega)]; exact hJ.2.2.2.1)), ⟨n10, by omega, (by rw [e2766, fa_u_n _ _ (by omega)]; exact (by rw [h2762.2 _ (by omega)]; exact g10))⟩, ⟨n9, by omega, (by rw [e2766, fa_u_n _ _ (by omega)]; exact (by rw [h2762.2 _ (by omega)]; exact g9))⟩⟩) (v2763 398 ja)) ln_X7_109 (by omega) rfl rfl rfl rfl (Nat.le_of_ble_eq_true rfl) hl.1 ⟨Nat.le_of_ble_eq_true rfl, Nat.le_of_ble_eq_true rfl⟩ ⟨Nat.le_refl _, Nat.le_refl _⟩ dX7_set_87 (fun x2769 v2770 H locs h2768 HX2771 => ?_)
            have hJ_v2770 := h2768.1.1
            obtain ⟨n10_v2770, hn10_v2770, g10_v2770⟩ := hJ_v2770.2.2.2.2.1
            exact RET _ _ _ _ _ _ _ HX2771 dX7_set_90 (⟨rfl, ⟨⟨hJ_v2770, (show v2770 397 9 = v 397 9 from ((show v2770 397 9 = nI (n9) from ((h2768.1.2).trans (by rw [e2766, fa_u_n _ _ (by omega)]; exact (by rw [h2762.2 _ (by omega)]; exact g9)))).trans g9.symm))⟩, (fa_fr.tr (by rw [e2766]; exact fa_fr.u (fa_fr.tr fa_fr.rf (fa_fr.wide h2762.2 (by omega) (by omega))) (by omega)) (fa_fr.wide h2768.2 (by omega) (by omega)))⟩⟩)
          · refine lv_bipush (v := (-2 : Int32)) hx hb dX7_set_64 (by decide) ?_
            exact RET _ _ _ _ _ _ _ HX2761 dX7_set_66 (⟨rfl, ⟨⟨hJ, (show v 397 9 = v 397 9 from rfl)⟩, fa_fr.rf⟩⟩)
      · refine lv_sipush (v := nI (2000)) hx hb dX7_set_39 (by decide) ?_
        refine lv_goto (tgt := 58) hx hb dX7_set_42 (by decide) ?_
        refine fa_callSip (As := [.int (a2), .int (nI (30)), .int (nI (2000))]) (rest := []) CX HX2667 (r_in l G n v r (a2) (nI (30)) (nI (2000))) ln_X7_86 rfl rfl (Nat.le_of_ble_eq_true rfl) hl.1 ⟨Nat.le_of_ble_eq_true rfl, Nat.le_of_ble_eq_true rfl⟩ ⟨Nat.le_refl _, Nat.le_refl _⟩ dX7_set_58 (fun x2773 H locs h2772 HX2774 => ?_)
        have h_in_58 := h2772
        refine lv_if_ne (tgt := 67) hx hb dX7_set_61 (by decide) (fun c_61 => ?_) (fun c_61 => ?_)
        · refine lv_aload_n hx hb dX7_set_67 rfl (lv_at hl 0 rfl) ?_
          refine fa_callVvu (As := []) (rest := []) CX HX2774 (r_hold l G n hn v r hM) ln_X7_102 (by omega) rfl rfl rfl rfl (Nat.le_of_ble_eq_true rfl) hl.1 ⟨Nat.le_of_ble_eq_true rfl, Nat.le_of_ble_eq_true rfl⟩ ⟨Nat.le_refl _, Nat.le_refl _⟩ dX7_set_68 (fun v2776 H locs h2775 HX2777 => ?_)
          have h_hold := h2775.1
          refine lv_aload_n hx hb dX7_set_71 rfl (lv_at hl 0 rfl) ?_
          refine fa_getr (k := 397) (j := 398) CX HX2777 fl_X7_7 (by omega) rfl rfl hM.1 dX7_set_72 ?_
          refine lv_iload_n hx hb dX7_set_75 rfl (lv_at hl 1 rfl) ?_
          rw [show a1 = nI (ja) from eja]
          refine fa_iald (k := 398) (j := ja) CX HX2777 (by omega) rfl (by omega) (by first | decide | assumption) dX7_set_76 ?_
          refine lv_istore_n (lv' := [(3, .int (v2776 398 ja)), (0, .ref (fa_B G + (397))), (1, .int (a1)), (2, .int (a2))]) hx hb dX7_set_77 rfl hl (by decide) rfl (fun ls hl => ?_)
          refine lv_aload_n hx hb dX7_set_78 rfl (lv_at hl 1 rfl) ?_
          refine fa_getr (k := 397) (j := 398) CX HX2777 fl_X7_7 (by omega) rfl rfl hM.1 dX7_set_79 ?_
          refine lv_iload_n hx hb dX7_set_82 rfl (lv_at hl 2 rfl) ?_
          rw [show a1 = nI (ja) from eja]
          refine lv_iload_n hx hb dX7_set_83 rfl (lv_at hl 3 rfl) ?_
          refine fa_iast (k := 398) (j := ja) CX HX2777 (by omega) rfl (by omega) (by first | decide | assumption) dX7_set_84 (fun H locs v2778 e2779 HX2780 => ?_)
          refine lv_aload_n hx hb dX7_set_85 rfl (lv_at hl 1 rfl) ?_
          refine lv_iload_n hx hb dX7_set_86 rfl (lv_at hl 0 rfl) ?_
          refine fa_callViu (As := [.int (v2776 398 ja)]) (rest := []) CX HX2780 (r_recorded l G n hn v2778 r hM (show fa_MJ v2778 from ⟨(show fa_MS (v2778 398) from by rw [e2779]; exact fa_MS.u (show fa_MS (v2776 398) from by rw [h2775.2 398 (by omega)]; exact hJ.1) (fa_ok.o (by omega) (by omega) (by omega) (fun p hp => by omega))), (show fa_MS (v2778 399) from by rw [e2779, fa_u_k _ _ (by decide)]; exact (fa_MS.cp hJ.1 h2775.1)), (show fa_MS (v2778 400) from by rw [e2779, fa_u_k _ _ (by decide)]; exact (show fa_MS (v2776 400) from by rw [h2775.2 400 (by omega)]; exact hJ.2.2.1)), (show fa_MB (v2778 401) from by rw [e2779, fa_u_k _ _ (by decide)]; exact (show fa_MB (v2776 401) from by rw [h2775.2 401 (by omega)]; exact hJ.2.2.2.1)), ⟨n10, by omega, (by rw [e2779, fa_u_n _ _ (by omega)]; exact (by rw [h2775.2 _ (by omega)]; exact g10))⟩, ⟨n9, by omega, (by rw [e2779, fa_u_n _ _ (by omega)]; exact (by rw [h2775.2 _ (by omega)]; exact g9))⟩⟩) (v2776 398 ja)) ln_X7_109 (by omega) rfl rfl rfl rfl (Nat.le_of_ble_eq_true rfl) hl.1 ⟨Nat.le_of_ble_eq_true rfl, Nat.le_of_ble_eq_true rfl⟩ ⟨Nat.le_refl _, Nat.le_refl _⟩ dX7_set_87 (fun x2782 v2783 H locs h2781 HX2784 => ?_)
          have hJ_v2783 := h2781.1.1
          obtain ⟨n10_v2783, hn10_v2783, g10_v2783⟩ := hJ_v2783.2.2.2.2.1
          exact RET _ _ _ _ _ _ _ HX2784 dX7_set_90 (⟨rfl, ⟨⟨hJ_v2783, (show v2783 397 9 = v 397 9 from ((show v2783 397 9 = nI (n9) from ((h2781.1.2).trans (by rw [e2779, fa_u_n _ _ (by omega)]; exact (by rw [h2775.2 _ (by omega)]; exact g9)))).trans g9.symm))⟩, (fa_fr.tr (by rw [e2779]; exact fa_fr.u (fa_fr.tr fa_fr.rf (fa_fr.wide h2775.2 (by omega) (by omega))) (by omega)) (fa_fr.wide h2781.2 (by omega) (by omega)))⟩⟩)
        · refine lv_bipush (v := (-2 : Int32)) hx hb dX7_set_64 (by decide) ?_
          exact RET _ _ _ _ _ _ _ HX2774 dX7_set_66 (⟨rfl, ⟨⟨hJ, (show v 397 9 = v 397 9 from rfl)⟩, fa_fr.rf⟩⟩)
  · refine lv_iconst (v := (-1 : Int32)) hx hb dX7_set_10 (by decide) ?_
    exact RET _ _ _ _ _ _ _ HX2667 dX7_set_11 (⟨rfl, ⟨⟨hJ, (show v 397 9 = v 397 9 from rfl)⟩, fa_fr.rf⟩⟩)
set_option maxHeartbeats 4000000 in
set_option maxRecDepth 100000 in
theorem r_append (l : Launch) (G : fa_G) (n : Nat) (hn : 406 ≤ n) (v : fa_V) (r : fa_R) (hM : fa_RM r) (hJ : fa_MJ v) (a1 : Int32) : fa_MI l G n yX7_append cX7_append 2 (some .int) 2 [.ref (fa_B G + (397)), .int (a1)] v r (fa_voi r (fun x v1 => ((fa_MJ v1) ∧ ((¬ (nI 32 ≤ a1 ∧ a1 ≤ nI 126) ∧ x = (-2 : Int32) ∧ v1 = v) ∨ ((nI 32 ≤ a1 ∧ a1 ≤ nI 126) ∧ ((x = (-4 : Int32) ∧ 60 ≤ fa_N (v 397 9) ∧ v1 = v) ∨ (x = nI (fa_N (v 397 9) + 1) ∧ fa_N (v 397 9) < 60 ∧ v1 = fa_put7 v (((a1).toUInt32 % 65536).toInt32)))))) ∧ (fa_fr (397) (406) v v1))) := by
  refine fa_startI (by decide +kernel) (Nat.le_of_ble_eq_true rfl) (fun p e s m args below meth c ls Q CX hl HX RET => ?_)
  have hl : lv_has ls 2 [(0, .ref (fa_B G + (397))), (1, .int (a1))] := hl
  have hx := CX.1.1
  have hb := CX.1.2.1
  have hS := hJ.1
  obtain ⟨n4, en4⟩ : ∃ m, m = fa_N (v 398 14) := ⟨_, rfl⟩
  obtain ⟨hn4, g4⟩ := hS.n4 en4
  obtain ⟨n5, en5⟩ : ∃ m, m = fa_N (v 398 15) := ⟨_, rfl⟩
  obtain ⟨hn5, g5⟩ := hS.n5 en5
  obtain ⟨n6, en6⟩ : ∃ m, m = fa_N (v 398 16) := ⟨_, rfl⟩
  obtain ⟨hn6, g6⟩ := hS.n6 en6
  obtain ⟨n10, hn10, g10⟩ := hJ.2.2.2.2.1
  obtain ⟨n9, hn9, g9⟩ := hJ.2.2.2.2.2
  have en9 : fa_N (v 397 9) = n9 := by rw [g9]; exact fa_N_nI (by omega)
  refine lv_iload_n hx hb dX7_append_0 rfl (lv_at hl 1 rfl) ?_
  refine lv_bipush (v := nI (32)) hx hb dX7_append_1 (by decide) ?_
  refine lv_bipush (v := nI (126)) hx hb dX7_append_3 (by decide) ?_
  refine fa_callSip (As := [.int (a1), .int (nI (32)), .int (nI (126))]) (rest := []) CX HX (r_in l G n v r (a1) (nI (32)) (nI (126))) ln_X7_86 rfl rfl (Nat.le_of_ble_eq_true rfl) hl.1 ⟨Nat.le_of_ble_eq_true rfl, Nat.le_of_ble_eq_true rfl⟩ ⟨Nat.le_refl _, Nat.le_refl _⟩ dX7_append_5 (fun x2786 H locs h2785 HX2787 => ?_)
  have h_in_5 := h2785
  refine lv_if_ne (tgt := 14) hx hb dX7_append_8 (by decide) (fun c_8 => ?_) (fun c_8 => ?_)
  · refine lv_aload_n hx hb dX7_append_14 rfl (lv_at hl 0 rfl) ?_
    refine fa_geti (k := 397) CX HX2787 fl_X7_131 (by omega) rfl rfl dX7_append_15 ?_
    rw [show v 397 9 = nI (n9) from g9]
    refine lv_bipush (v := nI (60)) hx hb dX7_append_18 (by decide) ?_
    refine lv_icmp_ne (tgt := 26) hx hb dX7_append_20 (by decide) (fun c_20 => ?_) (fun c_20 => ?_)
    · have hne : ¬ n9 = 60 := fun z => c_20 (by rw [z])
      refine lv_aload_n hx hb dX7_append_26 rfl (lv_at hl 0 rfl) ?_
      refine fa_getr (k := 397) (j := 405) CX HX2787 fl_X7_32 (by omega) rfl rfl hM.2.2.2.2.2.2.2 dX7_append_27 ?_
      refine lv_aload_n hx hb dX7_append_30 rfl (lv_at hl 0 rfl) ?_
      refine fa_geti (k := 397) CX HX2787 fl_X7_131 (by omega) rfl rfl dX7_append_31 ?_
      rw [show v 397 9 = nI (n9) from g9]
      refine lv_iload_n hx hb dX7_append_34 rfl (lv_at hl 1 rfl) ?_
      refine lv_i2c hx hb dX7_append_35 rfl ?_
      refine fa_cast (k := 405) (j := n9) CX HX2787 (by omega) rfl (by omega) (by first | decide | assumption) dX7_append_36 (fun H locs v2788 e2789 HX2790 => ?_)
      refine lv_aload_n hx hb dX7_append_37 rfl (lv_at hl 0 rfl) ?_
      refine lv_dup hx hb dX7_append_38 rfl ?_
      refine fa_geti (k := 397) CX HX2790 fl_X7_131 (by omega) rfl rfl dX7_append_39 ?_
      rw [show v2788 397 9 = nI (n9) from (by rw [e2789, fa_u_n _ _ (by omega)]; exact g9)]
      refine lv_iconst (v := nI (1)) hx hb dX7_append_42 (by decide) ?_
      refine fa_iaddN hx hb dX7_append_43 ?_
      refine fa_puti (k := 397) CX HX2790 fl_X7_131 (by omega) rfl rfl rfl rfl dX7_append_44 (fun H locs v2791 e2792 HX2793 => ?_)
      refine lv_aload_n hx hb dX7_append_47 rfl (lv_at hl 0 rfl) ?_
      refine fa_geti (k := 397) CX HX2793 fl_X7_131 (by omega) rfl rfl dX7_append_48 ?_
      rw [show v2791 397 9 = nI (n9 + 1) from (by rw [e2792, fa_u_s])]
      exact RET _ _ _ _ _ _ _ HX2793 dX7_append_51 (⟨rfl, ⟨⟨(show fa_MJ v2791 from ⟨(show fa_MS (v2791 398) from by rw [e2792, fa_u_k _ _ (by decide)]; exact (show fa_MS (v2788 398) from by rw [e2789, fa_u_k _ _ (by decide)]; exact hJ.1)), (show fa_MS (v2791 399) from by rw [e2792, fa_u_k _ _ (by decide)]; exact (show fa_MS (v2788 399) from by rw [e2789, fa_u_k _ _ (by decide)]; exact hJ.2.1)), (show fa_MS (v2791 400) from by rw [e2792, fa_u_k _ _ (by decide)]; exact (show fa_MS (v2788 400) from by rw [e2789, fa_u_k _ _ (by decide)]; exact hJ.2.2.1)), (show fa_MB (v2791 401) from by rw [e2792, fa_u_k _ _ (by decide)]; exact (show fa_MB (v2788 401) from by rw [e2789, fa_u_k _ _ (by decide)]; exact hJ.2.2.2.1)), ⟨n10, by omega, (by rw [e2792, fa_u_n _ _ (by omega)]; exact (by rw [e2789, fa_u_n _ _ (by omega)]; exact g10))⟩, ⟨n9 + 1, by omega, (by rw [e2792, fa_u_s])⟩⟩), (Or.inr ⟨fa_inr1 h_in_5 c_8, Or.inr ⟨(by rw [en9]), (by omega), (by show v2791 = _; rw [e2792, e2789]; exact (fa_put7_eq g9 (by omega)).symm)⟩⟩)⟩, (by rw [e2792]; exact fa_fr.u (by rw [e2789]; exact fa_fr.u fa_fr.rf (by omega)) (by omega))⟩⟩)
    · have he : n9 = 60 := fa_nIinj (by omega) (by omega) c_20
      refine lv_bipush (v := (-4 : Int32)) hx hb dX7_append_23 (by decide) ?_
      exact RET _ _ _ _ _ _ _ HX2787 dX7_append_25 (⟨rfl, ⟨⟨hJ, (Or.inr ⟨fa_inr1 h_in_5 c_8, Or.inl ⟨rfl, (by omega), rfl⟩⟩)⟩, fa_fr.rf⟩⟩)
  · refine lv_bipush (v := (-2 : Int32)) hx hb dX7_append_11 (by decide) ?_
    exact RET _ _ _ _ _ _ _ HX2787 dX7_append_13 (⟨rfl, ⟨⟨hJ, (Or.inl ⟨fa_inr0 h_in_5 c_8, rfl, rfl⟩)⟩, fa_fr.rf⟩⟩)
set_option maxHeartbeats 4000000 in
set_option maxRecDepth 100000 in
theorem r_clearText (l : Launch) (G : fa_G) (n : Nat) (hn : 406 ≤ n) (v : fa_V) (r : fa_R) (hM : fa_RM r) (hJ : fa_MJ v) : fa_MI l G n yX7_clearText cX7_clearText 2 (some .int) 1 [.ref (fa_B G + (397))] v r (fa_voi r (fun x v1 => ((fa_MJ v1) ∧ (x = v 397 9 ∧ v1 = fa_u v 397 9 (nI 0))) ∧ (fa_fr (397) (405) v v1))) := by
  refine fa_startI (by decide +kernel) (Nat.le_of_ble_eq_true rfl) (fun p e s m args below meth c ls Q CX hl HX RET => ?_)
  have hl : lv_has ls 2 [(0, .ref (fa_B G + (397)))] := hl
  have hx := CX.1.1
  have hb := CX.1.2.1
  have hS := hJ.1
  obtain ⟨n4, en4⟩ : ∃ m, m = fa_N (v 398 14) := ⟨_, rfl⟩
  obtain ⟨hn4, g4⟩ := hS.n4 en4
  obtain ⟨n5, en5⟩ : ∃ m, m = fa_N (v 398 15) := ⟨_, rfl⟩
  obtain ⟨hn5, g5⟩ := hS.n5 en5
  obtain ⟨n6, en6⟩ : ∃ m, m = fa_N (v 398 16) := ⟨_, rfl⟩
  obtain ⟨hn6, g6⟩ := hS.n6 en6
  obtain ⟨n10, hn10, g10⟩ := hJ.2.2.2.2.1
  obtain ⟨n9, hn9, g9⟩ := hJ.2.2.2.2.2
  refine lv_aload_n hx hb dX7_clearText_0 rfl (lv_at hl 0 rfl) ?_
  refine fa_geti (k := 397) CX HX fl_X7_131 (by omega) rfl rfl dX7_clearText_1 ?_
  rw [show v 397 9 = nI (n9) from g9]
  refine lv_istore_n (lv' := [(1, .int (nI (n9))), (0, .ref (fa_B G + (397)))]) hx hb dX7_clearText_4 rfl hl (by decide) rfl (fun ls hl => ?_)
  refine lv_aload_n hx hb dX7_clearText_5 rfl (lv_at hl 1 rfl) ?_
  refine lv_iconst (v := nI (0)) hx hb dX7_clearText_6 (by decide) ?_
  refine fa_puti (k := 397) CX HX fl_X7_131 (by omega) rfl rfl rfl rfl dX7_clearText_7 (fun H locs v2794 e2795 HX2796 => ?_)
  refine lv_iload_n hx hb dX7_clearText_10 rfl (lv_at hl 0 rfl) ?_
  exact RET _ _ _ _ _ _ _ HX2796 dX7_clearText_11 (⟨rfl, ⟨⟨(show fa_MJ v2794 from ⟨(show fa_MS (v2794 398) from by rw [e2795, fa_u_k _ _ (by decide)]; exact hJ.1), (show fa_MS (v2794 399) from by rw [e2795, fa_u_k _ _ (by decide)]; exact hJ.2.1), (show fa_MS (v2794 400) from by rw [e2795, fa_u_k _ _ (by decide)]; exact hJ.2.2.1), (show fa_MB (v2794 401) from by rw [e2795, fa_u_k _ _ (by decide)]; exact hJ.2.2.2.1), ⟨n10, by omega, (by rw [e2795, fa_u_n _ _ (by omega)]; exact g10)⟩, ⟨0, by omega, (by rw [e2795, fa_u_s])⟩⟩), ⟨g9.symm, (by show v2794 = _; rw [e2795])⟩⟩, (by rw [e2795]; exact fa_fr.u fa_fr.rf (by omega))⟩⟩)
