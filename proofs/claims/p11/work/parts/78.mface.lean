set_option maxHeartbeats 4000000 in
set_option maxRecDepth 100000 in
theorem r_recorded (l : Launch) (G : fa_G) (n : Nat) (hn : 406 ≤ n) (v : fa_V) (r : fa_R) (hM : fa_RM r) (hJ : fa_MJ v) (a1 : Int32) : fa_MI l G n yX7_recorded cX7_recorded 3 (some .int) 2 [.ref (fa_B G + (397)), .int (a1)] v r (fa_voi r (fun x v1 => ((fa_MJ v1) ∧ (v1 397 9 = v 397 9)) ∧ (fa_fr (397) (402) v v1))) := by
  refine fa_startI (by decide +kernel) (Nat.le_of_ble_eq_true rfl) (fun p e s m args below meth c ls Q CX hl HX RET => ?_)
  have hl : lv_has ls 3 [(0, .ref (fa_B G + (397))), (1, .int (a1))] := hl
  have hx := CX.1.1
  have hb := CX.1.2.1
  have hS := hJ.1
  obtain ⟨n4, en4⟩ : ∃ m, m = fa_N (v 398 14) := ⟨_, rfl⟩
  obtain ⟨hn4, g4⟩ := hS.n4 en4
  obtain ⟨n5, en5⟩ : ∃ m, m = fa_N (v 398 15) := ⟨_, rfl⟩
  obtain ⟨hn5, g5⟩ := hS.n5 en5
  obtain ⟨n6, en6⟩ : ∃ m, m = fa_N (v 398 16) := ⟨_, rfl⟩
  obtain ⟨hn6, g6⟩ := hS.n6 en6
  obtain ⟨n10, hn10, g10⟩ := hJ.2.2.2.2.1
  obtain ⟨n9, hn9, g9⟩ := hJ.2.2.2.2.2
  refine lv_iload_n hx hb dX7_recorded_0 rfl (lv_at hl 1 rfl) ?_
  refine lv_if_ge (tgt := 10) hx hb dX7_recorded_1 (by decide) (fun c_1 => ?_) (fun c_1 => ?_)
  · refine lv_aload_n hx hb dX7_recorded_10 rfl (lv_at hl 0 rfl) ?_
    refine fa_geti (k := 397) CX HX fl_X7_40 (by omega) rfl rfl dX7_recorded_11 ?_
    rw [show v 397 10 = nI (n10) from g10]
    refine lv_iconst (v := nI (4)) hx hb dX7_recorded_14 (by decide) ?_
    refine lv_icmp_ne (tgt := 59) hx hb dX7_recorded_15 (by decide) (fun c_15 => ?_) (fun c_15 => ?_)
    · have hne : ¬ n10 = 4 := fun z => c_15 (by rw [z])
      refine lv_iconst (v := nI (0)) hx hb dX7_recorded_59 (by decide) ?_
      refine lv_istore_n (lv' := [(2, .int (nI (0))), (0, .ref (fa_B G + (397))), (1, .int (a1))]) hx hb dX7_recorded_60 rfl hl (by decide) rfl (fun ls hl => ?_)
      have LOOP_61 : ∀ (fu : Nat) (k : Nat) (v2496 : fa_V) (H : Heap) (locs : List Loc) (ls : Array Slot), 453 - k < fu → (k ≤ 453 ∧ fa_MB (v2496 401) ∧ fa_fr 401 402 v v2496) → lv_has ls 3 [(0, .ref (fa_B G + (397))), (1, .int (a1)), (2, .int (nI (k)))] → fa_HX G (n) v2496 r s H locs → W p l e (fa_rm 2) s m args below meth c H locs (0) (0) Q (F0 m 61 ls []) := by
        intro fu
        induction fu with
        | zero => intro k v2496 H locs ls hk; exact absurd hk (Nat.not_lt_zero _)
        | succ fu ih_61 =>
          intro k v2496 H locs ls hk_61 hi_61 hl HX2497
          refine lv_iload_n hx hb dX7_recorded_61 rfl (lv_at hl 2 rfl) ?_
          refine lv_sipush (v := nI (453)) hx hb dX7_recorded_62 (by decide) ?_
          refine lv_icmp_ge (tgt := 95) hx hb dX7_recorded_65 (by decide) (fun c_65 => ?_) (fun c_65 => ?_)
          · refine lv_aload_n hx hb dX7_recorded_95 rfl (lv_at hl 0 rfl) ?_
            refine lv_dup hx hb dX7_recorded_96 rfl ?_
            refine fa_geti (k := 397) CX HX2497 fl_X7_40 (by omega) rfl rfl dX7_recorded_97 ?_
            rw [show v2496 397 10 = nI (n10) from (by rw [hi_61.2.2 _ (by omega)]; exact g10)]
            refine lv_iconst (v := nI (1)) hx hb dX7_recorded_100 (by decide) ?_
            refine fa_iaddN hx hb dX7_recorded_101 ?_
            refine fa_puti (k := 397) CX HX2497 fl_X7_40 (by omega) rfl rfl rfl rfl dX7_recorded_102 (fun H locs v2498 e2499 HX2500 => ?_)
            refine lv_iload_n hx hb dX7_recorded_105 rfl (lv_at hl 1 rfl) ?_
            exact RET _ _ _ _ _ _ _ HX2500 dX7_recorded_106 (⟨rfl, ⟨⟨(show fa_MJ v2498 from ⟨(show fa_MS (v2498 398) from by rw [e2499, fa_u_k _ _ (by decide)]; exact (show fa_MS (v2496 398) from by rw [hi_61.2.2 398 (by omega)]; exact hJ.1)), (show fa_MS (v2498 399) from by rw [e2499, fa_u_k _ _ (by decide)]; exact (show fa_MS (v2496 399) from by rw [hi_61.2.2 399 (by omega)]; exact hJ.2.1)), (show fa_MS (v2498 400) from by rw [e2499, fa_u_k _ _ (by decide)]; exact (show fa_MS (v2496 400) from by rw [hi_61.2.2 400 (by omega)]; exact hJ.2.2.1)), (show fa_MB (v2498 401) from by rw [e2499, fa_u_k _ _ (by decide)]; exact hi_61.2.1), ⟨n10 + 1, by omega, (by rw [e2499, fa_u_s])⟩, ⟨n9, by omega, (by rw [e2499, fa_u_n _ _ (by omega)]; exact (by rw [hi_61.2.2 _ (by omega)]; exact g9))⟩⟩), (show v2498 397 9 = v 397 9 from ((show v2498 397 9 = nI (n9) from (by rw [e2499, fa_u_n _ _ (by omega)]; exact (by rw [hi_61.2.2 _ (by omega)]; exact g9))).trans g9.symm))⟩, (by rw [e2499]; exact fa_fr.u (fa_fr.tr fa_fr.rf (fa_fr.wide hi_61.2.2 (by omega) (by omega))) (by omega))⟩⟩)
          · have hk := fa_ltN (by omega) (by omega) c_65
            refine lv_aload_n hx hb dX7_recorded_68 rfl (lv_at hl 0 rfl) ?_
            refine fa_getr (k := 397) (j := 401) CX HX2497 fl_X7_19 (by omega) rfl rfl hM.2.2.2.1 dX7_recorded_69 ?_
            refine lv_sipush (v := nI (453)) hx hb dX7_recorded_72 (by decide) ?_
            refine lv_aload_n hx hb dX7_recorded_75 rfl (lv_at hl 0 rfl) ?_
            refine fa_geti (k := 397) CX HX2497 fl_X7_40 (by omega) rfl rfl dX7_recorded_76 ?_
            rw [show v2496 397 10 = nI (n10) from (by rw [hi_61.2.2 _ (by omega)]; exact g10)]
            refine fa_imulN hx hb dX7_recorded_79 ?_
            refine lv_iload_n hx hb dX7_recorded_80 rfl (lv_at hl 2 rfl) ?_
            refine fa_iaddN hx hb dX7_recorded_81 ?_
            refine lv_aload_n hx hb dX7_recorded_82 rfl (lv_at hl 0 rfl) ?_
            refine fa_getr (k := 397) (j := 399) CX HX2497 fl_X7_13 (by omega) rfl rfl hM.2.1 dX7_recorded_83 ?_
            refine lv_iload_n hx hb dX7_recorded_86 rfl (lv_at hl 2 rfl) ?_
            refine fa_iald (k := 399) (j := k) CX HX2497 (by omega) rfl (by omega) (by first | decide | assumption) dX7_recorded_87 ?_
            refine fa_iast (k := 401) (j := 453 * n10 + k) CX HX2497 (by omega) rfl (by omega) (by first | decide | assumption) dX7_recorded_88 (fun H locs v2501 e2502 HX2503 => ?_)
            refine lv_iinc (v := nI (k + 1)) (lv' := [(2, .int (nI (k + 1))), (0, .ref (fa_B G + (397))), (1, .int (a1))]) hx hb dX7_recorded_89 hl (k := 2) rfl (nI_add (k) 1) (by decide) rfl (fun ls hl => ?_)
            refine lv_goto (tgt := 61) hx hb dX7_recorded_92 (by decide) ?_
            exact ih_61 (k + 1) v2501 _ _ _ (by omega) (⟨by omega, (show fa_MB (v2501 401) from by rw [e2502]; exact fa_MB.u hi_61.2.1 (fa_okb (by omega) ((show fa_MS (v2496 399) from by rw [hi_61.2.2 399 (by omega)]; exact hJ.2.1) k (by omega)))), (by rw [e2502]; exact fa_fr.u hi_61.2.2 (by omega))⟩) (lv_sub hl [1, 2, 0] rfl) HX2503
      exact LOOP_61 (453 - 0 + 1) (0) v _ _ _ (Nat.lt_succ_self _) (⟨Nat.zero_le _, hJ.2.2.2.1, fa_fr.rf⟩) (lv_sub hl [1, 2, 0] rfl) HX
    · have he : n10 = 4 := fa_nIinj (by omega) (by omega) c_15
      refine lv_iconst (v := nI (0)) hx hb dX7_recorded_18 (by decide) ?_
      refine lv_istore_n (lv' := [(2, .int (nI (0))), (0, .ref (fa_B G + (397))), (1, .int (a1))]) hx hb dX7_recorded_19 rfl hl (by decide) rfl (fun ls hl => ?_)
      have LOOP_20 : ∀ (fu : Nat) (k : Nat) (v2504 : fa_V) (H : Heap) (locs : List Loc) (ls : Array Slot), 1359 - k < fu → (k ≤ 1359 ∧ fa_MB (v2504 401) ∧ fa_fr 401 402 v v2504) → lv_has ls 3 [(0, .ref (fa_B G + (397))), (1, .int (a1)), (2, .int (nI (k)))] → fa_HX G (n) v2504 r s H locs → W p l e (fa_rm 2) s m args below meth c H locs (0) (0) Q (F0 m 20 ls []) := by
        intro fu
        induction fu with
        | zero => intro k v2504 H locs ls hk; exact absurd hk (Nat.not_lt_zero _)
        | succ fu ih_20 =>
          intro k v2504 H locs ls hk_20 hi_20 hl HX2505
          refine lv_iload_n hx hb dX7_recorded_20 rfl (lv_at hl 2 rfl) ?_
          refine lv_sipush (v := nI (1359)) hx hb dX7_recorded_21 (by decide) ?_
          refine lv_icmp_ge (tgt := 49) hx hb dX7_recorded_24 (by decide) (fun c_24 => ?_) (fun c_24 => ?_)
          · refine lv_aload_n hx hb dX7_recorded_49 rfl (lv_at hl 0 rfl) ?_
            refine lv_dup hx hb dX7_recorded_50 rfl ?_
            refine fa_geti (k := 397) CX HX2505 fl_X7_40 (by omega) rfl rfl dX7_recorded_51 ?_
            rw [show v2504 397 10 = nI (n10) from (by rw [hi_20.2.2 _ (by omega)]; exact g10)]
            refine lv_iconst (v := nI (1)) hx hb dX7_recorded_54 (by decide) ?_
            refine fa_isubN hx hb dX7_recorded_55 (by omega) ?_
            refine fa_puti (k := 397) CX HX2505 fl_X7_40 (by omega) rfl rfl rfl rfl dX7_recorded_56 (fun H locs v2506 e2507 HX2508 => ?_)
            refine lv_iconst (v := nI (0)) hx hb dX7_recorded_59 (by decide) ?_
            refine lv_istore_n (lv' := [(2, .int (nI (0))), (0, .ref (fa_B G + (397))), (1, .int (a1))]) hx hb dX7_recorded_60 rfl hl (by decide) rfl (fun ls hl => ?_)
            have LOOP_61 : ∀ (fu : Nat) (k : Nat) (v2509 : fa_V) (H : Heap) (locs : List Loc) (ls : Array Slot), 453 - k < fu → (k ≤ 453 ∧ fa_MB (v2509 401) ∧ fa_fr 401 402 v2506 v2509) → lv_has ls 3 [(0, .ref (fa_B G + (397))), (1, .int (a1)), (2, .int (nI (k)))] → fa_HX G (n) v2509 r s H locs → W p l e (fa_rm 2) s m args below meth c H locs (0) (0) Q (F0 m 61 ls []) := by
              intro fu
              induction fu with
              | zero => intro k v2509 H locs ls hk; exact absurd hk (Nat.not_lt_zero _)
              | succ fu ih_61 =>
                intro k v2509 H locs ls hk_61 hi_61 hl HX2510
                refine lv_iload_n hx hb dX7_recorded_61 rfl (lv_at hl 2 rfl) ?_
                refine lv_sipush (v := nI (453)) hx hb dX7_recorded_62 (by decide) ?_
                refine lv_icmp_ge (tgt := 95) hx hb dX7_recorded_65 (by decide) (fun c_65 => ?_) (fun c_65 => ?_)
                · refine lv_aload_n hx hb dX7_recorded_95 rfl (lv_at hl 0 rfl) ?_
                  refine lv_dup hx hb dX7_recorded_96 rfl ?_
                  refine fa_geti (k := 397) CX HX2510 fl_X7_40 (by omega) rfl rfl dX7_recorded_97 ?_
                  rw [show v2509 397 10 = nI (n10 - 1) from (by rw [hi_61.2.2 _ (by omega)]; exact (by rw [e2507, fa_u_s]))]
                  refine lv_iconst (v := nI (1)) hx hb dX7_recorded_100 (by decide) ?_
                  refine fa_iaddN hx hb dX7_recorded_101 ?_
                  refine fa_puti (k := 397) CX HX2510 fl_X7_40 (by omega) rfl rfl rfl rfl dX7_recorded_102 (fun H locs v2511 e2512 HX2513 => ?_)
                  refine lv_iload_n hx hb dX7_recorded_105 rfl (lv_at hl 1 rfl) ?_
                  exact RET _ _ _ _ _ _ _ HX2513 dX7_recorded_106 (⟨rfl, ⟨⟨(show fa_MJ v2511 from ⟨(show fa_MS (v2511 398) from by rw [e2512, fa_u_k _ _ (by decide)]; exact (show fa_MS (v2509 398) from by rw [hi_61.2.2 398 (by omega)]; exact (show fa_MS (v2506 398) from by rw [e2507, fa_u_k _ _ (by decide)]; exact (show fa_MS (v2504 398) from by rw [hi_20.2.2 398 (by omega)]; exact hJ.1)))), (show fa_MS (v2511 399) from by rw [e2512, fa_u_k _ _ (by decide)]; exact (show fa_MS (v2509 399) from by rw [hi_61.2.2 399 (by omega)]; exact (show fa_MS (v2506 399) from by rw [e2507, fa_u_k _ _ (by decide)]; exact (show fa_MS (v2504 399) from by rw [hi_20.2.2 399 (by omega)]; exact hJ.2.1)))), (show fa_MS (v2511 400) from by rw [e2512, fa_u_k _ _ (by decide)]; exact (show fa_MS (v2509 400) from by rw [hi_61.2.2 400 (by omega)]; exact (show fa_MS (v2506 400) from by rw [e2507, fa_u_k _ _ (by decide)]; exact (show fa_MS (v2504 400) from by rw [hi_20.2.2 400 (by omega)]; exact hJ.2.2.1)))), (show fa_MB (v2511 401) from by rw [e2512, fa_u_k _ _ (by decide)]; exact hi_61.2.1), ⟨n10 - 1 + 1, by omega, (by rw [e2512, fa_u_s])⟩, ⟨n9, by omega, (by rw [e2512, fa_u_n _ _ (by omega)]; exact (by rw [hi_61.2.2 _ (by omega)]; exact (by rw [e2507, fa_u_n _ _ (by omega)]; exact (by rw [hi_20.2.2 _ (by omega)]; exact g9))))⟩⟩), (show v2511 397 9 = v 397 9 from ((show v2511 397 9 = nI (n9) from (by rw [e2512, fa_u_n _ _ (by omega)]; exact (by rw [hi_61.2.2 _ (by omega)]; exact (by rw [e2507, fa_u_n _ _ (by omega)]; exact (by rw [hi_20.2.2 _ (by omega)]; exact g9))))).trans g9.symm))⟩, (by rw [e2512]; exact fa_fr.u (fa_fr.tr (by rw [e2507]; exact fa_fr.u (fa_fr.tr fa_fr.rf (fa_fr.wide hi_20.2.2 (by omega) (by omega))) (by omega)) (fa_fr.wide hi_61.2.2 (by omega) (by omega))) (by omega))⟩⟩)
                · have hk := fa_ltN (by omega) (by omega) c_65
                  refine lv_aload_n hx hb dX7_recorded_68 rfl (lv_at hl 0 rfl) ?_
                  refine fa_getr (k := 397) (j := 401) CX HX2510 fl_X7_19 (by omega) rfl rfl hM.2.2.2.1 dX7_recorded_69 ?_
                  refine lv_sipush (v := nI (453)) hx hb dX7_recorded_72 (by decide) ?_
                  refine lv_aload_n hx hb dX7_recorded_75 rfl (lv_at hl 0 rfl) ?_
                  refine fa_geti (k := 397) CX HX2510 fl_X7_40 (by omega) rfl rfl dX7_recorded_76 ?_
                  rw [show v2509 397 10 = nI (n10 - 1) from (by rw [hi_61.2.2 _ (by omega)]; exact (by rw [e2507, fa_u_s]))]
                  refine fa_imulN hx hb dX7_recorded_79 ?_
                  refine lv_iload_n hx hb dX7_recorded_80 rfl (lv_at hl 2 rfl) ?_
                  refine fa_iaddN hx hb dX7_recorded_81 ?_
                  refine lv_aload_n hx hb dX7_recorded_82 rfl (lv_at hl 0 rfl) ?_
                  refine fa_getr (k := 397) (j := 399) CX HX2510 fl_X7_13 (by omega) rfl rfl hM.2.1 dX7_recorded_83 ?_
                  refine lv_iload_n hx hb dX7_recorded_86 rfl (lv_at hl 2 rfl) ?_
                  refine fa_iald (k := 399) (j := k) CX HX2510 (by omega) rfl (by omega) (by first | decide | assumption) dX7_recorded_87 ?_
                  refine fa_iast (k := 401) (j := 453 * (n10 - 1) + k) CX HX2510 (by omega) rfl (by omega) (by first | decide | assumption) dX7_recorded_88 (fun H locs v2514 e2515 HX2516 => ?_)
                  refine lv_iinc (v := nI (k + 1)) (lv' := [(2, .int (nI (k + 1))), (0, .ref (fa_B G + (397))), (1, .int (a1))]) hx hb dX7_recorded_89 hl (k := 2) rfl (nI_add (k) 1) (by decide) rfl (fun ls hl => ?_)
                  refine lv_goto (tgt := 61) hx hb dX7_recorded_92 (by decide) ?_
                  exact ih_61 (k + 1) v2514 _ _ _ (by omega) (⟨by omega, (show fa_MB (v2514 401) from by rw [e2515]; exact fa_MB.u hi_61.2.1 (fa_okb (by omega) ((show fa_MS (v2509 399) from by rw [hi_61.2.2 399 (by omega)]; exact (show fa_MS (v2506 399) from by rw [e2507, fa_u_k _ _ (by decide)]; exact (show fa_MS (v2504 399) from by rw [hi_20.2.2 399 (by omega)]; exact hJ.2.1))) k (by omega)))), (by rw [e2515]; exact fa_fr.u hi_61.2.2 (by omega))⟩) (lv_sub hl [1, 2, 0] rfl) HX2516
            exact LOOP_61 (453 - 0 + 1) (0) v2506 _ _ _ (Nat.lt_succ_self _) (⟨Nat.zero_le _, (show fa_MB (v2506 401) from by rw [e2507, fa_u_k _ _ (by decide)]; exact hi_20.2.1), fa_fr.rf⟩) (lv_sub hl [1, 2, 0] rfl) HX2508
          · have hk := fa_ltN (by omega) (by omega) c_24
            refine lv_aload_n hx hb dX7_recorded_27 rfl (lv_at hl 0 rfl) ?_
            refine fa_getr (k := 397) (j := 401) CX HX2505 fl_X7_19 (by omega) rfl rfl hM.2.2.2.1 dX7_recorded_28 ?_
            refine lv_iload_n hx hb dX7_recorded_31 rfl (lv_at hl 2 rfl) ?_
            refine lv_aload_n hx hb dX7_recorded_32 rfl (lv_at hl 0 rfl) ?_
            refine fa_getr (k := 397) (j := 401) CX HX2505 fl_X7_19 (by omega) rfl rfl hM.2.2.2.1 dX7_recorded_33 ?_
            refine lv_sipush (v := nI (453)) hx hb dX7_recorded_36 (by decide) ?_
            refine lv_iload_n hx hb dX7_recorded_39 rfl (lv_at hl 2 rfl) ?_
            refine fa_iaddN hx hb dX7_recorded_40 ?_
            refine fa_iald (k := 401) (j := 453 + k) CX HX2505 (by omega) rfl (by omega) (by first | decide | assumption) dX7_recorded_41 ?_
            refine fa_iast (k := 401) (j := k) CX HX2505 (by omega) rfl (by omega) (by first | decide | assumption) dX7_recorded_42 (fun H locs v2517 e2518 HX2519 => ?_)
            refine lv_iinc (v := nI (k + 1)) (lv' := [(2, .int (nI (k + 1))), (0, .ref (fa_B G + (397))), (1, .int (a1))]) hx hb dX7_recorded_43 hl (k := 2) rfl (nI_add (k) 1) (by decide) rfl (fun ls hl => ?_)
            refine lv_goto (tgt := 20) hx hb dX7_recorded_46 (by decide) ?_
            exact ih_20 (k + 1) v2517 _ _ _ (by omega) (⟨by omega, (show fa_MB (v2517 401) from by rw [e2518]; exact fa_MB.u hi_20.2.1 (fa_okm hi_20.2.1 (by omega))), (by rw [e2518]; exact fa_fr.u hi_20.2.2 (by omega))⟩) (lv_sub hl [1, 2, 0] rfl) HX2519
      exact LOOP_20 (1359 - 0 + 1) (0) v _ _ _ (Nat.lt_succ_self _) (⟨Nat.zero_le _, hJ.2.2.2.1, fa_fr.rf⟩) (lv_sub hl [1, 2, 0] rfl) HX
  · refine lv_iload_n hx hb dX7_recorded_4 rfl (lv_at hl 1 rfl) ?_
    refine lv_bipush (v := (-6 : Int32)) hx hb dX7_recorded_5 (by decide) ?_
    refine lv_icmp_ne (tgt := 105) hx hb dX7_recorded_7 (by decide) (fun c_7 => ?_) (fun c_7 => ?_)
    · refine lv_iload_n hx hb dX7_recorded_105 rfl (lv_at hl 1 rfl) ?_
      exact RET _ _ _ _ _ _ _ HX dX7_recorded_106 (⟨rfl, ⟨⟨hJ, (show v 397 9 = v 397 9 from rfl)⟩, fa_fr.rf⟩⟩)
    · refine lv_aload_n hx hb dX7_recorded_10 rfl (lv_at hl 0 rfl) ?_
      refine fa_geti (k := 397) CX HX fl_X7_40 (by omega) rfl rfl dX7_recorded_11 ?_
      rw [show v 397 10 = nI (n10) from g10]
      refine lv_iconst (v := nI (4)) hx hb dX7_recorded_14 (by decide) ?_
      refine lv_icmp_ne (tgt := 59) hx hb dX7_recorded_15 (by decide) (fun c_15 => ?_) (fun c_15 => ?_)
      · have hne : ¬ n10 = 4 := fun z => c_15 (by rw [z])
        refine lv_iconst (v := nI (0)) hx hb dX7_recorded_59 (by decide) ?_
        refine lv_istore_n (lv' := [(2, .int (nI (0))), (0, .ref (fa_B G + (397))), (1, .int (a1))]) hx hb dX7_recorded_60 rfl hl (by decide) rfl (fun ls hl => ?_)
        have LOOP_61 : ∀ (fu : Nat) (k : Nat) (v2520 : fa_V) (H : Heap) (locs : List Loc) (ls : Array Slot), 453 - k < fu → (k ≤ 453 ∧ fa_MB (v2520 401) ∧ fa_fr 401 402 v v2520) → lv_has ls 3 [(0, .ref (fa_B G + (397))), (1, .int (a1)), (2, .int (nI (k)))] → fa_HX G (n) v2520 r s H locs → W p l e (fa_rm 2) s m args below meth c H locs (0) (0) Q (F0 m 61 ls []) := by
          intro fu
          induction fu with
          | zero => intro k v2520 H locs ls hk; exact absurd hk (Nat.not_lt_zero _)
          | succ fu ih_61 =>
            intro k v2520 H locs ls hk_61 hi_61 hl HX2521
            refine lv_iload_n hx hb dX7_recorded_61 rfl (lv_at hl 2 rfl) ?_
            refine lv_sipush (v := nI (453)) hx hb dX7_recorded_62 (by decide) ?_
            refine lv_icmp_ge (tgt := 95) hx hb dX7_recorded_65 (by decide) (fun c_65 => ?_) (fun c_65 => ?_)
            · refine lv_aload_n hx hb dX7_recorded_95 rfl (lv_at hl 0 rfl) ?_
              refine lv_dup hx hb dX7_recorded_96 rfl ?_
              refine fa_geti (k := 397) CX HX2521 fl_X7_40 (by omega) rfl rfl dX7_recorded_97 ?_
              rw [show v2520 397 10 = nI (n10) from (by rw [hi_61.2.2 _ (by omega)]; exact g10)]
              refine lv_iconst (v := nI (1)) hx hb dX7_recorded_100 (by decide) ?_
              refine fa_iaddN hx hb dX7_recorded_101 ?_
              refine fa_puti (k := 397) CX HX2521 fl_X7_40 (by omega) rfl rfl rfl rfl dX7_recorded_102 (fun H locs v2522 e2523 HX2524 => ?_)
              refine lv_iload_n hx hb dX7_recorded_105 rfl (lv_at hl 1 rfl) ?_
              exact RET _ _ _ _ _ _ _ HX2524 dX7_recorded_106 (⟨rfl, ⟨⟨(show fa_MJ v2522 from ⟨(show fa_MS (v2522 398) from by rw [e2523, fa_u_k _ _ (by decide)]; exact (show fa_MS (v2520 398) from by rw [hi_61.2.2 398 (by omega)]; exact hJ.1)), (show fa_MS (v2522 399) from by rw [e2523, fa_u_k _ _ (by decide)]; exact (show fa_MS (v2520 399) from by rw [hi_61.2.2 399 (by omega)]; exact hJ.2.1)), (show fa_MS (v2522 400) from by rw [e2523, fa_u_k _ _ (by decide)]; exact (show fa_MS (v2520 400) from by rw [hi_61.2.2 400 (by omega)]; exact hJ.2.2.1)), (show fa_MB (v2522 401) from by rw [e2523, fa_u_k _ _ (by decide)]; exact hi_61.2.1), ⟨n10 + 1, by omega, (by rw [e2523, fa_u_s])⟩, ⟨n9, by omega, (by rw [e2523, fa_u_n _ _ (by omega)]; exact (by rw [hi_61.2.2 _ (by omega)]; exact g9))⟩⟩), (show v2522 397 9 = v 397 9 from ((show v2522 397 9 = nI (n9) from (by rw [e2523, fa_u_n _ _ (by omega)]; exact (by rw [hi_61.2.2 _ (by omega)]; exact g9))).trans g9.symm))⟩, (by rw [e2523]; exact fa_fr.u (fa_fr.tr fa_fr.rf (fa_fr.wide hi_61.2.2 (by omega) (by omega))) (by omega))⟩⟩)
            · have hk := fa_ltN (by omega) (by omega) c_65
              refine lv_aload_n hx hb dX7_recorded_68 rfl (lv_at hl 0 rfl) ?_
              refine fa_getr (k := 397) (j := 401) CX HX2521 fl_X7_19 (by omega) rfl rfl hM.2.2.2.1 dX7_recorded_69 ?_
              refine lv_sipush (v := nI (453)) hx hb dX7_recorded_72 (by decide) ?_
              refine lv_aload_n hx hb dX7_recorded_75 rfl (lv_at hl 0 rfl) ?_
              refine fa_geti (k := 397) CX HX2521 fl_X7_40 (by omega) rfl rfl dX7_recorded_76 ?_
              rw [show v2520 397 10 = nI (n10) from (by rw [hi_61.2.2 _ (by omega)]; exact g10)]
              refine fa_imulN hx hb dX7_recorded_79 ?_
              refine lv_iload_n hx hb dX7_recorded_80 rfl (lv_at hl 2 rfl) ?_
              refine fa_iaddN hx hb dX7_recorded_81 ?_
              refine lv_aload_n hx hb dX7_recorded_82 rfl (lv_at hl 0 rfl) ?_
              refine fa_getr (k := 397) (j := 399) CX HX2521 fl_X7_13 (by omega) rfl rfl hM.2.1 dX7_recorded_83 ?_
              refine lv_iload_n hx hb dX7_recorded_86 rfl (lv_at hl 2 rfl) ?_
              refine fa_iald (k := 399) (j := k) CX HX2521 (by omega) rfl (by omega) (by first | decide | assumption) dX7_recorded_87 ?_
              refine fa_iast (k := 401) (j := 453 * n10 + k) CX HX2521 (by omega) rfl (by omega) (by first | decide | assumption) dX7_recorded_88 (fun H locs v2525 e2526 HX2527 => ?_)
              refine lv_iinc (v := nI (k + 1)) (lv' := [(2, .int (nI (k + 1))), (0, .ref (fa_B G + (397))), (1, .int (a1))]) hx hb dX7_recorded_89 hl (k := 2) rfl (nI_add (k) 1) (by decide) rfl (fun ls hl => ?_)
              refine lv_goto (tgt := 61) hx hb dX7_recorded_92 (by decide) ?_
              exact ih_61 (k + 1) v2525 _ _ _ (by omega) (⟨by omega, (show fa_MB (v2525 401) from by rw [e2526]; exact fa_MB.u hi_61.2.1 (fa_okb (by omega) ((show fa_MS (v2520 399) from by rw [hi_61.2.2 399 (by omega)]; exact hJ.2.1) k (by omega)))), (by rw [e2526]; exact fa_fr.u hi_61.2.2 (by omega))⟩) (lv_sub hl [1, 2, 0] rfl) HX2527
        exact LOOP_61 (453 - 0 + 1) (0) v _ _ _ (Nat.lt_succ_self _) (⟨Nat.zero_le _, hJ.2.2.2.1, fa_fr.rf⟩) (lv_sub hl [1, 2, 0] rfl) HX
      · have he : n10 = 4 := fa_nIinj (by omega) (by omega) c_15
        refine lv_iconst (v := nI (0)) hx hb dX7_recorded_18 (by decide) ?_
        refine lv_istore_n (lv' := [(2, .int (nI (0))), (0, .ref (fa_B G + (397))), (1, .int (a1))]) hx hb dX7_recorded_19 rfl hl (by decide) rfl (fun ls hl => ?_)
        have LOOP_20 : ∀ (fu : Nat) (k : Nat) (v2528 : fa_V) (H : Heap) (locs : List Loc) (ls : Array Slot), 1359 - k < fu → (k ≤ 1359 ∧ fa_MB (v2528 401) ∧ fa_fr 401 402 v v2528) → lv_has ls 3 [(0, .ref (fa_B G + (397))), (1, .int (a1)), (2, .int (nI (k)))] → fa_HX G (n) v2528 r s H locs → W p l e (fa_rm 2) s m args below meth c H locs (0) (0) Q (F0 m 20 ls []) := by
          intro fu
          induction fu with
          | zero => intro k v2528 H locs ls hk; exact absurd hk (Nat.not_lt_zero _)
          | succ fu ih_20 =>
            intro k v2528 H locs ls hk_20 hi_20 hl HX2529
            refine lv_iload_n hx hb dX7_recorded_20 rfl (lv_at hl 2 rfl) ?_
            refine lv_sipush (v := nI (1359)) hx hb dX7_recorded_21 (by decide) ?_
            refine lv_icmp_ge (tgt := 49) hx hb dX7_recorded_24 (by decide) (fun c_24 => ?_) (fun c_24 => ?_)
            · refine lv_aload_n hx hb dX7_recorded_49 rfl (lv_at hl 0 rfl) ?_
              refine lv_dup hx hb dX7_recorded_50 rfl ?_
              refine fa_geti (k := 397) CX HX2529 fl_X7_40 (by omega) rfl rfl dX7_recorded_51 ?_
              rw [show v2528 397 10 = nI (n10) from (by rw [hi_20.2.2 _ (by omega)]; exact g10)]
              refine lv_iconst (v := nI (1)) hx hb dX7_recorded_54 (by decide) ?_
              refine fa_isubN hx hb dX7_recorded_55 (by omega) ?_
              refine fa_puti (k := 397) CX HX2529 fl_X7_40 (by omega) rfl rfl rfl rfl dX7_recorded_56 (fun H locs v2530 e2531 HX2532 => ?_)
              refine lv_iconst (v := nI (0)) hx hb dX7_recorded_59 (by decide) ?_
              refine lv_istore_n (lv' := [(2, .int (nI (0))), (0, .ref (fa_B G + (397))), (1, .int (a1))]) hx hb dX7_recorded_60 rfl hl (by decide) rfl (fun ls hl => ?_)
              have LOOP_61 : ∀ (fu : Nat) (k : Nat) (v2533 : fa_V) (H : Heap) (locs : List Loc) (ls : Array Slot), 453 - k < fu → (k ≤ 453 ∧ fa_MB (v2533 401) ∧ fa_fr 401 402 v2530 v2533) → lv_has ls 3 [(0, .ref (fa_B G + (397))), (1, .int (a1)), (2, .int (nI (k)))] → fa_HX G (n) v2533 r s H locs → W p l e (fa_rm 2) s m args below meth c H locs (0) (0) Q (F0 m 61 ls []) := by
                intro fu
                induction fu with
                | zero => intro k v2533 H locs ls hk; exact absurd hk (Nat.not_lt_zero _)
                | succ fu ih_61 =>
                  intro k v2533 H locs ls hk_61 hi_61 hl HX2534
                  refine lv_iload_n hx hb dX7_recorded_61 rfl (lv_at hl 2 rfl) ?_
                  refine lv_sipush (v := nI (453)) hx hb dX7_recorded_62 (by decide) ?_
                  refine lv_icmp_ge (tgt := 95) hx hb dX7_recorded_65 (by decide) (fun c_65 => ?_) (fun c_65 => ?_)
                  · refine lv_aload_n hx hb dX7_recorded_95 rfl (lv_at hl 0 rfl) ?_
                    refine lv_dup hx hb dX7_recorded_96 rfl ?_
                    refine fa_geti (k := 397) CX HX2534 fl_X7_40 (by omega) rfl rfl dX7_recorded_97 ?_
                    rw [show v2533 397 10 = nI (n10 - 1) from (by rw [hi_61.2.2 _ (by omega)]; exact (by rw [e2531, fa_u_s]))]
                    refine lv_iconst (v := nI (1)) hx hb dX7_recorded_100 (by decide) ?_
                    refine fa_iaddN hx hb dX7_recorded_101 ?_
                    refine fa_puti (k := 397) CX HX2534 fl_X7_40 (by omega) rfl rfl rfl rfl dX7_recorded_102 (fun H locs v2535 e2536 HX2537 => ?_)
                    refine lv_iload_n hx hb dX7_recorded_105 rfl (lv_at hl 1 rfl) ?_
                    exact RET _ _ _ _ _ _ _ HX2537 dX7_recorded_106 (⟨rfl, ⟨⟨(show fa_MJ v2535 from ⟨(show fa_MS (v2535 398) from by rw [e2536, fa_u_k _ _ (by decide)]; exact (show fa_MS (v2533 398) from by rw [hi_61.2.2 398 (by omega)]; exact (show fa_MS (v2530 398) from by rw [e2531, fa_u_k _ _ (by decide)]; exact (show fa_MS (v2528 398) from by rw [hi_20.2.2 398 (by omega)]; exact hJ.1)))), (show fa_MS (v2535 399) from by rw [e2536, fa_u_k _ _ (by decide)]; exact (show fa_MS (v2533 399) from by rw [hi_61.2.2 399 (by omega)]; exact (show fa_MS (v2530 399) from by rw [e2531, fa_u_k _ _ (by decide)]; exact (show fa_MS (v2528 399) from by rw [hi_20.2.2 399 (by omega)]; exact hJ.2.1)))), (show fa_MS (v2535 400) from by rw [e2536, fa_u_k _ _ (by decide)]; exact (show fa_MS (v2533 400) from by rw [hi_61.2.2 400 (by omega)]; exact (show fa_MS (v2530 400) from by rw [e2531, fa_u_k _ _ (by decide)]; exact (show fa_MS (v2528 400) from by rw [hi_20.2.2 400 (by omega)]; exact hJ.2.2.1)))), (show fa_MB (v2535 401) from by rw [e2536, fa_u_k _ _ (by decide)]; exact hi_61.2.1), ⟨n10 - 1 + 1, by omega, (by rw [e2536, fa_u_s])⟩, ⟨n9, by omega, (by rw [e2536, fa_u_n _ _ (by omega)]; exact (by rw [hi_61.2.2 _ (by omega)]; exact (by rw [e2531, fa_u_n _ _ (by omega)]; exact (by rw [hi_20.2.2 _ (by omega)]; exact g9))))⟩⟩), (show v2535 397 9 = v 397 9 from ((show v2535 397 9 = nI (n9) from (by rw [e2536, fa_u_n _ _ (by omega)]; exact (by rw [hi_61.2.2 _ (by omega)]; exact (by rw [e2531, fa_u_n _ _ (by omega)]; exact (by rw [hi_20.2.2 _ (by omega)]; exact g9))))).trans g9.symm))⟩, (by rw [e2536]; exact fa_fr.u (fa_fr.tr (by rw [e2531]; exact fa_fr.u (fa_fr.tr fa_fr.rf (fa_fr.wide hi_20.2.2 (by omega) (by omega))) (by omega)) (fa_fr.wide hi_61.2.2 (by omega) (by omega))) (by omega))⟩⟩)
                  · have hk := fa_ltN (by omega) (by omega) c_65
                    refine lv_aload_n hx hb dX7_recorded_68 rfl (lv_at hl 0 rfl) ?_
                    refine fa_getr (k := 397) (j := 401) CX HX2534 fl_X7_19 (by omega) rfl rfl hM.2.2.2.1 dX7_recorded_69 ?_
                    refine lv_sipush (v := nI (453)) hx hb dX7_recorded_72 (by decide) ?_
                    refine lv_aload_n hx hb dX7_recorded_75 rfl (lv_at hl 0 rfl) ?_
                    refine fa_geti (k := 397) CX HX2534 fl_X7_40 (by omega) rfl rfl dX7_recorded_76 ?_
                    rw [show v2533 397 10 = nI (n10 - 1) from (by rw [hi_61.2.2 _ (by omega)]; exact (by rw [e2531, fa_u_s]))]
                    refine fa_imulN hx hb dX7_recorded_79 ?_
                    refine lv_iload_n hx hb dX7_recorded_80 rfl (lv_at hl 2 rfl) ?_
                    refine fa_iaddN hx hb dX7_recorded_81 ?_
                    refine lv_aload_n hx hb dX7_recorded_82 rfl (lv_at hl 0 rfl) ?_
                    refine fa_getr (k := 397) (j := 399) CX HX2534 fl_X7_13 (by omega) rfl rfl hM.2.1 dX7_recorded_83 ?_
                    refine lv_iload_n hx hb dX7_recorded_86 rfl (lv_at hl 2 rfl) ?_
                    refine fa_iald (k := 399) (j := k) CX HX2534 (by omega) rfl (by omega) (by first | decide | assumption) dX7_recorded_87 ?_
                    refine fa_iast (k := 401) (j := 453 * (n10 - 1) + k) CX HX2534 (by omega) rfl (by omega) (by first | decide | assumption) dX7_recorded_88 (fun H locs v2538 e2539 HX2540 => ?_)
                    refine lv_iinc (v := nI (k + 1)) (lv' := [(2, .int (nI (k + 1))), (0, .ref (fa_B G + (397))), (1, .int (a1))]) hx hb dX7_recorded_89 hl (k := 2) rfl (nI_add (k) 1) (by decide) rfl (fun ls hl => ?_)
                    refine lv_goto (tgt := 61) hx hb dX7_recorded_92 (by decide) ?_
                    exact ih_61 (k + 1) v2538 _ _ _ (by omega) (⟨by omega, (show fa_MB (v2538 401) from by rw [e2539]; exact fa_MB.u hi_61.2.1 (fa_okb (by omega) ((show fa_MS (v2533 399) from by rw [hi_61.2.2 399 (by omega)]; exact (show fa_MS (v2530 399) from by rw [e2531, fa_u_k _ _ (by decide)]; exact (show fa_MS (v2528 399) from by rw [hi_20.2.2 399 (by omega)]; exact hJ.2.1))) k (by omega)))), (by rw [e2539]; exact fa_fr.u hi_61.2.2 (by omega))⟩) (lv_sub hl [1, 2, 0] rfl) HX2540
              exact LOOP_61 (453 - 0 + 1) (0) v2530 _ _ _ (Nat.lt_succ_self _) (⟨Nat.zero_le _, (show fa_MB (v2530 401) from by rw [e2531, fa_u_k _ _ (by decide)]; exact hi_20.2.1), fa_fr.rf⟩) (lv_sub hl [1, 2, 0] rfl) HX2532
            · have hk := fa_ltN (by omega) (by omega) c_24
              refine lv_aload_n hx hb dX7_recorded_27 rfl (lv_at hl 0 rfl) ?_
              refine fa_getr (k := 397) (j := 401) CX HX2529 fl_X7_19 (by omega) rfl rfl hM.2.2.2.1 dX7_recorded_28 ?_
              refine lv_iload_n hx hb dX7_recorded_31 rfl (lv_at hl 2 rfl) ?_
              refine lv_aload_n hx hb dX7_recorded_32 rfl (lv_at hl 0 rfl) ?_
              refine fa_getr (k := 397) (j := 401) CX HX2529 fl_X7_19 (by omega) rfl rfl hM.2.2.2.1 dX7_recorded_33 ?_
              refine lv_sipush (v := nI (453)) hx hb dX7_recorded_36 (by decide) ?_
              refine lv_iload_n hx hb dX7_recorded_39 rfl (lv_at hl 2 rfl) ?_
              refine fa_iaddN hx hb dX7_recorded_40 ?_
              refine fa_iald (k := 401) (j := 453 + k) CX HX2529 (by omega) rfl (by omega) (by first | decide | assumption) dX7_recorded_41 ?_
              refine fa_iast (k := 401) (j := k) CX HX2529 (by omega) rfl (by omega) (by first | decide | assumption) dX7_recorded_42 (fun H locs v2541 e2542 HX2543 => ?_)
              refine lv_iinc (v := nI (k + 1)) (lv' := [(2, .int (nI (k + 1))), (0, .ref (fa_B G + (397))), (1, .int (a1))]) hx hb dX7_recorded_43 hl (k := 2) rfl (nI_add (k) 1) (by decide) rfl (fun ls hl => ?_)
              refine lv_goto (tgt := 20) hx hb dX7_recorded_46 (by decide) ?_
              exact ih_20 (k + 1) v2541 _ _ _ (by omega) (⟨by omega, (show fa_MB (v2541 401) from by rw [e2542]; exact fa_MB.u hi_20.2.1 (fa_okm hi_20.2.1 (by omega))), (by rw [e2542]; exact fa_fr.u hi_20.2.2 (by omega))⟩) (lv_sub hl [1, 2, 0] rfl) HX2543
        exact LOOP_20 (1359 - 0 + 1) (0) v _ _ _ (Nat.lt_succ_self _) (⟨Nat.zero_le _, hJ.2.2.2.1, fa_fr.rf⟩) (lv_sub hl [1, 2, 0] rfl) HX
set_option maxHeartbeats 4000000 in
set_option maxRecDepth 100000 in
theorem r_undo (l : Launch) (G : fa_G) (n : Nat) (hn : 406 ≤ n) (v : fa_V) (r : fa_R) (hM : fa_RM r) (hJ : fa_MJ v) : fa_MI l G n yX7_undo cX7_undo 2 (some .int) 1 [.ref (fa_B G + (397))] v r (fa_voi r (fun x v1 => ((fa_MJ v1) ∧ (v1 397 9 = v 397 9)) ∧ (fa_fr (397) (406) v v1))) := by
  refine fa_startI (by decide +kernel) (Nat.le_of_ble_eq_true rfl) (fun p e s m args below meth c ls Q CX hl HX RET => ?_)
  have hl : lv_has ls 2 [(0, .ref (fa_B G + (397)))] := hl
  have hx := CX.1.1
  have hb := CX.1.2.1
  have hS := hJ.1
  obtain ⟨n4, en4⟩ : ∃ m, m = fa_N (v 398 14) := ⟨_, rfl⟩
  obtain ⟨hn4, g4⟩ := hS.n4 en4
  obtain ⟨n5, en5⟩ : ∃ m, m = fa_N (v 398 15) := ⟨_, rfl⟩
  obtain ⟨hn5, g5⟩ := hS.n5 en5
  obtain ⟨n6, en6⟩ : ∃ m, m = fa_N (v 398 16) := ⟨_, rfl⟩
  obtain ⟨hn6, g6⟩ := hS.n6 en6
  obtain ⟨n10, hn10, g10⟩ := hJ.2.2.2.2.1
  obtain ⟨n9, hn9, g9⟩ := hJ.2.2.2.2.2
  refine lv_aload_n hx hb dX7_undo_0 rfl (lv_at hl 0 rfl) ?_
  refine fa_geti (k := 397) CX HX fl_X7_40 (by omega) rfl rfl dX7_undo_1 ?_
  rw [show v 397 10 = nI (n10) from g10]
  refine lv_if_ne (tgt := 10) hx hb dX7_undo_4 (by decide) (fun c_4 => ?_) (fun c_4 => ?_)
  · have hp10 : 0 < n10 := by
      refine Nat.pos_of_ne_zero (fun z => c_4 ?_)
      rw [z]; decide
    refine lv_aload_n hx hb dX7_undo_10 rfl (lv_at hl 0 rfl) ?_
    refine lv_dup hx hb dX7_undo_11 rfl ?_
    refine fa_geti (k := 397) CX HX fl_X7_40 (by omega) rfl rfl dX7_undo_12 ?_
    rw [show v 397 10 = nI (n10) from g10]
    refine lv_iconst (v := nI (1)) hx hb dX7_undo_15 (by decide) ?_
    refine fa_isubN hx hb dX7_undo_16 (by omega) ?_
    refine fa_puti (k := 397) CX HX fl_X7_40 (by omega) rfl rfl rfl rfl dX7_undo_17 (fun H locs v2544 e2545 HX2546 => ?_)
    refine lv_iconst (v := nI (0)) hx hb dX7_undo_20 (by decide) ?_
    refine lv_istore_n (lv' := [(1, .int (nI (0))), (0, .ref (fa_B G + (397)))]) hx hb dX7_undo_21 rfl hl (by decide) rfl (fun ls hl => ?_)
    have LOOP_22 : ∀ (fu : Nat) (k : Nat) (v2547 : fa_V) (H : Heap) (locs : List Loc) (ls : Array Slot), 453 - k < fu → (k ≤ 453 ∧ fa_MS (v2547 398) ∧ fa_fr 398 399 v2544 v2547) → lv_has ls 2 [(0, .ref (fa_B G + (397))), (1, .int (nI (k)))] → fa_HX G (n) v2547 r s H locs → W p l e (fa_rm 1) s m args below meth c H locs (0) (0) Q (F0 m 22 ls []) := by
      intro fu
      induction fu with
      | zero => intro k v2547 H locs ls hk; exact absurd hk (Nat.not_lt_zero _)
      | succ fu ih_22 =>
        intro k v2547 H locs ls hk_22 hi_22 hl HX2548
        refine lv_iload_n hx hb dX7_undo_22 rfl (lv_at hl 1 rfl) ?_
        refine lv_sipush (v := nI (453)) hx hb dX7_undo_23 (by decide) ?_
        refine lv_icmp_ge (tgt := 56) hx hb dX7_undo_26 (by decide) (fun c_26 => ?_) (fun c_26 => ?_)
        · refine lv_aload_n hx hb dX7_undo_56 rfl (lv_at hl 0 rfl) ?_
          refine fa_geti (k := 397) CX HX2548 fl_X7_40 (by omega) rfl rfl dX7_undo_57 ?_
          rw [show v2547 397 10 = nI (n10 - 1) from (by rw [hi_22.2.2 _ (by omega)]; exact (by rw [e2545, fa_u_s]))]
          exact RET _ _ _ _ _ _ _ HX2548 dX7_undo_60 (⟨rfl, ⟨⟨(show fa_MJ v2547 from ⟨hi_22.2.1, (show fa_MS (v2547 399) from by rw [hi_22.2.2 399 (by omega)]; exact (show fa_MS (v2544 399) from by rw [e2545, fa_u_k _ _ (by decide)]; exact hJ.2.1)), (show fa_MS (v2547 400) from by rw [hi_22.2.2 400 (by omega)]; exact (show fa_MS (v2544 400) from by rw [e2545, fa_u_k _ _ (by decide)]; exact hJ.2.2.1)), (show fa_MB (v2547 401) from by rw [hi_22.2.2 401 (by omega)]; exact (show fa_MB (v2544 401) from by rw [e2545, fa_u_k _ _ (by decide)]; exact hJ.2.2.2.1)), ⟨n10 - 1, by omega, (by rw [hi_22.2.2 _ (by omega)]; exact (by rw [e2545, fa_u_s]))⟩, ⟨n9, by omega, (by rw [hi_22.2.2 _ (by omega)]; exact (by rw [e2545, fa_u_n _ _ (by omega)]; exact g9))⟩⟩), (show v2547 397 9 = v 397 9 from ((show v2547 397 9 = nI (n9) from (by rw [hi_22.2.2 _ (by omega)]; exact (by rw [e2545, fa_u_n _ _ (by omega)]; exact g9))).trans g9.symm))⟩, (fa_fr.tr (by rw [e2545]; exact fa_fr.u fa_fr.rf (by omega)) (fa_fr.wide hi_22.2.2 (by omega) (by omega)))⟩⟩)
        · have hk := fa_ltN (by omega) (by omega) c_26
          refine lv_aload_n hx hb dX7_undo_29 rfl (lv_at hl 0 rfl) ?_
          refine fa_getr (k := 397) (j := 398) CX HX2548 fl_X7_7 (by omega) rfl rfl hM.1 dX7_undo_30 ?_
          refine lv_iload_n hx hb dX7_undo_33 rfl (lv_at hl 1 rfl) ?_
          refine lv_aload_n hx hb dX7_undo_34 rfl (lv_at hl 0 rfl) ?_
          refine fa_getr (k := 397) (j := 401) CX HX2548 fl_X7_19 (by omega) rfl rfl hM.2.2.2.1 dX7_undo_35 ?_
          refine lv_sipush (v := nI (453)) hx hb dX7_undo_38 (by decide) ?_
          refine lv_aload_n hx hb dX7_undo_41 rfl (lv_at hl 0 rfl) ?_
          refine fa_geti (k := 397) CX HX2548 fl_X7_40 (by omega) rfl rfl dX7_undo_42 ?_
          rw [show v2547 397 10 = nI (n10 - 1) from (by rw [hi_22.2.2 _ (by omega)]; exact (by rw [e2545, fa_u_s]))]
          refine fa_imulN hx hb dX7_undo_45 ?_
          refine lv_iload_n hx hb dX7_undo_46 rfl (lv_at hl 1 rfl) ?_
          refine fa_iaddN hx hb dX7_undo_47 ?_
          refine fa_iald (k := 401) (j := 453 * (n10 - 1) + k) CX HX2548 (by omega) rfl (by omega) (by first | decide | assumption) dX7_undo_48 ?_
          refine fa_iast (k := 398) (j := k) CX HX2548 (by omega) rfl (by omega) (by first | decide | assumption) dX7_undo_49 (fun H locs v2549 e2550 HX2551 => ?_)
          refine lv_iinc (v := nI (k + 1)) (lv' := [(1, .int (nI (k + 1))), (0, .ref (fa_B G + (397)))]) hx hb dX7_undo_50 hl (k := 1) rfl (nI_add (k) 1) (by decide) rfl (fun ls hl => ?_)
          refine lv_goto (tgt := 22) hx hb dX7_undo_53 (by decide) ?_
          exact ih_22 (k + 1) v2549 _ _ _ (by omega) (⟨by omega, (show fa_MS (v2549 398) from by rw [e2550]; exact fa_MS.u hi_22.2.1 (fa_okx (show fa_MB (v2547 401) from by rw [hi_22.2.2 401 (by omega)]; exact (show fa_MB (v2544 401) from by rw [e2545, fa_u_k _ _ (by decide)]; exact hJ.2.2.2.1)) (by omega) (by omega))), (by rw [e2550]; exact fa_fr.u hi_22.2.2 (by omega))⟩) (lv_sub hl [1, 0] rfl) HX2551
    exact LOOP_22 (453 - 0 + 1) (0) v2544 _ _ _ (Nat.lt_succ_self _) (⟨Nat.zero_le _, (show fa_MS (v2544 398) from by rw [e2545, fa_u_k _ _ (by decide)]; exact hJ.1), fa_fr.rf⟩) (lv_sub hl [1, 0] rfl) HX2546
  · refine lv_bipush (v := (-6 : Int32)) hx hb dX7_undo_7 (by decide) ?_
    exact RET _ _ _ _ _ _ _ HX dX7_undo_9 (⟨rfl, ⟨⟨hJ, (show v 397 9 = v 397 9 from rfl)⟩, fa_fr.rf⟩⟩)
set_option maxHeartbeats 4000000 in
set_option maxRecDepth 100000 in
theorem r_add (l : Launch) (G : fa_G) (n : Nat) (hn : 406 ≤ n) (v : fa_V) (r : fa_R) (hM : fa_RM r) (hJ : fa_MJ v) (a1 : Int32) (a2 : Int32) : fa_MI l G n yX7_add cX7_add 3 (some .int) 8 [.ref (fa_B G + (397)), .int (a1), .int (a2)] v r (fa_voi r (fun x v1 => ((fa_MJ v1) ∧ (v1 397 9 = v 397 9)) ∧ (fa_fr (397) (406) v v1))) := by
  refine fa_startI (by decide +kernel) (Nat.le_of_ble_eq_true rfl) (fun p e s m args below meth c ls Q CX hl HX RET => ?_)
  have hl : lv_has ls 3 [(0, .ref (fa_B G + (397))), (1, .int (a1)), (2, .int (a2))] := hl
  have hx := CX.1.1
  have hb := CX.1.2.1
  have hS := hJ.1
  obtain ⟨n4, en4⟩ : ∃ m, m = fa_N (v 398 14) := ⟨_, rfl⟩
  obtain ⟨hn4, g4⟩ := hS.n4 en4
  obtain ⟨n5, en5⟩ : ∃ m, m = fa_N (v 398 15) := ⟨_, rfl⟩
  obtain ⟨hn5, g5⟩ := hS.n5 en5
  obtain ⟨n6, en6⟩ : ∃ m, m = fa_N (v 398 16) := ⟨_, rfl⟩
  obtain ⟨hn6, g6⟩ := hS.n6 en6
  obtain ⟨n10, hn10, g10⟩ := hJ.2.2.2.2.1
  obtain ⟨n9, hn9, g9⟩ := hJ.2.2.2.2.2
  refine lv_aload_n hx hb dX7_add_0 rfl (lv_at hl 0 rfl) ?_
  refine fa_callVvu (As := []) (rest := []) CX HX (r_hold l G n hn v r hM) ln_X7_102 (by omega) rfl rfl rfl rfl (Nat.le_of_ble_eq_true rfl) hl.1 ⟨Nat.le_of_ble_eq_true rfl, Nat.le_of_ble_eq_true rfl⟩ ⟨Nat.le_refl _, Nat.le_refl _⟩ dX7_add_1 (fun v2553 H locs h2552 HX2554 => ?_)
  have h_hold := h2552.1
  refine lv_aload_n hx hb dX7_add_4 rfl (lv_at hl 0 rfl) ?_
  refine lv_aload_n hx hb dX7_add_5 rfl (lv_at hl 0 rfl) ?_
  refine lv_iload_n hx hb dX7_add_6 rfl (lv_at hl 1 rfl) ?_
  refine lv_iload_n hx hb dX7_add_7 rfl (lv_at hl 2 rfl) ?_
  refine fa_callViu (As := [.int (a1), .int (a2)]) (rest := [.ref (fa_B G + (397))]) CX HX2554 (r_adds l G n hn v2553 r hM (show fa_MS (v2553 398) from by rw [h2552.2 398 (by omega)]; exact hJ.1) (a1) (a2)) ln_X7_105 (by omega) rfl rfl rfl rfl (Nat.le_of_ble_eq_true rfl) hl.1 ⟨Nat.le_of_ble_eq_true rfl, Nat.le_of_ble_eq_true rfl⟩ ⟨Nat.le_refl _, Nat.le_refl _⟩ dX7_add_8 (fun x2556 v2557 H locs h2555 HX2558 => ?_)
  have hS_v2557 := h2555.1.1
  refine fa_callViu (As := [.int (x2556)]) (rest := []) CX HX2558 (r_recorded l G n hn v2557 r hM (show fa_MJ v2557 from ⟨hS_v2557, (show fa_MS (v2557 399) from by rw [h2555.2 399 (by omega)]; exact (fa_MS.cp hJ.1 h2552.1)), (show fa_MS (v2557 400) from by rw [h2555.2 400 (by omega)]; exact (show fa_MS (v2553 400) from by rw [h2552.2 400 (by omega)]; exact hJ.2.2.1)), (show fa_MB (v2557 401) from by rw [h2555.2 401 (by omega)]; exact (show fa_MB (v2553 401) from by rw [h2552.2 401 (by omega)]; exact hJ.2.2.2.1)), ⟨n10, by omega, (by rw [h2555.2 _ (by omega)]; exact (by rw [h2552.2 _ (by omega)]; exact g10))⟩, ⟨n9, by omega, (by rw [h2555.2 _ (by omega)]; exact (by rw [h2552.2 _ (by omega)]; exact g9))⟩⟩) (x2556)) ln_X7_109 (by omega) rfl rfl rfl rfl (Nat.le_of_ble_eq_true rfl) hl.1 ⟨Nat.le_of_ble_eq_true rfl, Nat.le_of_ble_eq_true rfl⟩ ⟨Nat.le_refl _, Nat.le_refl _⟩ dX7_add_11 (fun x2560 v2561 H locs h2559 HX2562 => ?_)
  have hJ_v2561 := h2559.1.1
  obtain ⟨n10_v2561, hn10_v2561, g10_v2561⟩ := hJ_v2561.2.2.2.2.1
  exact RET _ _ _ _ _ _ _ HX2562 dX7_add_14 (⟨rfl, ⟨⟨hJ_v2561, (show v2561 397 9 = v 397 9 from ((show v2561 397 9 = nI (n9) from ((h2559.1.2).trans (by rw [h2555.2 _ (by omega)]; exact (by rw [h2552.2 _ (by omega)]; exact g9)))).trans g9.symm))⟩, (fa_fr.tr (fa_fr.tr (fa_fr.tr fa_fr.rf (fa_fr.wide h2552.2 (by omega) (by omega))) (fa_fr.wide h2555.2 (by omega) (by omega))) (fa_fr.wide h2559.2 (by omega) (by omega)))⟩⟩)
set_option maxHeartbeats 4000000 in
set_option maxRecDepth 100000 in
theorem r_ask (l : Launch) (G : fa_G) (n : Nat) (hn : 406 ≤ n) (v : fa_V) (r : fa_R) (hM : fa_RM r) (hJ : fa_MJ v) (a1 : Int32) : fa_MI l G n yX7_ask cX7_ask 2 (some .int) 8 [.ref (fa_B G + (397)), .int (a1)] v r (fa_voi r (fun x v1 => ((fa_MJ v1) ∧ (v1 397 9 = v 397 9)) ∧ (fa_fr (397) (406) v v1))) := by
  refine fa_startI (by decide +kernel) (Nat.le_of_ble_eq_true rfl) (fun p e s m args below meth c ls Q CX hl HX RET => ?_)
  have hl : lv_has ls 2 [(0, .ref (fa_B G + (397))), (1, .int (a1))] := hl
  have hx := CX.1.1
  have hb := CX.1.2.1
  have hS := hJ.1
  obtain ⟨n4, en4⟩ : ∃ m, m = fa_N (v 398 14) := ⟨_, rfl⟩
  obtain ⟨hn4, g4⟩ := hS.n4 en4
  obtain ⟨n5, en5⟩ : ∃ m, m = fa_N (v 398 15) := ⟨_, rfl⟩
  obtain ⟨hn5, g5⟩ := hS.n5 en5
  obtain ⟨n6, en6⟩ : ∃ m, m = fa_N (v 398 16) := ⟨_, rfl⟩
  obtain ⟨hn6, g6⟩ := hS.n6 en6
  obtain ⟨n10, hn10, g10⟩ := hJ.2.2.2.2.1
  obtain ⟨n9, hn9, g9⟩ := hJ.2.2.2.2.2
  refine lv_aload_n hx hb dX7_ask_0 rfl (lv_at hl 0 rfl) ?_
  refine fa_callVvu (As := []) (rest := []) CX HX (r_hold l G n hn v r hM) ln_X7_102 (by omega) rfl rfl rfl rfl (Nat.le_of_ble_eq_true rfl) hl.1 ⟨Nat.le_of_ble_eq_true rfl, Nat.le_of_ble_eq_true rfl⟩ ⟨Nat.le_refl _, Nat.le_refl _⟩ dX7_ask_1 (fun v2564 H locs h2563 HX2565 => ?_)
  have h_hold := h2563.1
  refine lv_aload_n hx hb dX7_ask_4 rfl (lv_at hl 0 rfl) ?_
  refine lv_aload_n hx hb dX7_ask_5 rfl (lv_at hl 0 rfl) ?_
  refine lv_iload_n hx hb dX7_ask_6 rfl (lv_at hl 1 rfl) ?_
  refine fa_callViu (As := [.int (a1)]) (rest := [.ref (fa_B G + (397))]) CX HX2565 (r_asksFor l G n hn v2564 r hM (show fa_MS (v2564 398) from by rw [h2563.2 398 (by omega)]; exact hJ.1) (a1)) ln_X7_112 (by omega) rfl rfl rfl rfl (Nat.le_of_ble_eq_true rfl) hl.1 ⟨Nat.le_of_ble_eq_true rfl, Nat.le_of_ble_eq_true rfl⟩ ⟨Nat.le_refl _, Nat.le_refl _⟩ dX7_ask_7 (fun x2567 v2568 H locs h2566 HX2569 => ?_)
  have hS_v2568 := h2566.1.1
  refine fa_callViu (As := [.int (x2567)]) (rest := []) CX HX2569 (r_recorded l G n hn v2568 r hM (show fa_MJ v2568 from ⟨hS_v2568, (show fa_MS (v2568 399) from by rw [h2566.2 399 (by omega)]; exact (fa_MS.cp hJ.1 h2563.1)), (show fa_MS (v2568 400) from by rw [h2566.2 400 (by omega)]; exact (show fa_MS (v2564 400) from by rw [h2563.2 400 (by omega)]; exact hJ.2.2.1)), (show fa_MB (v2568 401) from by rw [h2566.2 401 (by omega)]; exact (show fa_MB (v2564 401) from by rw [h2563.2 401 (by omega)]; exact hJ.2.2.2.1)), ⟨n10, by omega, (by rw [h2566.2 _ (by omega)]; exact (by rw [h2563.2 _ (by omega)]; exact g10))⟩, ⟨n9, by omega, (by rw [h2566.2 _ (by omega)]; exact (by rw [h2563.2 _ (by omega)]; exact g9))⟩⟩) (x2567)) ln_X7_109 (by omega) rfl rfl rfl rfl (Nat.le_of_ble_eq_true rfl) hl.1 ⟨Nat.le_of_ble_eq_true rfl, Nat.le_of_ble_eq_true rfl⟩ ⟨Nat.le_refl _, Nat.le_refl _⟩ dX7_ask_10 (fun x2571 v2572 H locs h2570 HX2573 => ?_)
  have hJ_v2572 := h2570.1.1
  obtain ⟨n10_v2572, hn10_v2572, g10_v2572⟩ := hJ_v2572.2.2.2.2.1
  exact RET _ _ _ _ _ _ _ HX2573 dX7_ask_13 (⟨rfl, ⟨⟨hJ_v2572, (show v2572 397 9 = v 397 9 from ((show v2572 397 9 = nI (n9) from ((h2570.1.2).trans (by rw [h2566.2 _ (by omega)]; exact (by rw [h2563.2 _ (by omega)]; exact g9)))).trans g9.symm))⟩, (fa_fr.tr (fa_fr.tr (fa_fr.tr fa_fr.rf (fa_fr.wide h2563.2 (by omega) (by omega))) (fa_fr.wide h2566.2 (by omega) (by omega))) (fa_fr.wide h2570.2 (by omega) (by omega)))⟩⟩)
set_option maxHeartbeats 4000000 in
set_option maxRecDepth 100000 in
theorem r_seal (l : Launch) (G : fa_G) (n : Nat) (hn : 406 ≤ n) (v : fa_V) (r : fa_R) (hM : fa_RM r) (hJ : fa_MJ v) (a1 : Int32) (a2 : Int32) (a3 : Int32) : fa_MI l G n yX7_seal cX7_seal 4 (some .int) 8 [.ref (fa_B G + (397)), .int (a1), .int (a2), .int (a3)] v r (fa_voi r (fun x v1 => ((fa_MJ v1) ∧ (v1 397 9 = v 397 9)) ∧ (fa_fr (397) (406) v v1))) := by
  refine fa_startI (by decide +kernel) (Nat.le_of_ble_eq_true rfl) (fun p e s m args below meth c ls Q CX hl HX RET => ?_)
  have hl : lv_has ls 4 [(0, .ref (fa_B G + (397))), (1, .int (a1)), (2, .int (a2)), (3, .int (a3))] := hl
  have hx := CX.1.1
  have hb := CX.1.2.1
  have hS := hJ.1
  obtain ⟨n4, en4⟩ : ∃ m, m = fa_N (v 398 14) := ⟨_, rfl⟩
  obtain ⟨hn4, g4⟩ := hS.n4 en4
  obtain ⟨n5, en5⟩ : ∃ m, m = fa_N (v 398 15) := ⟨_, rfl⟩
  obtain ⟨hn5, g5⟩ := hS.n5 en5
  obtain ⟨n6, en6⟩ : ∃ m, m = fa_N (v 398 16) := ⟨_, rfl⟩
  obtain ⟨hn6, g6⟩ := hS.n6 en6
  obtain ⟨n10, hn10, g10⟩ := hJ.2.2.2.2.1
  obtain ⟨n9, hn9, g9⟩ := hJ.2.2.2.2.2
  refine lv_aload_n hx hb dX7_seal_0 rfl (lv_at hl 0 rfl) ?_
  refine fa_callVvu (As := []) (rest := []) CX HX (r_hold l G n hn v r hM) ln_X7_102 (by omega) rfl rfl rfl rfl (Nat.le_of_ble_eq_true rfl) hl.1 ⟨Nat.le_of_ble_eq_true rfl, Nat.le_of_ble_eq_true rfl⟩ ⟨Nat.le_refl _, Nat.le_refl _⟩ dX7_seal_1 (fun v2575 H locs h2574 HX2576 => ?_)
  have h_hold := h2574.1
  refine lv_aload_n hx hb dX7_seal_4 rfl (lv_at hl 0 rfl) ?_
  refine lv_aload_n hx hb dX7_seal_5 rfl (lv_at hl 0 rfl) ?_
  refine lv_iload_n hx hb dX7_seal_6 rfl (lv_at hl 1 rfl) ?_
  refine lv_iload_n hx hb dX7_seal_7 rfl (lv_at hl 2 rfl) ?_
  refine lv_iload_n hx hb dX7_seal_8 rfl (lv_at hl 3 rfl) ?_
  refine fa_callViu (As := [.int (a1), .int (a2), .int (a3)]) (rest := [.ref (fa_B G + (397))]) CX HX2576 (r_seals l G n hn v2575 r hM (show fa_MS (v2575 398) from by rw [h2574.2 398 (by omega)]; exact hJ.1) (a1) (a2) (a3)) ln_X7_115 (by omega) rfl rfl rfl rfl (Nat.le_of_ble_eq_true rfl) hl.1 ⟨Nat.le_of_ble_eq_true rfl, Nat.le_of_ble_eq_true rfl⟩ ⟨Nat.le_refl _, Nat.le_refl _⟩ dX7_seal_9 (fun x2578 v2579 H locs h2577 HX2580 => ?_)
  have hS_v2579 := h2577.1.1
  refine fa_callViu (As := [.int (x2578)]) (rest := []) CX HX2580 (r_recorded l G n hn v2579 r hM (show fa_MJ v2579 from ⟨hS_v2579, (show fa_MS (v2579 399) from by rw [h2577.2 399 (by omega)]; exact (fa_MS.cp hJ.1 h2574.1)), (show fa_MS (v2579 400) from by rw [h2577.2 400 (by omega)]; exact (show fa_MS (v2575 400) from by rw [h2574.2 400 (by omega)]; exact hJ.2.2.1)), (show fa_MB (v2579 401) from by rw [h2577.2 401 (by omega)]; exact (show fa_MB (v2575 401) from by rw [h2574.2 401 (by omega)]; exact hJ.2.2.2.1)), ⟨n10, by omega, (by rw [h2577.2 _ (by omega)]; exact (by rw [h2574.2 _ (by omega)]; exact g10))⟩, ⟨n9, by omega, (by rw [h2577.2 _ (by omega)]; exact (by rw [h2574.2 _ (by omega)]; exact g9))⟩⟩) (x2578)) ln_X7_109 (by omega) rfl rfl rfl rfl (Nat.le_of_ble_eq_true rfl) hl.1 ⟨Nat.le_of_ble_eq_true rfl, Nat.le_of_ble_eq_true rfl⟩ ⟨Nat.le_refl _, Nat.le_refl _⟩ dX7_seal_12 (fun x2582 v2583 H locs h2581 HX2584 => ?_)
  have hJ_v2583 := h2581.1.1
  obtain ⟨n10_v2583, hn10_v2583, g10_v2583⟩ := hJ_v2583.2.2.2.2.1
  exact RET _ _ _ _ _ _ _ HX2584 dX7_seal_15 (⟨rfl, ⟨⟨hJ_v2583, (show v2583 397 9 = v 397 9 from ((show v2583 397 9 = nI (n9) from ((h2581.1.2).trans (by rw [h2577.2 _ (by omega)]; exact (by rw [h2574.2 _ (by omega)]; exact g9)))).trans g9.symm))⟩, (fa_fr.tr (fa_fr.tr (fa_fr.tr fa_fr.rf (fa_fr.wide h2574.2 (by omega) (by omega))) (fa_fr.wide h2577.2 (by omega) (by omega))) (fa_fr.wide h2581.2 (by omega) (by omega)))⟩⟩)
set_option maxHeartbeats 4000000 in
set_option maxRecDepth 100000 in
theorem r_lift (l : Launch) (G : fa_G) (n : Nat) (hn : 406 ≤ n) (v : fa_V) (r : fa_R) (hM : fa_RM r) (hJ : fa_MJ v) (a1 : Int32) (a2 : Int32) : fa_MI l G n yX7_lift cX7_lift 3 (some .int) 8 [.ref (fa_B G + (397)), .int (a1), .int (a2)] v r (fa_voi r (fun x v1 => ((fa_MJ v1) ∧ (v1 397 9 = v 397 9)) ∧ (fa_fr (397) (406) v v1))) := by
  refine fa_startI (by decide +kernel) (Nat.le_of_ble_eq_true rfl) (fun p e s m args below meth c ls Q CX hl HX RET => ?_)
  have hl : lv_has ls 3 [(0, .ref (fa_B G + (397))), (1, .int (a1)), (2, .int (a2))] := hl
  have hx := CX.1.1
  have hb := CX.1.2.1
  have hS := hJ.1
  obtain ⟨n4, en4⟩ : ∃ m, m = fa_N (v 398 14) := ⟨_, rfl⟩
  obtain ⟨hn4, g4⟩ := hS.n4 en4
  obtain ⟨n5, en5⟩ : ∃ m, m = fa_N (v 398 15) := ⟨_, rfl⟩
  obtain ⟨hn5, g5⟩ := hS.n5 en5
  obtain ⟨n6, en6⟩ : ∃ m, m = fa_N (v 398 16) := ⟨_, rfl⟩
  obtain ⟨hn6, g6⟩ := hS.n6 en6
  obtain ⟨n10, hn10, g10⟩ := hJ.2.2.2.2.1
  obtain ⟨n9, hn9, g9⟩ := hJ.2.2.2.2.2
  refine lv_aload_n hx hb dX7_lift_0 rfl (lv_at hl 0 rfl) ?_
  refine fa_callVvu (As := []) (rest := []) CX HX (r_hold l G n hn v r hM) ln_X7_102 (by omega) rfl rfl rfl rfl (Nat.le_of_ble_eq_true rfl) hl.1 ⟨Nat.le_of_ble_eq_true rfl, Nat.le_of_ble_eq_true rfl⟩ ⟨Nat.le_refl _, Nat.le_refl _⟩ dX7_lift_1 (fun v2586 H locs h2585 HX2587 => ?_)
  have h_hold := h2585.1
  refine lv_aload_n hx hb dX7_lift_4 rfl (lv_at hl 0 rfl) ?_
  refine lv_aload_n hx hb dX7_lift_5 rfl (lv_at hl 0 rfl) ?_
  refine lv_iload_n hx hb dX7_lift_6 rfl (lv_at hl 1 rfl) ?_
  refine lv_iload_n hx hb dX7_lift_7 rfl (lv_at hl 2 rfl) ?_
  refine fa_callViu (As := [.int (a1), .int (a2)]) (rest := [.ref (fa_B G + (397))]) CX HX2587 (r_lifts l G n hn v2586 r hM (show fa_MS (v2586 398) from by rw [h2585.2 398 (by omega)]; exact hJ.1) (a1) (a2)) ln_X7_119 (by omega) rfl rfl rfl rfl (Nat.le_of_ble_eq_true rfl) hl.1 ⟨Nat.le_of_ble_eq_true rfl, Nat.le_of_ble_eq_true rfl⟩ ⟨Nat.le_refl _, Nat.le_refl _⟩ dX7_lift_8 (fun x2589 v2590 H locs h2588 HX2591 => ?_)
  have hS_v2590 := h2588.1.1
  refine fa_callViu (As := [.int (x2589)]) (rest := []) CX HX2591 (r_recorded l G n hn v2590 r hM (show fa_MJ v2590 from ⟨hS_v2590, (show fa_MS (v2590 399) from by rw [h2588.2 399 (by omega)]; exact (fa_MS.cp hJ.1 h2585.1)), (show fa_MS (v2590 400) from by rw [h2588.2 400 (by omega)]; exact (show fa_MS (v2586 400) from by rw [h2585.2 400 (by omega)]; exact hJ.2.2.1)), (show fa_MB (v2590 401) from by rw [h2588.2 401 (by omega)]; exact (show fa_MB (v2586 401) from by rw [h2585.2 401 (by omega)]; exact hJ.2.2.2.1)), ⟨n10, by omega, (by rw [h2588.2 _ (by omega)]; exact (by rw [h2585.2 _ (by omega)]; exact g10))⟩, ⟨n9, by omega, (by rw [h2588.2 _ (by omega)]; exact (by rw [h2585.2 _ (by omega)]; exact g9))⟩⟩) (x2589)) ln_X7_109 (by omega) rfl rfl rfl rfl (Nat.le_of_ble_eq_true rfl) hl.1 ⟨Nat.le_of_ble_eq_true rfl, Nat.le_of_ble_eq_true rfl⟩ ⟨Nat.le_refl _, Nat.le_refl _⟩ dX7_lift_11 (fun x2593 v2594 H locs h2592 HX2595 => ?_)
  have hJ_v2594 := h2592.1.1
  obtain ⟨n10_v2594, hn10_v2594, g10_v2594⟩ := hJ_v2594.2.2.2.2.1
  exact RET _ _ _ _ _ _ _ HX2595 dX7_lift_14 (⟨rfl, ⟨⟨hJ_v2594, (show v2594 397 9 = v 397 9 from ((show v2594 397 9 = nI (n9) from ((h2592.1.2).trans (by rw [h2588.2 _ (by omega)]; exact (by rw [h2585.2 _ (by omega)]; exact g9)))).trans g9.symm))⟩, (fa_fr.tr (fa_fr.tr (fa_fr.tr fa_fr.rf (fa_fr.wide h2585.2 (by omega) (by omega))) (fa_fr.wide h2588.2 (by omega) (by omega))) (fa_fr.wide h2592.2 (by omega) (by omega)))⟩⟩)
set_option maxHeartbeats 4000000 in
set_option maxRecDepth 100000 in
theorem r_refer (l : Launch) (G : fa_G) (n : Nat) (hn : 406 ≤ n) (v : fa_V) (r : fa_R) (hM : fa_RM r) (hJ : fa_MJ v) (a1 : Int32) (a2 : Int32) : fa_MI l G n yX7_refer cX7_refer 3 (some .int) 8 [.ref (fa_B G + (397)), .int (a1), .int (a2)] v r (fa_voi r (fun x v1 => ((fa_MJ v1) ∧ (v1 397 9 = v 397 9)) ∧ (fa_fr (397) (406) v v1))) := by
  refine fa_startI (by decide +kernel) (Nat.le_of_ble_eq_true rfl) (fun p e s m args below meth c ls Q CX hl HX RET => ?_)
  have hl : lv_has ls 3 [(0, .ref (fa_B G + (397))), (1, .int (a1)), (2, .int (a2))] := hl
  have hx := CX.1.1
  have hb := CX.1.2.1
  have hS := hJ.1
  obtain ⟨n4, en4⟩ : ∃ m, m = fa_N (v 398 14) := ⟨_, rfl⟩
  obtain ⟨hn4, g4⟩ := hS.n4 en4
  obtain ⟨n5, en5⟩ : ∃ m, m = fa_N (v 398 15) := ⟨_, rfl⟩
  obtain ⟨hn5, g5⟩ := hS.n5 en5
  obtain ⟨n6, en6⟩ : ∃ m, m = fa_N (v 398 16) := ⟨_, rfl⟩
  obtain ⟨hn6, g6⟩ := hS.n6 en6
  obtain ⟨n10, hn10, g10⟩ := hJ.2.2.2.2.1
  obtain ⟨n9, hn9, g9⟩ := hJ.2.2.2.2.2
  refine lv_aload_n hx hb dX7_refer_0 rfl (lv_at hl 0 rfl) ?_
  refine fa_callVvu (As := []) (rest := []) CX HX (r_hold l G n hn v r hM) ln_X7_102 (by omega) rfl rfl rfl rfl (Nat.le_of_ble_eq_true rfl) hl.1 ⟨Nat.le_of_ble_eq_true rfl, Nat.le_of_ble_eq_true rfl⟩ ⟨Nat.le_refl _, Nat.le_refl _⟩ dX7_refer_1 (fun v2597 H locs h2596 HX2598 => ?_)
  have h_hold := h2596.1
  refine lv_aload_n hx hb dX7_refer_4 rfl (lv_at hl 0 rfl) ?_
  refine lv_aload_n hx hb dX7_refer_5 rfl (lv_at hl 0 rfl) ?_
  refine lv_iload_n hx hb dX7_refer_6 rfl (lv_at hl 1 rfl) ?_
  refine lv_iload_n hx hb dX7_refer_7 rfl (lv_at hl 2 rfl) ?_
  refine fa_callViu (As := [.int (a1), .int (a2)]) (rest := [.ref (fa_B G + (397))]) CX HX2598 (r_refers l G n hn v2597 r hM (show fa_MS (v2597 398) from by rw [h2596.2 398 (by omega)]; exact hJ.1) (a1) (a2)) ln_X7_122 (by omega) rfl rfl rfl rfl (Nat.le_of_ble_eq_true rfl) hl.1 ⟨Nat.le_of_ble_eq_true rfl, Nat.le_of_ble_eq_true rfl⟩ ⟨Nat.le_refl _, Nat.le_refl _⟩ dX7_refer_8 (fun x2600 v2601 H locs h2599 HX2602 => ?_)
  have hS_v2601 := h2599.1.1
  refine fa_callViu (As := [.int (x2600)]) (rest := []) CX HX2602 (r_recorded l G n hn v2601 r hM (show fa_MJ v2601 from ⟨hS_v2601, (show fa_MS (v2601 399) from by rw [h2599.2 399 (by omega)]; exact (fa_MS.cp hJ.1 h2596.1)), (show fa_MS (v2601 400) from by rw [h2599.2 400 (by omega)]; exact (show fa_MS (v2597 400) from by rw [h2596.2 400 (by omega)]; exact hJ.2.2.1)), (show fa_MB (v2601 401) from by rw [h2599.2 401 (by omega)]; exact (show fa_MB (v2597 401) from by rw [h2596.2 401 (by omega)]; exact hJ.2.2.2.1)), ⟨n10, by omega, (by rw [h2599.2 _ (by omega)]; exact (by rw [h2596.2 _ (by omega)]; exact g10))⟩, ⟨n9, by omega, (by rw [h2599.2 _ (by omega)]; exact (by rw [h2596.2 _ (by omega)]; exact g9))⟩⟩) (x2600)) ln_X7_109 (by omega) rfl rfl rfl rfl (Nat.le_of_ble_eq_true rfl) hl.1 ⟨Nat.le_of_ble_eq_true rfl, Nat.le_of_ble_eq_true rfl⟩ ⟨Nat.le_refl _, Nat.le_refl _⟩ dX7_refer_11 (fun x2604 v2605 H locs h2603 HX2606 => ?_)
  have hJ_v2605 := h2603.1.1
  obtain ⟨n10_v2605, hn10_v2605, g10_v2605⟩ := hJ_v2605.2.2.2.2.1
  exact RET _ _ _ _ _ _ _ HX2606 dX7_refer_14 (⟨rfl, ⟨⟨hJ_v2605, (show v2605 397 9 = v 397 9 from ((show v2605 397 9 = nI (n9) from ((h2603.1.2).trans (by rw [h2599.2 _ (by omega)]; exact (by rw [h2596.2 _ (by omega)]; exact g9)))).trans g9.symm))⟩, (fa_fr.tr (fa_fr.tr (fa_fr.tr fa_fr.rf (fa_fr.wide h2596.2 (by omega) (by omega))) (fa_fr.wide h2599.2 (by omega) (by omega))) (fa_fr.wide h2603.2 (by omega) (by omega)))⟩⟩)
set_option maxHeartbeats 4000000 in
set_option maxRecDepth 100000 in
theorem r_pass (l : Launch) (G : fa_G) (n : Nat) (hn : 406 ≤ n) (v : fa_V) (r : fa_R) (hM : fa_RM r) (hJ : fa_MJ v) (a1 : Int32) : fa_MI l G n yX7_pass cX7_pass 2 (some .int) 10 [.ref (fa_B G + (397)), .int (a1)] v r (fa_voi r (fun x v1 => ((fa_MJ v1) ∧ (v1 397 9 = v 397 9)) ∧ (fa_fr (397) (406) v v1))) := by
  refine fa_startI (by decide +kernel) (Nat.le_of_ble_eq_true rfl) (fun p e s m args below meth c ls Q CX hl HX RET => ?_)
  have hl : lv_has ls 2 [(0, .ref (fa_B G + (397))), (1, .int (a1))] := hl
  have hx := CX.1.1
  have hb := CX.1.2.1
  have hS := hJ.1
  obtain ⟨n4, en4⟩ : ∃ m, m = fa_N (v 398 14) := ⟨_, rfl⟩
  obtain ⟨hn4, g4⟩ := hS.n4 en4
  obtain ⟨n5, en5⟩ : ∃ m, m = fa_N (v 398 15) := ⟨_, rfl⟩
  obtain ⟨hn5, g5⟩ := hS.n5 en5
  obtain ⟨n6, en6⟩ : ∃ m, m = fa_N (v 398 16) := ⟨_, rfl⟩
  obtain ⟨hn6, g6⟩ := hS.n6 en6
  obtain ⟨n10, hn10, g10⟩ := hJ.2.2.2.2.1
  obtain ⟨n9, hn9, g9⟩ := hJ.2.2.2.2.2
  refine lv_aload_n hx hb dX7_pass_0 rfl (lv_at hl 0 rfl) ?_
  refine fa_callVvu (As := []) (rest := []) CX HX (r_hold l G n hn v r hM) ln_X7_102 (by omega) rfl rfl rfl rfl (Nat.le_of_ble_eq_true rfl) hl.1 ⟨Nat.le_of_ble_eq_true rfl, Nat.le_of_ble_eq_true rfl⟩ ⟨Nat.le_refl _, Nat.le_refl _⟩ dX7_pass_1 (fun v2608 H locs h2607 HX2609 => ?_)
  have h_hold := h2607.1
  refine lv_aload_n hx hb dX7_pass_4 rfl (lv_at hl 0 rfl) ?_
  refine lv_aload_n hx hb dX7_pass_5 rfl (lv_at hl 0 rfl) ?_
  refine lv_iload_n hx hb dX7_pass_6 rfl (lv_at hl 1 rfl) ?_
  refine fa_callViu (As := [.int (a1)]) (rest := [.ref (fa_B G + (397))]) CX HX2609 (r_passes l G n hn v2608 r hM (show fa_MS (v2608 398) from by rw [h2607.2 398 (by omega)]; exact hJ.1) (a1)) ln_X7_128 (by omega) rfl rfl rfl rfl (Nat.le_of_ble_eq_true rfl) hl.1 ⟨Nat.le_of_ble_eq_true rfl, Nat.le_of_ble_eq_true rfl⟩ ⟨Nat.le_refl _, Nat.le_refl _⟩ dX7_pass_7 (fun x2611 v2612 H locs h2610 HX2613 => ?_)
  have hS_v2612 := h2610.1.1
  refine fa_callViu (As := [.int (x2611)]) (rest := []) CX HX2613 (r_recorded l G n hn v2612 r hM (show fa_MJ v2612 from ⟨hS_v2612, (show fa_MS (v2612 399) from by rw [h2610.1.2 399 (by decide) (by decide)]; exact (fa_MS.cp hJ.1 h2607.1)), (show fa_MS (v2612 400) from by rw [h2610.1.2 400 (by decide) (by decide)]; exact (show fa_MS (v2608 400) from by rw [h2607.2 400 (by omega)]; exact hJ.2.2.1)), (show fa_MB (v2612 401) from by rw [h2610.1.2 401 (by decide) (by decide)]; exact (show fa_MB (v2608 401) from by rw [h2607.2 401 (by omega)]; exact hJ.2.2.2.1)), ⟨n10, by omega, (by rw [h2610.2 _ (by omega)]; exact (by rw [h2607.2 _ (by omega)]; exact g10))⟩, ⟨n9, by omega, (by rw [h2610.2 _ (by omega)]; exact (by rw [h2607.2 _ (by omega)]; exact g9))⟩⟩) (x2611)) ln_X7_109 (by omega) rfl rfl rfl rfl (Nat.le_of_ble_eq_true rfl) hl.1 ⟨Nat.le_of_ble_eq_true rfl, Nat.le_of_ble_eq_true rfl⟩ ⟨Nat.le_refl _, Nat.le_refl _⟩ dX7_pass_10 (fun x2615 v2616 H locs h2614 HX2617 => ?_)
  have hJ_v2616 := h2614.1.1
  obtain ⟨n10_v2616, hn10_v2616, g10_v2616⟩ := hJ_v2616.2.2.2.2.1
  exact RET _ _ _ _ _ _ _ HX2617 dX7_pass_13 (⟨rfl, ⟨⟨hJ_v2616, (show v2616 397 9 = v 397 9 from ((show v2616 397 9 = nI (n9) from ((h2614.1.2).trans (by rw [h2610.2 _ (by omega)]; exact (by rw [h2607.2 _ (by omega)]; exact g9)))).trans g9.symm))⟩, (fa_fr.tr (fa_fr.tr (fa_fr.tr fa_fr.rf (fa_fr.wide h2607.2 (by omega) (by omega))) (fa_fr.wide h2610.2 (by omega) (by omega))) (fa_fr.wide h2614.2 (by omega) (by omega)))⟩⟩)
set_option maxHeartbeats 4000000 in
set_option maxRecDepth 100000 in
theorem r_reserve (l : Launch) (G : fa_G) (n : Nat) (hn : 406 ≤ n) (v : fa_V) (r : fa_R) (hM : fa_RM r) (hJ : fa_MJ v) (a1 : Int32) (a2 : Int32) : fa_MI l G n yX7_reserve cX7_reserve 3 (some .int) 8 [.ref (fa_B G + (397)), .int (a1), .int (a2)] v r (fa_voi r (fun x v1 => ((fa_MJ v1) ∧ (v1 397 9 = v 397 9)) ∧ (fa_fr (397) (406) v v1))) := by
  refine fa_startI (by decide +kernel) (Nat.le_of_ble_eq_true rfl) (fun p e s m args below meth c ls Q CX hl HX RET => ?_)
  have hl : lv_has ls 3 [(0, .ref (fa_B G + (397))), (1, .int (a1)), (2, .int (a2))] := hl
  have hx := CX.1.1
  have hb := CX.1.2.1
  have hS := hJ.1
  obtain ⟨n4, en4⟩ : ∃ m, m = fa_N (v 398 14) := ⟨_, rfl⟩
  obtain ⟨hn4, g4⟩ := hS.n4 en4
  obtain ⟨n5, en5⟩ : ∃ m, m = fa_N (v 398 15) := ⟨_, rfl⟩
  obtain ⟨hn5, g5⟩ := hS.n5 en5
  obtain ⟨n6, en6⟩ : ∃ m, m = fa_N (v 398 16) := ⟨_, rfl⟩
  obtain ⟨hn6, g6⟩ := hS.n6 en6
  obtain ⟨n10, hn10, g10⟩ := hJ.2.2.2.2.1
  obtain ⟨n9, hn9, g9⟩ := hJ.2.2.2.2.2
  refine lv_aload_n hx hb dX7_reserve_0 rfl (lv_at hl 0 rfl) ?_
  refine lv_iload_n hx hb dX7_reserve_1 rfl (lv_at hl 1 rfl) ?_
  refine fa_callVip (As := [.int (a1)]) (rest := []) CX HX (r_placeOf l G n hn v r hM hJ.1 (a1)) ln_X7_60 (by omega) rfl rfl rfl rfl (Nat.le_of_ble_eq_true rfl) hl.1 ⟨Nat.le_of_ble_eq_true rfl, Nat.le_of_ble_eq_true rfl⟩ ⟨Nat.le_refl _, Nat.le_refl _⟩ dX7_reserve_2 (fun x2619 H locs h2618 HX2620 => ?_)
  have h_pl2 := h2618
  refine lv_iconst (v := (-1 : Int32)) hx hb dX7_reserve_5 (by decide) ?_
  refine lv_icmp_ne (tgt := 11) hx hb dX7_reserve_6 (by decide) (fun c_6 => ?_) (fun c_6 => ?_)
  · refine lv_iload_n hx hb dX7_reserve_11 rfl (lv_at hl 2 rfl) ?_
    refine lv_aload_n hx hb dX7_reserve_12 rfl (lv_at hl 0 rfl) ?_
    refine fa_getr (k := 397) (j := 398) CX HX2620 fl_X7_7 (by omega) rfl rfl hM.1 dX7_reserve_13 ?_
    refine lv_bipush (v := nI (7)) hx hb dX7_reserve_16 (by decide) ?_
    refine fa_iald (k := 398) (j := 7) CX HX2620 (by omega) rfl (by omega) (by first | decide | assumption) dX7_reserve_18 ?_
    refine lv_iconst (v := nI (1)) hx hb dX7_reserve_19 (by decide) ?_
    refine lv_iadd hx hb dX7_reserve_20 ?_
    refine lv_sipush (v := nI (9999)) hx hb dX7_reserve_21 (by decide) ?_
    refine fa_callSip (As := [.int (a2), .int ((v 398 7) + (nI (1))), .int (nI (9999))]) (rest := []) CX HX2620 (r_in l G n v r (a2) ((v 398 7) + (nI (1))) (nI (9999))) ln_X7_86 rfl rfl (Nat.le_of_ble_eq_true rfl) hl.1 ⟨Nat.le_of_ble_eq_true rfl, Nat.le_of_ble_eq_true rfl⟩ ⟨Nat.le_refl _, Nat.le_refl _⟩ dX7_reserve_24 (fun x2622 H locs h2621 HX2623 => ?_)
    have h_in_24 := h2621
    refine lv_if_ne (tgt := 33) hx hb dX7_reserve_27 (by decide) (fun c_27 => ?_) (fun c_27 => ?_)
    · refine lv_aload_n hx hb dX7_reserve_33 rfl (lv_at hl 0 rfl) ?_
      refine lv_iload_n hx hb dX7_reserve_34 rfl (lv_at hl 1 rfl) ?_
      refine lv_iload_n hx hb dX7_reserve_35 rfl (lv_at hl 2 rfl) ?_
      refine fa_callVip (As := [.int (a1), .int (a2)]) (rest := []) CX HX2623 (r_find l G n hn v r hM hJ.1 (a1) (a2)) ln_X7_125 (by omega) rfl rfl rfl rfl (Nat.le_of_ble_eq_true rfl) hl.1 ⟨Nat.le_of_ble_eq_true rfl, Nat.le_of_ble_eq_true rfl⟩ ⟨Nat.le_refl _, Nat.le_refl _⟩ dX7_reserve_36 (fun x2625 H locs h2624 HX2626 => ?_)
      have h_pl36 := h2624
      refine lv_iconst (v := (-1 : Int32)) hx hb dX7_reserve_39 (by decide) ?_
      refine lv_icmp_eq (tgt := 46) hx hb dX7_reserve_40 (by decide) (fun c_40 => ?_) (fun c_40 => ?_)
      · refine lv_aload_n hx hb dX7_reserve_46 rfl (lv_at hl 0 rfl) ?_
        refine fa_getr (k := 397) (j := 398) CX HX2626 fl_X7_7 (by omega) rfl rfl hM.1 dX7_reserve_47 ?_
        refine lv_bipush (v := nI (15)) hx hb dX7_reserve_50 (by decide) ?_
        refine fa_iald (k := 398) (j := 15) CX HX2626 (by omega) rfl (by omega) (by first | decide | assumption) dX7_reserve_52 ?_
        rw [show v 398 15 = nI (n5) from g5]
        refine lv_bipush (v := nI (8)) hx hb dX7_reserve_53 (by decide) ?_
        refine lv_icmp_ne (tgt := 61) hx hb dX7_reserve_55 (by decide) (fun c_55 => ?_) (fun c_55 => ?_)
        · have hne : ¬ n5 = 8 := fun z => c_55 (by rw [z])
          refine lv_aload_n hx hb dX7_reserve_61 rfl (lv_at hl 0 rfl) ?_
          refine fa_callVvu (As := []) (rest := []) CX HX2626 (r_hold l G n hn v r hM) ln_X7_102 (by omega) rfl rfl rfl rfl (Nat.le_of_ble_eq_true rfl) hl.1 ⟨Nat.le_of_ble_eq_true rfl, Nat.le_of_ble_eq_true rfl⟩ ⟨Nat.le_refl _, Nat.le_refl _⟩ dX7_reserve_62 (fun v2628 H locs h2627 HX2629 => ?_)
          have h_hold := h2627.1
          refine lv_aload_n hx hb dX7_reserve_65 rfl (lv_at hl 0 rfl) ?_
          refine fa_getr (k := 397) (j := 398) CX HX2629 fl_X7_7 (by omega) rfl rfl hM.1 dX7_reserve_66 ?_
          refine lv_sipush (v := nI (377)) hx hb dX7_reserve_69 (by decide) ?_
          refine lv_iconst (v := nI (2)) hx hb dX7_reserve_72 (by decide) ?_
          refine lv_aload_n hx hb dX7_reserve_73 rfl (lv_at hl 0 rfl) ?_
          refine fa_getr (k := 397) (j := 398) CX HX2629 fl_X7_7 (by omega) rfl rfl hM.1 dX7_reserve_74 ?_
          refine lv_bipush (v := nI (15)) hx hb dX7_reserve_77 (by decide) ?_
          refine fa_iald (k := 398) (j := 15) CX HX2629 (by omega) rfl (by omega) (by first | decide | assumption) dX7_reserve_79 ?_
          rw [show v2628 398 15 = nI (n5) from (by rw [h2627.2 _ (by omega)]; exact g5)]
          refine fa_imulN hx hb dX7_reserve_80 ?_
          refine fa_iaddN hx hb dX7_reserve_81 ?_
          refine lv_iload_n hx hb dX7_reserve_82 rfl (lv_at hl 1 rfl) ?_
          refine fa_iast (k := 398) (j := 377 + (2 * n5)) CX HX2629 (by omega) rfl (by omega) (by first | decide | assumption) dX7_reserve_83 (fun H locs v2630 e2631 HX2632 => ?_)
          refine lv_aload_n hx hb dX7_reserve_84 rfl (lv_at hl 0 rfl) ?_
          refine fa_getr (k := 397) (j := 398) CX HX2632 fl_X7_7 (by omega) rfl rfl hM.1 dX7_reserve_85 ?_
          refine lv_sipush (v := nI (377)) hx hb dX7_reserve_88 (by decide) ?_
          refine lv_iconst (v := nI (2)) hx hb dX7_reserve_91 (by decide) ?_
          refine lv_aload_n hx hb dX7_reserve_92 rfl (lv_at hl 0 rfl) ?_
          refine fa_getr (k := 397) (j := 398) CX HX2632 fl_X7_7 (by omega) rfl rfl hM.1 dX7_reserve_93 ?_
          refine lv_bipush (v := nI (15)) hx hb dX7_reserve_96 (by decide) ?_
          refine fa_iald (k := 398) (j := 15) CX HX2632 (by omega) rfl (by omega) (by first | decide | assumption) dX7_reserve_98 ?_
          rw [show v2630 398 15 = nI (n5) from (by rw [e2631, fa_u_n _ _ (by omega)]; exact (by rw [h2627.2 _ (by omega)]; exact g5))]
          refine fa_imulN hx hb dX7_reserve_99 ?_
          refine fa_iaddN hx hb dX7_reserve_100 ?_
          refine lv_iconst (v := nI (1)) hx hb dX7_reserve_101 (by decide) ?_
          refine fa_iaddN hx hb dX7_reserve_102 ?_
          refine lv_iload_n hx hb dX7_reserve_103 rfl (lv_at hl 2 rfl) ?_
          refine fa_iast (k := 398) (j := 377 + (2 * n5) + 1) CX HX2632 (by omega) rfl (by omega) (by first | decide | assumption) dX7_reserve_104 (fun H locs v2633 e2634 HX2635 => ?_)
          refine lv_aload_n hx hb dX7_reserve_105 rfl (lv_at hl 0 rfl) ?_
          refine fa_getr (k := 397) (j := 398) CX HX2635 fl_X7_7 (by omega) rfl rfl hM.1 dX7_reserve_106 ?_
          refine lv_bipush (v := nI (15)) hx hb dX7_reserve_109 (by decide) ?_
          refine lv_dup2_11 hx hb dX7_reserve_111 rfl rfl ?_
          refine fa_iald (k := 398) (j := 15) CX HX2635 (by omega) rfl (by omega) (by first | decide | assumption) dX7_reserve_112 ?_
          rw [show v2633 398 15 = nI (n5) from (by rw [e2634, fa_u_n _ _ (by omega)]; exact (by rw [e2631, fa_u_n _ _ (by omega)]; exact (by rw [h2627.2 _ (by omega)]; exact g5)))]
          refine lv_iconst (v := nI (1)) hx hb dX7_reserve_113 (by decide) ?_
          refine fa_iaddN hx hb dX7_reserve_114 ?_
          refine fa_iast (k := 398) (j := 15) CX HX2635 (by omega) rfl (by omega) (by first | decide | assumption) dX7_reserve_115 (fun H locs v2636 e2637 HX2638 => ?_)
          refine lv_aload_n hx hb dX7_reserve_116 rfl (lv_at hl 0 rfl) ?_
          refine lv_aload_n hx hb dX7_reserve_117 rfl (lv_at hl 0 rfl) ?_
          refine fa_getr (k := 397) (j := 398) CX HX2638 fl_X7_7 (by omega) rfl rfl hM.1 dX7_reserve_118 ?_
          refine lv_bipush (v := nI (15)) hx hb dX7_reserve_121 (by decide) ?_
          refine fa_iald (k := 398) (j := 15) CX HX2638 (by omega) rfl (by omega) (by first | decide | assumption) dX7_reserve_123 ?_
          rw [show v2636 398 15 = nI (n5 + 1) from (by rw [e2637, fa_u_s])]
          refine fa_callViu (As := [.int (nI (n5 + 1))]) (rest := []) CX HX2638 (r_recorded l G n hn v2636 r hM (show fa_MJ v2636 from ⟨(show fa_MS (v2636 398) from by rw [e2637]; exact fa_MS.u (show fa_MS (v2633 398) from by rw [e2634]; exact fa_MS.u (show fa_MS (v2630 398) from by rw [e2631]; exact fa_MS.u (show fa_MS (v2628 398) from by rw [h2627.2 398 (by omega)]; exact hJ.1) (fa_ok.o (by omega) (by omega) (by omega) (fun p hp => by omega))) (fa_ok.o (by omega) (by omega) (by omega) (fun p hp => by omega))) (fa_ok.n15 (by omega))), (show fa_MS (v2636 399) from by rw [e2637, fa_u_k _ _ (by decide)]; exact (show fa_MS (v2633 399) from by rw [e2634, fa_u_k _ _ (by decide)]; exact (show fa_MS (v2630 399) from by rw [e2631, fa_u_k _ _ (by decide)]; exact (fa_MS.cp hJ.1 h2627.1)))), (show fa_MS (v2636 400) from by rw [e2637, fa_u_k _ _ (by decide)]; exact (show fa_MS (v2633 400) from by rw [e2634, fa_u_k _ _ (by decide)]; exact (show fa_MS (v2630 400) from by rw [e2631, fa_u_k _ _ (by decide)]; exact (show fa_MS (v2628 400) from by rw [h2627.2 400 (by omega)]; exact hJ.2.2.1)))), (show fa_MB (v2636 401) from by rw [e2637, fa_u_k _ _ (by decide)]; exact (show fa_MB (v2633 401) from by rw [e2634, fa_u_k _ _ (by decide)]; exact (show fa_MB (v2630 401) from by rw [e2631, fa_u_k _ _ (by decide)]; exact (show fa_MB (v2628 401) from by rw [h2627.2 401 (by omega)]; exact hJ.2.2.2.1)))), ⟨n10, by omega, (by rw [e2637, fa_u_n _ _ (by omega)]; exact (by rw [e2634, fa_u_n _ _ (by omega)]; exact (by rw [e2631, fa_u_n _ _ (by omega)]; exact (by rw [h2627.2 _ (by omega)]; exact g10))))⟩, ⟨n9, by omega, (by rw [e2637, fa_u_n _ _ (by omega)]; exact (by rw [e2634, fa_u_n _ _ (by omega)]; exact (by rw [e2631, fa_u_n _ _ (by omega)]; exact (by rw [h2627.2 _ (by omega)]; exact g9))))⟩⟩) (nI (n5 + 1))) ln_X7_109 (by omega) rfl rfl rfl rfl (Nat.le_of_ble_eq_true rfl) hl.1 ⟨Nat.le_of_ble_eq_true rfl, Nat.le_of_ble_eq_true rfl⟩ ⟨Nat.le_refl _, Nat.le_refl _⟩ dX7_reserve_124 (fun x2640 v2641 H locs h2639 HX2642 => ?_)
          have hJ_v2641 := h2639.1.1
          obtain ⟨n10_v2641, hn10_v2641, g10_v2641⟩ := hJ_v2641.2.2.2.2.1
          exact RET _ _ _ _ _ _ _ HX2642 dX7_reserve_127 (⟨rfl, ⟨⟨hJ_v2641, (show v2641 397 9 = v 397 9 from ((show v2641 397 9 = nI (n9) from ((h2639.1.2).trans (by rw [e2637, fa_u_n _ _ (by omega)]; exact (by rw [e2634, fa_u_n _ _ (by omega)]; exact (by rw [e2631, fa_u_n _ _ (by omega)]; exact (by rw [h2627.2 _ (by omega)]; exact g9)))))).trans g9.symm))⟩, (fa_fr.tr (by rw [e2637]; exact fa_fr.u (by rw [e2634]; exact fa_fr.u (by rw [e2631]; exact fa_fr.u (fa_fr.tr fa_fr.rf (fa_fr.wide h2627.2 (by omega) (by omega))) (by omega)) (by omega)) (by omega)) (fa_fr.wide h2639.2 (by omega) (by omega)))⟩⟩)
        · refine lv_bipush (v := (-4 : Int32)) hx hb dX7_reserve_58 (by decide) ?_
          exact RET _ _ _ _ _ _ _ HX2626 dX7_reserve_60 (⟨rfl, ⟨⟨hJ, (show v 397 9 = v 397 9 from rfl)⟩, fa_fr.rf⟩⟩)
      · refine lv_bipush (v := (-5 : Int32)) hx hb dX7_reserve_43 (by decide) ?_
        exact RET _ _ _ _ _ _ _ HX2626 dX7_reserve_45 (⟨rfl, ⟨⟨hJ, (show v 397 9 = v 397 9 from rfl)⟩, fa_fr.rf⟩⟩)
    · refine lv_bipush (v := (-2 : Int32)) hx hb dX7_reserve_30 (by decide) ?_
      exact RET _ _ _ _ _ _ _ HX2623 dX7_reserve_32 (⟨rfl, ⟨⟨hJ, (show v 397 9 = v 397 9 from rfl)⟩, fa_fr.rf⟩⟩)
  · refine lv_iconst (v := (-1 : Int32)) hx hb dX7_reserve_9 (by decide) ?_
    exact RET _ _ _ _ _ _ _ HX2620 dX7_reserve_10 (⟨rfl, ⟨⟨hJ, (show v 397 9 = v 397 9 from rfl)⟩, fa_fr.rf⟩⟩)
set_option maxHeartbeats 4000000 in
set_option maxRecDepth 100000 in
theorem r_cancel (l : Launch) (G : fa_G) (n : Nat) (hn : 406 ≤ n) (v : fa_V) (r : fa_R) (hM : fa_RM r) (hJ : fa_MJ v) (a1 : Int32) (a2 : Int32) : fa_MI l G n yX7_cancel cX7_cancel 4 (some .int) 8 [.ref (fa_B G + (397)), .int (a1), .int (a2)] v r (fa_voi r (fun x v1 => ((fa_MJ v1) ∧ (v1 397 9 = v 397 9)) ∧ (fa_fr (397) (406) v v1))) := by
  refine fa_startI (by decide +kernel) (Nat.le_of_ble_eq_true rfl) (fun p e s m args below meth c ls Q CX hl HX RET => ?_)
  have hl : lv_has ls 4 [(0, .ref (fa_B G + (397))), (1, .int (a1)), (2, .int (a2))] := hl
  have hx := CX.1.1
  have hb := CX.1.2.1
  have hS := hJ.1
  obtain ⟨n4, en4⟩ : ∃ m, m = fa_N (v 398 14) := ⟨_, rfl⟩
  obtain ⟨hn4, g4⟩ := hS.n4 en4
  obtain ⟨n5, en5⟩ : ∃ m, m = fa_N (v 398 15) := ⟨_, rfl⟩
  obtain ⟨hn5, g5⟩ := hS.n5 en5
  obtain ⟨n6, en6⟩ : ∃ m, m = fa_N (v 398 16) := ⟨_, rfl⟩
  obtain ⟨hn6, g6⟩ := hS.n6 en6
  obtain ⟨n10, hn10, g10⟩ := hJ.2.2.2.2.1
  obtain ⟨n9, hn9, g9⟩ := hJ.2.2.2.2.2
  refine lv_aload_n hx hb dX7_cancel_0 rfl (lv_at hl 0 rfl) ?_
  refine lv_iload_n hx hb dX7_cancel_1 rfl (lv_at hl 1 rfl) ?_
  refine lv_iload_n hx hb dX7_cancel_2 rfl (lv_at hl 2 rfl) ?_
  refine fa_callVip (As := [.int (a1), .int (a2)]) (rest := []) CX HX (r_find l G n hn v r hM hJ.1 (a1) (a2)) ln_X7_125 (by omega) rfl rfl rfl rfl (Nat.le_of_ble_eq_true rfl) hl.1 ⟨Nat.le_of_ble_eq_true rfl, Nat.le_of_ble_eq_true rfl⟩ ⟨Nat.le_refl _, Nat.le_refl _⟩ dX7_cancel_3 (fun x2644 H locs h2643 HX2645 => ?_)
  have h_pl3 := h2643
  refine lv_istore_n (lv' := [(3, .int (x2644)), (0, .ref (fa_B G + (397))), (1, .int (a1)), (2, .int (a2))]) hx hb dX7_cancel_6 rfl hl (by decide) rfl (fun ls hl => ?_)
  refine lv_iload_n hx hb dX7_cancel_7 rfl (lv_at hl 0 rfl) ?_
  refine lv_iconst (v := (-1 : Int32)) hx hb dX7_cancel_8 (by decide) ?_
  refine lv_icmp_ne (tgt := 14) hx hb dX7_cancel_9 (by decide) (fun c_9 => ?_) (fun c_9 => ?_)
  · obtain ⟨tp, htp, etp⟩ := h_pl3.ne c_9
    refine lv_aload_n hx hb dX7_cancel_14 rfl (lv_at hl 1 rfl) ?_
    refine fa_callVvu (As := []) (rest := []) CX HX2645 (r_hold l G n hn v r hM) ln_X7_102 (by omega) rfl rfl rfl rfl (Nat.le_of_ble_eq_true rfl) hl.1 ⟨Nat.le_of_ble_eq_true rfl, Nat.le_of_ble_eq_true rfl⟩ ⟨Nat.le_refl _, Nat.le_refl _⟩ dX7_cancel_15 (fun v2647 H locs h2646 HX2648 => ?_)
    have h_hold := h2646.1
    refine lv_aload_n hx hb dX7_cancel_18 rfl (lv_at hl 1 rfl) ?_
    refine lv_iload_n hx hb dX7_cancel_19 rfl (lv_at hl 0 rfl) ?_
    rw [show x2644 = nI (tp) from etp]
    refine fa_callVvu (As := [.int (nI (tp))]) (rest := []) CX HX2648 (r_removeReservation l G n hn v2647 r hM (show fa_MS (v2647 398) from by rw [h2646.2 398 (by omega)]; exact hJ.1) (tp) (by omega) (show tp < fa_N (v2647 398 15) from by rw [show v2647 398 = v 398 from h2646.2 398 (by omega)]; exact htp)) ln_X7_76 (by omega) rfl rfl rfl rfl (Nat.le_of_ble_eq_true rfl) hl.1 ⟨Nat.le_of_ble_eq_true rfl, Nat.le_of_ble_eq_true rfl⟩ ⟨Nat.le_refl _, Nat.le_refl _⟩ dX7_cancel_20 (fun v2650 H locs h2649 HX2651 => ?_)
    have hS_v2650 := h2649.1.1
    have h_removeReservation := h2649.1.2.2.2
    refine lv_aload_n hx hb dX7_cancel_23 rfl (lv_at hl 1 rfl) ?_
    refine lv_aload_n hx hb dX7_cancel_24 rfl (lv_at hl 1 rfl) ?_
    refine fa_getr (k := 397) (j := 398) CX HX2651 fl_X7_7 (by omega) rfl rfl hM.1 dX7_cancel_25 ?_
    refine lv_bipush (v := nI (15)) hx hb dX7_cancel_28 (by decide) ?_
    refine fa_iald (k := 398) (j := 15) CX HX2651 (by omega) rfl (by omega) (by first | decide | assumption) dX7_cancel_30 ?_
    rw [show v2650 398 15 = nI (n5 - 1) from (by rw [h_removeReservation, (show v2647 398 15 = nI (n5) from (by rw [h2646.2 _ (by omega)]; exact g5)), fa_N_nI (by omega)])]
    refine fa_callViu (As := [.int (nI (n5 - 1))]) (rest := []) CX HX2651 (r_recorded l G n hn v2650 r hM (show fa_MJ v2650 from ⟨hS_v2650, (show fa_MS (v2650 399) from by rw [h2649.2 399 (by omega)]; exact (fa_MS.cp hJ.1 h2646.1)), (show fa_MS (v2650 400) from by rw [h2649.2 400 (by omega)]; exact (show fa_MS (v2647 400) from by rw [h2646.2 400 (by omega)]; exact hJ.2.2.1)), (show fa_MB (v2650 401) from by rw [h2649.2 401 (by omega)]; exact (show fa_MB (v2647 401) from by rw [h2646.2 401 (by omega)]; exact hJ.2.2.2.1)), ⟨n10, by omega, (by rw [h2649.2 _ (by omega)]; exact (by rw [h2646.2 _ (by omega)]; exact g10))⟩, ⟨n9, by omega, (by rw [h2649.2 _ (by omega)]; exact (by rw [h2646.2 _ (by omega)]; exact g9))⟩⟩) (nI (n5 - 1))) ln_X7_109 (by omega) rfl rfl rfl rfl (Nat.le_of_ble_eq_true rfl) hl.1 ⟨Nat.le_of_ble_eq_true rfl, Nat.le_of_ble_eq_true rfl⟩ ⟨Nat.le_refl _, Nat.le_refl _⟩ dX7_cancel_31 (fun x2653 v2654 H locs h2652 HX2655 => ?_)
    have hJ_v2654 := h2652.1.1
    obtain ⟨n10_v2654, hn10_v2654, g10_v2654⟩ := hJ_v2654.2.2.2.2.1
    exact RET _ _ _ _ _ _ _ HX2655 dX7_cancel_34 (⟨rfl, ⟨⟨hJ_v2654, (show v2654 397 9 = v 397 9 from ((show v2654 397 9 = nI (n9) from ((h2652.1.2).trans (by rw [h2649.2 _ (by omega)]; exact (by rw [h2646.2 _ (by omega)]; exact g9)))).trans g9.symm))⟩, (fa_fr.tr (fa_fr.tr (fa_fr.tr fa_fr.rf (fa_fr.wide h2646.2 (by omega) (by omega))) (fa_fr.wide h2649.2 (by omega) (by omega))) (fa_fr.wide h2652.2 (by omega) (by omega)))⟩⟩)
  · refine lv_iconst (v := (-1 : Int32)) hx hb dX7_cancel_12 (by decide) ?_
    exact RET _ _ _ _ _ _ _ HX2645 dX7_cancel_13 (⟨rfl, ⟨⟨hJ, (show v 397 9 = v 397 9 from rfl)⟩, fa_fr.rf⟩⟩)
set_option maxHeartbeats 4000000 in
set_option maxRecDepth 100000 in
theorem r_set (l : Launch) (G : fa_G) (n : Nat) (hn : 406 ≤ n) (v : fa_V) (r : fa_R) (hM : fa_RM r) (hJ : fa_MJ v) (a1 : Int32) (a2 : Int32) : fa_MI l G n yX7_set cX7_set 4 (some .int) 8 [.ref (fa_B G + (397)), .int (a1), .int (a2)] v r (fa_voi r (fun x v1 => ((fa_MJ v1) ∧ (v1 397 9 = v 397 9)) ∧ (fa_fr (397) (406) v v1))) := by
  refine fa_startI (by decide +kernel) (Nat.le_of_ble_eq_true rfl) (fun p e s m args below meth c ls Q CX hl HX RET => ?_)
  have hl : lv_has ls 4 [(0, .ref (fa_B G + (397))), (1, .int (a1)), (2, .int (a2))] := hl
  have hx := CX.1.1
  have hb := CX.1.2.1
  have hS := hJ.1
  obtain ⟨n4, en4⟩ : ∃ m, m = fa_N (v 398 14) := ⟨_, rfl⟩
  obtain ⟨hn4, g4⟩ := hS.n4 en4
  obtain ⟨n5, en5⟩ : ∃ m, m = fa_N (v 398 15) := ⟨_, rfl⟩
  obtain ⟨hn5, g5⟩ := hS.n5 en5
  obtain ⟨n6, en6⟩ : ∃ m, m = fa_N (v 398 16) := ⟨_, rfl⟩
  obtain ⟨hn6, g6⟩ := hS.n6 en6
  obtain ⟨n10, hn10, g10⟩ := hJ.2.2.2.2.1
  obtain ⟨n9, hn9, g9⟩ := hJ.2.2.2.2.2
  refine lv_iload_n hx hb dX7_set_0 rfl (lv_at hl 1 rfl) ?_
  refine lv_iconst (v := nI (0)) hx hb dX7_set_1 (by decide) ?_
  refine lv_bipush (v := nI (6)) hx hb dX7_set_2 (by decide) ?_
  refine fa_callSip (As := [.int (a1), .int (nI (0)), .int (nI (6))]) (rest := []) CX HX (r_in l G n v r (a1) (nI (0)) (nI (6))) ln_X7_86 rfl rfl (Nat.le_of_ble_eq_true rfl) hl.1 ⟨Nat.le_of_ble_eq_true rfl, Nat.le_of_ble_eq_true rfl⟩ ⟨Nat.le_refl _, Nat.le_refl _⟩ dX7_set_4 (fun x2657 H locs h2656 HX2658 => ?_)
  have h_in_4 := h2656
  refine lv_if_ne (tgt := 12) hx hb dX7_set_7 (by decide) (fun c_7 => ?_) (fun c_7 => ?_)
  · obtain ⟨ja, hja, eja⟩ := fa_inN (by decide) (fa_in1 h_in_4 c_7)
    refine lv_iload_n hx hb dX7_set_12 rfl (lv_at hl 2 rfl) ?_
    refine lv_iload_n hx hb dX7_set_13 rfl (lv_at hl 1 rfl) ?_
    rw [show a1 = nI (ja) from eja]
    refine lv_iconst (v := nI (5)) hx hb dX7_set_14 (by decide) ?_
    refine lv_icmp_ge (tgt := 23) hx hb dX7_set_15 (by decide) (fun c_15 => ?_) (fun c_15 => ?_)
    · refine lv_iload_n hx hb dX7_set_23 rfl (lv_at hl 1 rfl) ?_
      rw [show a1 = nI (ja) from eja]
      refine lv_iconst (v := nI (5)) hx hb dX7_set_24 (by decide) ?_
      refine lv_icmp_ne (tgt := 32) hx hb dX7_set_25 (by decide) (fun c_25 => ?_) (fun c_25 => ?_)
      · refine lv_bipush (v := nI (50)) hx hb dX7_set_32 (by decide) ?_
        refine lv_iload_n hx hb dX7_set_34 rfl (lv_at hl 1 rfl) ?_
        rw [show a1 = nI (ja) from eja]
        refine lv_iconst (v := nI (5)) hx hb dX7_set_35 (by decide) ?_
        refine lv_icmp_ge (tgt := 45) hx hb dX7_set_36 (by decide) (fun c_36 => ?_) (fun c_36 => ?_)
        · refine lv_iload_n hx hb dX7_set_45 rfl (lv_at hl 1 rfl) ?_
          rw [show a1 = nI (ja) from eja]
          refine lv_iconst (v := nI (5)) hx hb dX7_set_46 (by decide) ?_
          refine lv_icmp_ne (tgt := 55) hx hb dX7_set_47 (by decide) (fun c_47 => ?_) (fun c_47 => ?_)
          · refine lv_sipush (v := nI (600)) hx hb dX7_set_55 (by decide) ?_
            refine fa_callSip (As := [.int (a2), .int (nI (50)), .int (nI (600))]) (rest := []) CX HX2658 (r_in l G n v r (a2) (nI (50)) (nI (600))) ln_X7_86 rfl rfl (Nat.le_of_ble_eq_true rfl) hl.1 ⟨Nat.le_of_ble_eq_true rfl, Nat.le_of_ble_eq_true rfl⟩ ⟨Nat.le_refl _, Nat.le_refl _⟩ dX7_set_58 (fun x2660 H locs h2659 HX2661 => ?_)
            have h_in_58 := h2659
            refine lv_if_ne (tgt := 67) hx hb dX7_set_61 (by decide) (fun c_61 => ?_) (fun c_61 => ?_)
            · refine lv_aload_n hx hb dX7_set_67 rfl (lv_at hl 0 rfl) ?_
              refine fa_callVvu (As := []) (rest := []) CX HX2661 (r_hold l G n hn v r hM) ln_X7_102 (by omega) rfl rfl rfl rfl (Nat.le_of_ble_eq_true rfl) hl.1 ⟨Nat.le_of_ble_eq_true rfl, Nat.le_of_ble_eq_true rfl⟩ ⟨Nat.le_refl _, Nat.le_refl _⟩ dX7_set_68 (fun v2663 H locs h2662 HX2664 => ?_)
              have h_hold := h2662.1
              refine lv_aload_n hx hb dX7_set_71 rfl (lv_at hl 0 rfl) ?_
              refine fa_getr (k := 397) (j := 398) CX HX2664 fl_X7_7 (by omega) rfl rfl hM.1 dX7_set_72 ?_
              refine lv_iload_n hx hb dX7_set_75 rfl (lv_at hl 1 rfl) ?_
              rw [show a1 = nI (ja) from eja]
              refine fa_iald (k := 398) (j := ja) CX HX2664 (by omega) rfl (by omega) (by first | decide | assumption) dX7_set_76 ?_
              refine lv_istore_n (lv' := [(3, .int (v2663 398 ja)), (0, .ref (fa_B G + (397))), (1, .int (a1)), (2, .int (a2))]) hx hb dX7_set_77 rfl hl (by decide) rfl (fun ls hl => ?_)
              refine lv_aload_n hx hb dX7_set_78 rfl (lv_at hl 1 rfl) ?_
              refine fa_getr (k := 397) (j := 398) CX HX2664 fl_X7_7 (by omega) rfl rfl hM.1 dX7_set_79 ?_
              refine lv_iload_n hx hb dX7_set_82 rfl (lv_at hl 2 rfl) ?_
              rw [show a1 = nI (ja) from eja]
              refine lv_iload_n hx hb dX7_set_83 rfl (lv_at hl 3 rfl) ?_
              refine fa_iast (k := 398) (j := ja) CX HX2664 (by omega) rfl (by omega) (by first | decide | assumption) dX7_set_84 (fun H locs v2665 e2666 HX2667 => ?_)
              refine lv_aload_n hx hb dX7_set_85 rfl (lv_at hl 1 rfl) ?_
              refine lv_iload_n hx hb dX7_set_86 rfl (lv_at hl 0 rfl) ?_
              refine fa_callViu (As := [.int (v2663 398 ja)]) (rest := []) CX HX2667 (r_recorded l G n hn v2665 r hM (show fa_MJ v2665 from ⟨(show fa_MS (v2665 398) from by rw [e2666]; exact fa_MS.u (show fa_MS (v2663 398) from by rw [h2662.2 398 (by omega)]; exact hJ.1) (fa_ok.o (by omega) (by omega) (by omega) (fun p hp => by omega))), (show fa_MS (v2665 399) from by rw [e2666, fa_u_k _ _ (by decide)]; exact (fa_MS.cp hJ.1 h2662.1)), (show fa_MS (v2665 400) from by rw [e2666, fa_u_k _ _ (by decide)]; exact (show fa_MS (v2663 400) from by rw [h2662.2 400 (by omega)]; exact hJ.2.2.1)), (show fa_MB (v2665 401) from by rw [e2666, fa_u_k _ _ (by decide)]; exact (show fa_MB (v2663 401) from by rw [h2662.2 401 (by omega)]; exact hJ.2.2.2.1)), ⟨n10, by omega, (by rw [e2666, fa_u_n _ _ (by omega)]; exact (by rw [h2662.2 _ (by omega)]; exact g10))⟩, ⟨n9, by omega, (by rw [e2666, fa_u_n _ _ (by omega)]; exact (by rw [h2662.2 _ (by omega)]; exact g9))⟩⟩) (v2663 398 ja)) ln_X7_109 (by omega) rfl rfl rfl rfl (Nat.le_of_ble_eq_true rfl) hl.1 ⟨Nat.le_of_ble_eq_true rfl, Nat.le_of_ble_eq_true rfl⟩ ⟨Nat.le_refl _, Nat.le_refl _⟩ dX7_set_87 (fun x2669 v2670 H locs h2668 HX2671 => ?_)
              have hJ_v2670 := h2668.1.1
              obtain ⟨n10_v2670, hn10_v2670, g10_v2670⟩ := hJ_v2670.2.2.2.2.1
              exact RET _ _ _ _ _ _ _ HX2671 dX7_set_90 (⟨rfl, ⟨⟨hJ_v2670, (show v2670 397 9 = v 397 9 from ((show v2670 397 9 = nI (n9) from ((h2668.1.2).trans (by rw [e2666, fa_u_n _ _ (by omega)]; exact (by rw [h2662.2 _ (by omega)]; exact g9)))).trans g9.symm))⟩, (fa_fr.tr (by rw [e2666]; exact fa_fr.u (fa_fr.tr fa_fr.rf (fa_fr.wide h2662.2 (by omega) (by omega))) (by omega)) (fa_fr.wide h2668.2 (by omega) (by omega)))⟩⟩)
            · refine lv_bipush (v := (-2 : Int32)) hx hb dX7_set_64 (by decide) ?_
              exact RET _ _ _ _ _ _ _ HX2661 dX7_set_66 (⟨rfl, ⟨⟨hJ, (show v 397 9 = v 397 9 from rfl)⟩, fa_fr.rf⟩⟩)
          · refine lv_bipush (v := nI (20)) hx hb dX7_set_50 (by decide) ?_
            refine lv_goto (tgt := 58) hx hb dX7_set_52 (by decide) ?_
            refine fa_callSip (As := [.int (a2), .int (nI (50)), .int (nI (20))]) (rest := []) CX HX2658 (r_in l G n v r (a2) (nI (50)) (nI (20))) ln_X7_86 rfl rfl (Nat.le_of_ble_eq_true rfl) hl.1 ⟨Nat.le_of_ble_eq_true rfl, Nat.le_of_ble_eq_true rfl⟩ ⟨Nat.le_refl _, Nat.le_refl _⟩ dX7_set_58 (fun x2673 H locs h2672 HX2674 => ?_)
            have h_in_58 := h2672
            refine lv_if_ne (tgt := 67) hx hb dX7_set_61 (by decide) (fun c_61 => ?_) (fun c_61 => ?_)
            · refine lv_aload_n hx hb dX7_set_67 rfl (lv_at hl 0 rfl) ?_
              refine fa_callVvu (As := []) (rest := []) CX HX2674 (r_hold l G n hn v r hM) ln_X7_102 (by omega) rfl rfl rfl rfl (Nat.le_of_ble_eq_true rfl) hl.1 ⟨Nat.le_of_ble_eq_true rfl, Nat.le_of_ble_eq_true rfl⟩ ⟨Nat.le_refl _, Nat.le_refl _⟩ dX7_set_68 (fun v2676 H locs h2675 HX2677 => ?_)
              have h_hold := h2675.1
              refine lv_aload_n hx hb dX7_set_71 rfl (lv_at hl 0 rfl) ?_
              refine fa_getr (k := 397) (j := 398) CX HX2677 fl_X7_7 (by omega) rfl rfl hM.1 dX7_set_72 ?_
              refine lv_iload_n hx hb dX7_set_75 rfl (lv_at hl 1 rfl) ?_
              rw [show a1 = nI (ja) from eja]
              refine fa_iald (k := 398) (j := ja) CX HX2677 (by omega) rfl (by omega) (by first | decide | assumption) dX7_set_76 ?_
              refine lv_istore_n (lv' := [(3, .int (v2676 398 ja)), (0, .ref (fa_B G + (397))), (1, .int (a1)), (2, .int (a2))]) hx hb dX7_set_77 rfl hl (by decide) rfl (fun ls hl => ?_)
              refine lv_aload_n hx hb dX7_set_78 rfl (lv_at hl 1 rfl) ?_
              refine fa_getr (k := 397) (j := 398) CX HX2677 fl_X7_7 (by omega) rfl rfl hM.1 dX7_set_79 ?_
              refine lv_iload_n hx hb dX7_set_82 rfl (lv_at hl 2 rfl) ?_
              rw [show a1 = nI (ja) from eja]
              refine lv_iload_n hx hb dX7_set_83 rfl (lv_at hl 3 rfl) ?_
              refine fa_iast (k := 398) (j := ja) CX HX2677 (by omega) rfl (by omega) (by first | decide | assumption) dX7_set_84 (fun H locs v2678 e2679 HX2680 => ?_)
              refine lv_aload_n hx hb dX7_set_85 rfl (lv_at hl 1 rfl) ?_
              refine lv_iload_n hx hb dX7_set_86 rfl (lv_at hl 0 rfl) ?_
              refine fa_callViu (As := [.int (v2676 398 ja)]) (rest := []) CX HX2680 (r_recorded l G n hn v2678 r hM (show fa_MJ v2678 from ⟨(show fa_MS (v2678 398) from by rw [e2679]; exact fa_MS.u (show fa_MS (v2676 398) from by rw [h2675.2 398 (by omega)]; exact hJ.1) (fa_ok.o (by omega) (by omega) (by omega) (fun p hp => by omega))), (show fa_MS (v2678 399) from by rw [e2679, fa_u_k _ _ (by decide)]; exact (fa_MS.cp hJ.1 h2675.1)), (show fa_MS (v2678 400) from by rw [e2679, fa_u_k _ _ (by decide)]; exact (show fa_MS (v2676 400) from by rw [h2675.2 400 (by omega)]; exact hJ.2.2.1)), (show fa_MB (v2678 401) from by rw [e2679, fa_u_k _ _ (by decide)]; exact (show fa_MB (v2676 401) from by rw [h2675.2 401 (by omega)]; exact hJ.2.2.2.1)), ⟨n10, by omega, (by rw [e2679, fa_u_n _ _ (by omega)]; exact (by rw [h2675.2 _ (by omega)]; exact g10))⟩, ⟨n9, by omega, (by rw [e2679, fa_u_n _ _ (by omega)]; exact (by rw [h2675.2 _ (by omega)]; exact g9))⟩⟩) (v2676 398 ja)) ln_X7_109 (by omega) rfl rfl rfl rfl (Nat.le_of_ble_eq_true rfl) hl.1 ⟨Nat.le_of_ble_eq_true rfl, Nat.le_of_ble_eq_true rfl⟩ ⟨Nat.le_refl _, Nat.le_refl _⟩ dX7_set_87 (fun x2682 v2683 H locs h2681 HX2684 => ?_)
              have hJ_v2683 := h2681.1.1
              obtain ⟨n10_v2683, hn10_v2683, g10_v2683⟩ := hJ_v2683.2.2.2.2.1
              exact RET _ _ _ _ _ _ _ HX2684 dX7_set_90 (⟨rfl, ⟨⟨hJ_v2683, (show v2683 397 9 = v 397 9 from ((show v2683 397 9 = nI (n9) from ((h2681.1.2).trans (by rw [e2679, fa_u_n _ _ (by omega)]; exact (by rw [h2675.2 _ (by omega)]; exact g9)))).trans g9.symm))⟩, (fa_fr.tr (by rw [e2679]; exact fa_fr.u (fa_fr.tr fa_fr.rf (fa_fr.wide h2675.2 (by omega) (by omega))) (by omega)) (fa_fr.wide h2681.2 (by omega) (by omega)))⟩⟩)
            · refine lv_bipush (v := (-2 : Int32)) hx hb dX7_set_64 (by decide) ?_
              exact RET _ _ _ _ _ _ _ HX2674 dX7_set_66 (⟨rfl, ⟨⟨hJ, (show v 397 9 = v 397 9 from rfl)⟩, fa_fr.rf⟩⟩)
        · refine lv_sipush (v := nI (2000)) hx hb dX7_set_39 (by decide) ?_
          refine lv_goto (tgt := 58) hx hb dX7_set_42 (by decide) ?_
          refine fa_callSip (As := [.int (a2), .int (nI (50)), .int (nI (2000))]) (rest := []) CX HX2658 (r_in l G n v r (a2) (nI (50)) (nI (2000))) ln_X7_86 rfl rfl (Nat.le_of_ble_eq_true rfl) hl.1 ⟨Nat.le_of_ble_eq_true rfl, Nat.le_of_ble_eq_true rfl⟩ ⟨Nat.le_refl _, Nat.le_refl _⟩ dX7_set_58 (fun x2686 H locs h2685 HX2687 => ?_)
          have h_in_58 := h2685
          refine lv_if_ne (tgt := 67) hx hb dX7_set_61 (by decide) (fun c_61 => ?_) (fun c_61 => ?_)
          · refine lv_aload_n hx hb dX7_set_67 rfl (lv_at hl 0 rfl) ?_
            refine fa_callVvu (As := []) (rest := []) CX HX2687 (r_hold l G n hn v r hM) ln_X7_102 (by omega) rfl rfl rfl rfl (Nat.le_of_ble_eq_true rfl) hl.1 ⟨Nat.le_of_ble_eq_true rfl, Nat.le_of_ble_eq_true rfl⟩ ⟨Nat.le_refl _, Nat.le_refl _⟩ dX7_set_68 (fun v2689 H locs h2688 HX2690 => ?_)
            have h_hold := h2688.1
            refine lv_aload_n hx hb dX7_set_71 rfl (lv_at hl 0 rfl) ?_
            refine fa_getr (k := 397) (j := 398) CX HX2690 fl_X7_7 (by omega) rfl rfl hM.1 dX7_set_72 ?_
            refine lv_iload_n hx hb dX7_set_75 rfl (lv_at hl 1 rfl) ?_
            rw [show a1 = nI (ja) from eja]
            refine fa_iald (k := 398) (j := ja) CX HX2690 (by omega) rfl (by omega) (by first | decide | assumption) dX7_set_76 ?_
            refine lv_istore_n (lv' := [(3, .int (v2689 398 ja)), (0, .ref (fa_B G + (397))), (1, .int (a1)), (2, .int (a2))]) hx hb dX7_set_77 rfl hl (by decide) rfl (fun ls hl => ?_)
            refine lv_aload_n hx hb dX7_set_78 rfl (lv_at hl 1 rfl) ?_
            refine fa_getr (k := 397) (j := 398) CX HX2690 fl_X7_7 (by omega) rfl rfl hM.1 dX7_set_79 ?_
            refine lv_iload_n hx hb dX7_set_82 rfl (lv_at hl 2 rfl) ?_
            rw [show a1 = nI (ja) from eja]
            refine lv_iload_n hx hb dX7_set_83 rfl (lv_at hl 3 rfl) ?_
            refine fa_iast (k := 398) (j := ja) CX HX2690 (by omega) rfl (by omega) (by first | decide | assumption) dX7_set_84 (fun H locs v2691 e2692 HX2693 => ?_)
            refine lv_aload_n hx hb dX7_set_85 rfl (lv_at hl 1 rfl) ?_
            refine lv_iload_n hx hb dX7_set_86 rfl (lv_at hl 0 rfl) ?_
            refine fa_callViu (As := [.int (v2689 398 ja)]) (rest := []) CX HX2693 (r_recorded l G n hn v2691 r hM (show fa_MJ v2691 from ⟨(show fa_MS (v2691 398) from by rw [e2692]; exact fa_MS.u (show fa_MS (v2689 398) from by rw [h2688.2 398 (by omega)]; exact hJ.1) (fa_ok.o (by omega) (by omega) (by omega) (fun p hp => by omega))), (show fa_MS (v2691 399) from by rw [e2692, fa_u_k _ _ (by decide)]; exact (fa_MS.cp hJ.1 h2688.1)), (show fa_MS (v2691 400) from by rw [e2692, fa_u_k _ _ (by decide)]; exact (show fa_MS (v2689 400) from by rw [h2688.2 400 (by omega)]; exact hJ.2.2.1)), (show fa_MB (v2691 401) from by rw [e2692, fa_u_k _ _ (by decide)]; exact (show fa_MB (v2689 401) from by rw [h2688.2 401 (by omega)]; exact hJ.2.2.2.1)), ⟨n10, by omega, (by rw [e2692, fa_u_n _ _ (by omega)]; exact (by rw [h2688.2 _ (by omega)]; exact g10))⟩, ⟨n9, by omega, (by rw [e2692, fa_u_n _ _ (by omega)]; exact (by rw [h2688.2 _ (by omega)]; exact g9))⟩⟩) (v2689 398 ja)) ln_X7_109 (by omega) rfl rfl rfl rfl (Nat.le_of_ble_eq_true rfl) hl.1 ⟨Nat.le_of_ble_eq_true rfl, Nat.le_of_ble_eq_true rfl⟩ ⟨Nat.le_refl _, Nat.le_refl _⟩ dX7_set_87 (fun x2695 v2696 H locs h2694 HX2697 => ?_)
            have hJ_v2696 := h2694.1.1
            obtain ⟨n10_v2696, hn10_v2696, g10_v2696⟩ := hJ_v2696.2.2.2.2.1
            exact RET _ _ _ _ _ _ _ HX2697 dX7_set_90 (⟨rfl, ⟨⟨hJ_v2696, (show v2696 397 9 = v 397 9 from ((show v2696 397 9 = nI (n9) from ((h2694.1.2).trans (by rw [e2692, fa_u_n _ _ (by omega)]; exact (by rw [h2688.2 _ (by omega)]; exact g9)))).trans g9.symm))⟩, (fa_fr.tr (by rw [e2692]; exact fa_fr.u (fa_fr.tr fa_fr.rf (fa_fr.wide h2688.2 (by omega) (by omega))) (by omega)) (fa_fr.wide h2694.2 (by omega) (by omega)))⟩⟩)
          · refine lv_bipush (v := (-2 : Int32)) hx hb dX7_set_64 (by decide) ?_
            exact RET _ _ _ _ _ _ _ HX2687 dX7_set_66 (⟨rfl, ⟨⟨hJ, (show v 397 9 = v 397 9 from rfl)⟩, fa_fr.rf⟩⟩)
      · refine lv_iconst (v := nI (1)) hx hb dX7_set_28 (by decide) ?_
        refine lv_goto (tgt := 34) hx hb dX7_set_29 (by decide) ?_
        refine lv_iload_n hx hb dX7_set_34 rfl (lv_at hl 1 rfl) ?_
        rw [show a1 = nI (ja) from eja]
        refine lv_iconst (v := nI (5)) hx hb dX7_set_35 (by decide) ?_
        refine lv_icmp_ge (tgt := 45) hx hb dX7_set_36 (by decide) (fun c_36 => ?_) (fun c_36 => ?_)
        · refine lv_iload_n hx hb dX7_set_45 rfl (lv_at hl 1 rfl) ?_
          rw [show a1 = nI (ja) from eja]
          refine lv_iconst (v := nI (5)) hx hb dX7_set_46 (by decide) ?_
          refine lv_icmp_ne (tgt := 55) hx hb dX7_set_47 (by decide) (fun c_47 => ?_) (fun c_47 => ?_)
          · refine lv_sipush (v := nI (600)) hx hb dX7_set_55 (by decide) ?_
            refine fa_callSip (As := [.int (a2), .int (nI (1)), .int (nI (600))]) (rest := []) CX HX2658 (r_in l G n v r (a2) (nI (1)) (nI (600))) ln_X7_86 rfl rfl (Nat.le_of_ble_eq_true rfl) hl.1 ⟨Nat.le_of_ble_eq_true rfl, Nat.le_of_ble_eq_true rfl⟩ ⟨Nat.le_refl _, Nat.le_refl _⟩ dX7_set_58 (fun x2699 H locs h2698 HX2700 => ?_)
            have h_in_58 := h2698
            refine lv_if_ne (tgt := 67) hx hb dX7_set_61 (by decide) (fun c_61 => ?_) (fun c_61 => ?_)
            · refine lv_aload_n hx hb dX7_set_67 rfl (lv_at hl 0 rfl) ?_
              refine fa_callVvu (As := []) (rest := []) CX HX2700 (r_hold l G n hn v r hM) ln_X7_102 (by omega) rfl rfl rfl rfl (Nat.le_of_ble_eq_true rfl) hl.1 ⟨Nat.le_of_ble_eq_true rfl, Nat.le_of_ble_eq_true rfl⟩ ⟨Nat.le_refl _, Nat.le_refl _⟩ dX7_set_68 (fun v2702 H locs h2701 HX2703 => ?_)
              have h_hold := h2701.1
              refine lv_aload_n hx hb dX7_set_71 rfl (lv_at hl 0 rfl) ?_
              refine fa_getr (k := 397) (j := 398) CX HX2703 fl_X7_7 (by omega) rfl rfl hM.1 dX7_set_72 ?_
              refine lv_iload_n hx hb dX7_set_75 rfl (lv_at hl 1 rfl) ?_
              rw [show a1 = nI (ja) from eja]
              refine fa_iald (k := 398) (j := ja) CX HX2703 (by omega) rfl (by omega) (by first | decide | assumption) dX7_set_76 ?_
              refine lv_istore_n (lv' := [(3, .int (v2702 398 ja)), (0, .ref (fa_B G + (397))), (1, .int (a1)), (2, .int (a2))]) hx hb dX7_set_77 rfl hl (by decide) rfl (fun ls hl => ?_)
              refine lv_aload_n hx hb dX7_set_78 rfl (lv_at hl 1 rfl) ?_
              refine fa_getr (k := 397) (j := 398) CX HX2703 fl_X7_7 (by omega) rfl rfl hM.1 dX7_set_79 ?_
              refine lv_iload_n hx hb dX7_set_82 rfl (lv_at hl 2 rfl) ?_
              rw [show a1 = nI (ja) from eja]
              refine lv_iload_n hx hb dX7_set_83 rfl (lv_at hl 3 rfl) ?_
              refine fa_iast (k := 398) (j := ja) CX HX2703 (by omega) rfl (by omega) (by first | decide | assumption) dX7_set_84 (fun H locs v2704 e2705 HX2706 => ?_)
              refine lv_aload_n hx hb dX7_set_85 rfl (lv_at hl 1 rfl) ?_
              refine lv_iload_n hx hb dX7_set_86 rfl (lv_at hl 0 rfl) ?_
              refine fa_callViu (As := [.int (v2702 398 ja)]) (rest := []) CX HX2706 (r_recorded l G n hn v2704 r hM (show fa_MJ v2704 from ⟨(show fa_MS (v2704 398) from by rw [e2705]; exact fa_MS.u (show fa_MS (v2702 398) from by rw [h2701.2 398 (by omega)]; exact hJ.1) (fa_ok.o (by omega) (by omega) (by omega) (fun p hp => by omega))), (show fa_MS (v2704 399) from by rw [e2705, fa_u_k _ _ (by decide)]; exact (fa_MS.cp hJ.1 h2701.1)), (show fa_MS (v2704 400) from by rw [e2705, fa_u_k _ _ (by decide)]; exact (show fa_MS (v2702 400) from by rw [h2701.2 400 (by omega)]; exact hJ.2.2.1)), (show fa_MB (v2704 401) from by rw [e2705, fa_u_k _ _ (by decide)]; exact (show fa_MB (v2702 401) from by rw [h2701.2 401 (by omega)]; exact hJ.2.2.2.1)), ⟨n10, by omega, (by rw [e2705, fa_u_n _ _ (by omega)]; exact (by rw [h2701.2 _ (by omega)]; exact g10))⟩, ⟨n9, by omega, (by rw [e2705, fa_u_n _ _ (by omega)]; exact (by rw [h2701.2 _ (by omega)]; exact g9))⟩⟩) (v2702 398 ja)) ln_X7_109 (by omega) rfl rfl rfl rfl (Nat.le_of_ble_eq_true rfl) hl.1 ⟨Nat.le_of_ble_eq_true rfl, Nat.le_of_ble_eq_true rfl⟩ ⟨Nat.le_refl _, Nat.le_refl _⟩ dX7_set_87 (fun x2708 v2709 H locs h2707 HX2710 => ?_)
              have hJ_v2709 := h2707.1.1
              obtain ⟨n10_v2709, hn10_v2709, g10_v2709⟩ := hJ_v2709.2.2.2.2.1
              exact RET _ _ _ _ _ _ _ HX2710 dX7_set_90 (⟨rfl, ⟨⟨hJ_v2709, (show v2709 397 9 = v 397 9 from ((show v2709 397 9 = nI (n9) from ((h2707.1.2).trans (by rw [e2705, fa_u_n _ _ (by omega)]; exact (by rw [h2701.2 _ (by omega)]; exact g9)))).trans g9.symm))⟩, (fa_fr.tr (by rw [e2705]; exact fa_fr.u (fa_fr.tr fa_fr.rf (fa_fr.wide h2701.2 (by omega) (by omega))) (by omega)) (fa_fr.wide h2707.2 (by omega) (by omega)))⟩⟩)
            · refine lv_bipush (v := (-2 : Int32)) hx hb dX7_set_64 (by decide) ?_
              exact RET _ _ _ _ _ _ _ HX2700 dX7_set_66 (⟨rfl, ⟨⟨hJ, (show v 397 9 = v 397 9 from rfl)⟩, fa_fr.rf⟩⟩)
          · refine lv_bipush (v := nI (20)) hx hb dX7_set_50 (by decide) ?_
            refine lv_goto (tgt := 58) hx hb dX7_set_52 (by decide) ?_
            refine fa_callSip (As := [.int (a2), .int (nI (1)), .int (nI (20))]) (rest := []) CX HX2658 (r_in l G n v r (a2) (nI (1)) (nI (20))) ln_X7_86 rfl rfl (Nat.le_of_ble_eq_true rfl) hl.1 ⟨Nat.le_of_ble_eq_true rfl, Nat.le_of_ble_eq_true rfl⟩ ⟨Nat.le_refl _, Nat.le_refl _⟩ dX7_set_58 (fun x2712 H locs h2711 HX2713 => ?_)
            have h_in_58 := h2711
            refine lv_if_ne (tgt := 67) hx hb dX7_set_61 (by decide) (fun c_61 => ?_) (fun c_61 => ?_)
            · refine lv_aload_n hx hb dX7_set_67 rfl (lv_at hl 0 rfl) ?_
              refine fa_callVvu (As := []) (rest := []) CX HX2713 (r_hold l G n hn v r hM) ln_X7_102 (by omega) rfl rfl rfl rfl (Nat.le_of_ble_eq_true rfl) hl.1 ⟨Nat.le_of_ble_eq_true rfl, Nat.le_of_ble_eq_true rfl⟩ ⟨Nat.le_refl _, Nat.le_refl _⟩ dX7_set_68 (fun v2715 H locs h2714 HX2716 => ?_)
              have h_hold := h2714.1
              refine lv_aload_n hx hb dX7_set_71 rfl (lv_at hl 0 rfl) ?_
              refine fa_getr (k := 397) (j := 398) CX HX2716 fl_X7_7 (by omega) rfl rfl hM.1 dX7_set_72 ?_
              refine lv_iload_n hx hb dX7_set_75 rfl (lv_at hl 1 rfl) ?_
              rw [show a1 = nI (ja) from eja]
              refine fa_iald (k := 398) (j := ja) CX HX2716 (by omega) rfl (by omega) (by first | decide | assumption) dX7_set_76 ?_
              refine lv_istore_n (lv' := [(3, .int (v2715 398 ja)), (0, .ref (fa_B G + (397))), (1, .int (a1)), (2, .int (a2))]) hx hb dX7_set_77 rfl hl (by decide) rfl (fun ls hl => ?_)
              refine lv_aload_n hx hb dX7_set_78 rfl (lv_at hl 1 rfl) ?_
              refine fa_getr (k := 397) (j := 398) CX HX2716 fl_X7_7 (by omega) rfl rfl hM.1 dX7_set_79 ?_
              refine lv_iload_n hx hb dX7_set_82 rfl (lv_at hl 2 rfl) ?_
              rw [show a1 = nI (ja) from eja]
              refine lv_iload_n hx hb dX7_set_83 rfl (lv_at hl 3 rfl) ?_
              refine fa_iast (k := 398) (j := ja) CX HX2716 (by omega) rfl (by omega) (by first | decide | assumption) dX7_set_84 (fun H locs v2717 e2718 HX2719 => ?_)
              refine lv_aload_n hx hb dX7_set_85 rfl (lv_at hl 1 rfl) ?_
              refine lv_iload_n hx hb dX7_set_86 rfl (lv_at hl 0 rfl) ?_
              refine fa_callViu (As := [.int (v2715 398 ja)]) (rest := []) CX HX2719 (r_recorded l G n hn v2717 r hM (show fa_MJ v2717 from ⟨(show fa_MS (v2717 398) from by rw [e2718]; exact fa_MS.u (show fa_MS (v2715 398) from by rw [h2714.2 398 (by omega)]; exact hJ.1) (fa_ok.o (by omega) (by omega) (by omega) (fun p hp => by omega))), (show fa_MS (v2717 399) from by rw [e2718, fa_u_k _ _ (by decide)]; exact (fa_MS.cp hJ.1 h2714.1)), (show fa_MS (v2717 400) from by rw [e2718, fa_u_k _ _ (by decide)]; exact (show fa_MS (v2715 400) from by rw [h2714.2 400 (by omega)]; exact hJ.2.2.1)), (show fa_MB (v2717 401) from by rw [e2718, fa_u_k _ _ (by decide)]; exact (show fa_MB (v2715 401) from by rw [h2714.2 401 (by omega)]; exact hJ.2.2.2.1)), ⟨n10, by omega, (by rw [e2718, fa_u_n _ _ (by omega)]; exact (by rw [h2714.2 _ (by omega)]; exact g10))⟩, ⟨n9, by omega, (by rw [e2718, fa_u_n _ _ (by omega)]; exact (by rw [h2714.2 _ (by omega)]; exact g9))⟩⟩) (v2715 398 ja)) ln_X7_109 (by omega) rfl rfl rfl rfl (Nat.le_of_ble_eq_true rfl) hl.1 ⟨Nat.le_of_ble_eq_true rfl, Nat.le_of_ble_eq_true rfl⟩ ⟨Nat.le_refl _, Nat.le_refl _⟩ dX7_set_87 (fun x2721 v2722 H locs h2720 HX2723 => ?_)
              have hJ_v2722 := h2720.1.1
              obtain ⟨n10_v2722, hn10_v2722, g10_v2722⟩ := hJ_v2722.2.2.2.2.1
              exact RET _ _ _ _ _ _ _ HX2723 dX7_set_90 (⟨rfl, ⟨⟨hJ_v2722, (show v2722 397 9 = v 397 9 from ((show v2722 397 9 = nI (n9) from ((h2720.1.2).trans (by rw [e2718, fa_u_n _ _ (by omega)]; exact (by rw [h2714.2 _ (by omega)]; exact g9)))).trans g9.symm))⟩, (fa_fr.tr (by rw [e2718]; exact fa_fr.u (fa_fr.tr fa_fr.rf (fa_fr.wide h2714.2 (by omega) (by omega))) (by omega)) (fa_fr.wide h2720.2 (by omega) (by omega)))⟩⟩)
            · refine lv_bipush (v := (-2 : Int32)) hx hb dX7_set_64 (by decide) ?_
              exact RET _ _ _ _ _ _ _ HX2713 dX7_set_66 (⟨rfl, ⟨⟨hJ, (show v 397 9 = v 397 9 from rfl)⟩, fa_fr.rf⟩⟩)
        · refine lv_sipush (v := nI (2000)) hx hb dX7_set_39 (by decide) ?_
          refine lv_goto (tgt := 58) hx hb dX7_set_42 (by decide) ?_
          refine fa_callSip (As := [.int (a2), .int (nI (1)), .int (nI (2000))]) (rest := []) CX HX2658 (r_in l G n v r (a2) (nI (1)) (nI (2000))) ln_X7_86 rfl rfl (Nat.le_of_ble_eq_true rfl) hl.1 ⟨Nat.le_of_ble_eq_true rfl, Nat.le_of_ble_eq_true rfl⟩ ⟨Nat.le_refl _, Nat.le_refl _⟩ dX7_set_58 (fun x2725 H locs h2724 HX2726 => ?_)
          have h_in_58 := h2724
          refine lv_if_ne (tgt := 67) hx hb dX7_set_61 (by decide) (fun c_61 => ?_) (fun c_61 => ?_)
          · refine lv_aload_n hx hb dX7_set_67 rfl (lv_at hl 0 rfl) ?_
            refine fa_callVvu (As := []) (rest := []) CX HX2726 (r_hold l G n hn v r hM) ln_X7_102 (by omega) rfl rfl rfl rfl (Nat.le_of_ble_eq_true rfl) hl.1 ⟨Nat.le_of_ble_eq_true rfl, Nat.le_of_ble_eq_true rfl⟩ ⟨Nat.le_refl _, Nat.le_refl _⟩ dX7_set_68 (fun v2728 H locs h2727 HX2729 => ?_)
            have h_hold := h2727.1
            refine lv_aload_n hx hb dX7_set_71 rfl (lv_at hl 0 rfl) ?_
            refine fa_getr (k := 397) (j := 398) CX HX2729 fl_X7_7 (by omega) rfl rfl hM.1 dX7_set_72 ?_
            refine lv_iload_n hx hb dX7_set_75 rfl (lv_at hl 1 rfl) ?_
            rw [show a1 = nI (ja) from eja]
            refine fa_iald (k := 398) (j := ja) CX HX2729 (by omega) rfl (by omega) (by first | decide | assumption) dX7_set_76 ?_
            refine lv_istore_n (lv' := [(3, .int (v2728 398 ja)), (0, .ref (fa_B G + (397))), (1, .int (a1)), (2, .int (a2))]) hx hb dX7_set_77 rfl hl (by decide) rfl (fun ls hl => ?_)
            refine lv_aload_n hx hb dX7_set_78 rfl (lv_at hl 1 rfl) ?_
            refine fa_getr (k := 397) (j := 398) CX HX2729 fl_X7_7 (by omega) rfl rfl hM.1 dX7_set_79 ?_
            refine lv_iload_n hx hb dX7_set_82 rfl (lv_at hl 2 rfl) ?_
            rw [show a1 = nI (ja) from eja]
            refine lv_iload_n hx hb dX7_set_83 rfl (lv_at hl 3 rfl) ?_
            refine fa_iast (k := 398) (j := ja) CX HX2729 (by omega) rfl (by omega) (by first | decide | assumption) dX7_set_84 (fun H locs v2730 e2731 HX2732 => ?_)
            refine lv_aload_n hx hb dX7_set_85 rfl (lv_at hl 1 rfl) ?_
            refine lv_iload_n hx hb dX7_set_86 rfl (lv_at hl 0 rfl) ?_
            refine fa_callViu (As := [.int (v2728 398 ja)]) (rest := []) CX HX2732 (r_recorded l G n hn v2730 r hM (show fa_MJ v2730 from ⟨(show fa_MS (v2730 398) from by rw [e2731]; exact fa_MS.u (show fa_MS (v2728 398) from by rw [h2727.2 398 (by omega)]; exact hJ.1) (fa_ok.o (by omega) (by omega) (by omega) (fun p hp => by omega))), (show fa_MS (v2730 399) from by rw [e2731, fa_u_k _ _ (by decide)]; exact (fa_MS.cp hJ.1 h2727.1)), (show fa_MS (v2730 400) from by rw [e2731, fa_u_k _ _ (by decide)]; exact (show fa_MS (v2728 400) from by rw [h2727.2 400 (by omega)]; exact hJ.2.2.1)), (show fa_MB (v2730 401) from by rw [e2731, fa_u_k _ _ (by decide)]; exact (show fa_MB (v2728 401) from by rw [h2727.2 401 (by omega)]; exact hJ.2.2.2.1)), ⟨n10, by omega, (by rw [e2731, fa_u_n _ _ (by omega)]; exact (by rw [h2727.2 _ (by omega)]; exact g10))⟩, ⟨n9, by omega, (by rw [e2731, fa_u_n _ _ (by omega)]; exact (by rw [h2727.2 _ (by omega)]; exact g9))⟩⟩) (v2728 398 ja)) ln_X7_109 (by omega) rfl rfl rfl rfl (Nat.le_of_ble_eq_true rfl) hl.1 ⟨Nat.le_of_ble_eq_true rfl, Nat.le_of_ble_eq_true rfl⟩ ⟨Nat.le_refl _, Nat.le_refl _⟩ dX7_set_87 (fun x2734 v2735 H locs h2733 HX2736 => ?_)
            have hJ_v2735 := h2733.1.1
            obtain ⟨n10_v2735, hn10_v2735, g10_v2735⟩ := hJ_v2735.2.2.2.2.1
            exact RET _ _ _ _ _ _ _ HX2736 dX7_set_90 (⟨rfl, ⟨⟨hJ_v2735, (show v2735 397 9 = v 397 9 from ((show v2735 397 9 = nI (n9) from ((h2733.1.2).trans (by rw [e2731, fa_u_n _ _ (by omega)]; exact (by rw [h2727.2 _ (by omega)]; exact g9)))).trans g9.symm))⟩, (fa_fr.tr (by rw [e2731]; exact fa_fr.u (fa_fr.tr fa_fr.rf (fa_fr.wide h2727.2 (by omega) (by omega))) (by omega)) (fa_fr.wide h2733.2 (by omega) (by omega)))⟩⟩)
          · refine lv_bipush (v := (-2 : Int32)) hx hb dX7_set_64 (by decide) ?_
            exact RET _ _ _ _ _ _ _ HX2726 dX7_set_66 (⟨rfl, ⟨⟨hJ, (show v 397 9 = v 397 9 from rfl)⟩, fa_fr.rf⟩⟩)
    · refine lv_bipush (v := nI (30)) hx hb dX7_set_18 (by decide) ?_
      refine lv_goto (tgt := 34) hx hb dX7_set_20 (by decide) ?_
      refine lv_iload_n hx hb dX7_set_34 rfl (lv_at hl 1 rfl) ?_
      rw [show a1 = nI (ja) from eja]
      refine lv_iconst (v := nI (5)) hx hb dX7_set_35 (by decide) ?_
      refine lv_icmp_ge (tgt := 45) hx hb dX7_set_36 (by decide) (fun c_36 => ?_) (fun c_36 => ?_)
      · refine lv_iload_n hx hb dX7_set_45 rfl (lv_at hl 1 rfl) ?_
        rw [show a1 = nI (ja) from eja]
        refine lv_iconst (v := nI (5)) hx hb dX7_set_46 (by decide) ?_
        refine lv_icmp_ne (tgt := 55) hx hb dX7_set_47 (by decide) (fun c_47 => ?_) (fun c_47 => ?_)
        · refine lv_sipush (v := nI (600)) hx hb dX7_set_55 (by decide) ?_
          refine fa_callSip (As := [.int (a2), .int (nI (30)), .int (nI (600))]) (rest := []) CX HX2658 (r_in l G n v r (a2) (nI (30)) (nI (600))) ln_X7_86 rfl rfl (Nat.le_of_ble_eq_true rfl) hl.1 ⟨Nat.le_of_ble_eq_true rfl, Nat.le_of_ble_eq_true rfl⟩ ⟨Nat.le_refl _, Nat.le_refl _⟩ dX7_set_58 (fun x2738 H locs h2737 HX2739 => ?_)
          have h_in_58 := h2737
          refine lv_if_ne (tgt := 67) hx hb dX7_set_61 (by decide) (fun c_61 => ?_) (fun c_61 => ?_)
          · refine lv_aload_n hx hb dX7_set_67 rfl (lv_at hl 0 rfl) ?_
            refine fa_callVvu (As := []) (rest := []) CX HX2739 (r_hold l G n hn v r hM) ln_X7_102 (by omega) rfl rfl rfl rfl (Nat.le_of_ble_eq_true rfl) hl.1 ⟨Nat.le_of_ble_eq_true rfl, Nat.le_of_ble_eq_true rfl⟩ ⟨Nat.le_refl _, Nat.le_refl _⟩ dX7_set_68 (fun v2741 H locs h2740 HX2742 => ?_)
            have h_hold := h2740.1
            refine lv_aload_n hx hb dX7_set_71 rfl (lv_at hl 0 rfl) ?_
            refine fa_getr (k := 397) (j := 398) CX HX2742 fl_X7_7 (by omega) rfl rfl hM.1 dX7_set_72 ?_
            refine lv_iload_n hx hb dX7_set_75 rfl (lv_at hl 1 rfl) ?_
            rw [show a1 = nI (ja) from eja]
            refine fa_iald (k := 398) (j := ja) CX HX2742 (by omega) rfl (by omega) (by first | decide | assumption) dX7_set_76 ?_
            refine lv_istore_n (lv' := [(3, .int (v2741 398 ja)), (0, .ref (fa_B G + (397))), (1, .int (a1)), (2, .int (a2))]) hx hb dX7_set_77 rfl hl (by decide) rfl (fun ls hl => ?_)
            refine lv_aload_n hx hb dX7_set_78 rfl (lv_at hl 1 rfl) ?_
            refine fa_getr (k := 397) (j := 398) CX HX2742 fl_X7_7 (by omega) rfl rfl hM.1 dX7_set_79 ?_
            refine lv_iload_n hx hb dX7_set_82 rfl (lv_at hl 2 rfl) ?_
            rw [show a1 = nI (ja) from eja]
            refine lv_iload_n hx hb dX7_set_83 rfl (lv_at hl 3 rfl) ?_
            refine fa_iast (k := 398) (j := ja) CX HX2742 (by omega) rfl (by omega) (by first | decide | assumption) dX7_set_84 (fun H locs v2743 e2744 HX2745 => ?_)
            refine lv_aload_n hx hb dX7_set_85 rfl (lv_at hl 1 rfl) ?_
            refine lv_iload_n hx hb dX7_set_86 rfl (lv_at hl 0 rfl) ?_
            refine fa_callViu (As := [.int (v2741 398 ja)]) (rest := []) CX HX2745 (r_recorded l G n hn v2743 r hM (show fa_MJ v2743 from ⟨(show fa_MS (v2743 398) from by rw [e2744]; exact fa_MS.u (show fa_MS (v2741 398) from by rw [h2740.2 398 (by omega)]; exact hJ.1) (fa_ok.o (by omega) (by omega) (by omega) (fun p hp => by omega))), (show fa_MS (v2743 399) from by rw [e2744, fa_u_k _ _ (by decide)]; exact (fa_MS.cp hJ.1 h2740.1)), (show fa_MS (v2743 400) from by rw [e2744, fa_u_k _ _ (by decide)]; exact (show fa_MS (v2741 400) from by rw [h2740.2 400 (by omega)]; exact hJ.2.2.1)), (show fa_MB (v2743 401) from by rw [e2744, fa_u_k _ _ (by decide)]; exact (show fa_MB (v2741 401) from by rw [h2740.2 401 (by omega)]; exact hJ.2.2.2.1)), ⟨n10, by omega, (by rw [e2744, fa_u_n _ _ (by omega)]; exact (by rw [h2740.2 _ (by omega)]; exact g10))⟩, ⟨n9, by omega, (by rw [e2744, fa_u_n _ _ (by omega)]; exact (by rw [h2740.2 _ (by omega)]; exact g9))⟩⟩) (v2741 398 ja)) ln_X7_109 (by omega) rfl rfl rfl rfl (Nat.le_of_ble_eq_true rfl) hl.1 ⟨Nat.le_of_ble_eq_true rfl, Nat.le_of_ble_eq_true rfl⟩ ⟨Nat.le_refl _, Nat.le_refl _⟩ dX7_set_87 (fun x2747 v2748 H locs h2746 HX2749 => ?_)
            have hJ_v2748 := h2746.1.1
            obtain ⟨n10_v2748, hn10_v2748, g10_v2748⟩ := hJ_v2748.2.2.2.2.1
            exact RET _ _ _ _ _ _ _ HX2749 dX7_set_90 (⟨rfl, ⟨⟨hJ_v2748, (show v2748 397 9 = v 397 9 from ((show v2748 397 9 = nI (n9) from ((h2746.1.2).trans (by rw [e2744, fa_u_n _ _ (by omega)]; exact (by rw [h2740.2 _ (by omega)]; exact g9)))).trans g9.symm))⟩, (fa_fr.tr (by rw [e2744]; exact fa_fr.u (fa_fr.tr fa_fr.rf (fa_fr.wide h2740.2 (by omega) (by omega))) (by omega)) (fa_fr.wide h2746.2 (by omega) (by omega)))⟩⟩)
          · refine lv_bipush (v := (-2 : Int32)) hx hb dX7_set_64 (by decide) ?_
            exact RET _ _ _ _ _ _ _ HX2739 dX7_set_66 (⟨rfl, ⟨⟨hJ, (show v 397 9 = v 397 9 from rfl)⟩, fa_fr.rf⟩⟩)
        · refine lv_bipush (v := nI (20)) hx hb dX7_set_50 (by decide) ?_
          refine lv_goto (tgt := 58) hx hb dX7_set_52 (by decide) ?_
          refine fa_callSip (As := [.int (a2), .int (nI (30)), .int (nI (20))]) (rest := []) CX HX2658 (r_in l G n v r (a2) (nI (30)) (nI (20))) ln_X7_86 rfl rfl (Nat.le_of_ble_eq_true rfl) hl.1 ⟨Nat.le_of_ble_eq_true rfl, Nat.le_of_ble_eq_true rfl⟩ ⟨Nat.le_refl _, Nat.le_refl _⟩ dX7_set_58 (fun x2751 H locs h2750 HX2752 => ?_)
          have h_in_58 := h2750
          refine lv_if_ne (tgt := 67) hx hb dX7_set_61 (by decide) (fun c_61 => ?_) (fun c_61 => ?_)
          · refine lv_aload_n hx hb dX7_set_67 rfl (lv_at hl 0 rfl) ?_
            refine fa_callVvu (As := []) (rest := []) CX HX2752 (r_hold l G n hn v r hM) ln_X7_102 (by omega) rfl rfl rfl rfl (Nat.le_of_ble_eq_true rfl) hl.1 ⟨Nat.le_of_ble_eq_true rfl, Nat.le_of_ble_eq_true rfl⟩ ⟨Nat.le_refl _, Nat.le_refl _⟩ dX7_set_68 (fun v2754 H locs h2753 HX2755 => ?_)
            have h_hold := h2753.1
            refine lv_aload_n hx hb dX7_set_71 rfl (lv_at hl 0 rfl) ?_
            refine fa_getr (k := 397) (j := 398) CX HX2755 fl_X7_7 (by omega) rfl rfl hM.1 dX7_set_72 ?_
            refine lv_iload_n hx hb dX7_set_75 rfl (lv_at hl 1 rfl) ?_
            rw [show a1 = nI (ja) from eja]
            refine fa_iald (k := 398) (j := ja) CX HX2755 (by omega) rfl (by omega) (by first | decide | assumption) dX7_set_76 ?_
            refine lv_istore_n (lv' := [(3, .int (v2754 398 ja)), (0, .ref (fa_B G + (397))), (1, .int (a1)), (2, .int (a2))]) hx hb dX7_set_77 rfl hl (by decide) rfl (fun ls hl => ?_)
            refine lv_aload_n hx hb dX7_set_78 rfl (lv_at hl 1 rfl) ?_
            refine fa_getr (k := 397) (j := 398) CX HX2755 fl_X7_7 (by omega) rfl rfl hM.1 dX7_set_79 ?_
            refine lv_iload_n hx hb dX7_set_82 rfl (lv_at hl 2 rfl) ?_
            rw [show a1 = nI (ja) from eja]
            refine lv_iload_n hx hb dX7_set_83 rfl (lv_at hl 3 rfl) ?_
            refine fa_iast (k := 398) (j := ja) CX HX2755 (by omega) rfl (by omega) (by first | decide | assumption) dX7_set_84 (fun H locs v2756 e2757 HX2758 => ?_)
            refine lv_aload_n hx hb dX7_set_85 rfl (lv_at hl 1 rfl) ?_
            refine lv_iload_n hx hb dX7_set_86 rfl (lv_at hl 0 rfl) ?_
            refine fa_callViu (As := [.int (v2754 398 ja)]) (rest := []) CX HX2758 (r_recorded l G n hn v2756 r hM (show fa_MJ v2756 from ⟨(show fa_MS (v2756 398) from by rw [e2757]; exact fa_MS.u (show fa_MS (v2754 398) from by rw [h2753.2 398 (by omega)]; exact hJ.1) (fa_ok.o (by omega) (by omega) (by omega) (fun p hp => by omega))), (show fa_MS (v2756 399) from by rw [e2757, fa_u_k _ _ (by decide)]; exact (fa_MS.cp hJ.1 h2753.1)), (show fa_MS (v2756 400) from by rw [e2757, fa_u_k _ _ (by decide)]; exact (show fa_MS (v2754 400) from by rw [h2753.2 400 (by omega)]; exact hJ.2.2.1)), (show fa_MB (v2756 401) from by rw [e2757, fa_u_k _ _ (by decide)]; exact (show fa_MB (v2754 401) from by rw [h2753.2 401 (by omega)]; exact hJ.2.2.2.1)), ⟨n10, by omega, (by rw [e2757, fa_u_n _ _ (by omega)]; exact (by rw [h2753.2 _ (by omega)]; exact g10))⟩, ⟨n9, by omega, (by rw [e2757, fa_u_n _ _ (by omega)]; exact (by rw [h2753.2 _ (by omega)]; exact g9))⟩⟩) (v2754 398 ja)) ln_X7_109 (by omega) rfl rfl rfl rfl (Nat.le_of_ble_eq_true rfl) hl.1 ⟨Nat.le_of_ble_eq_true rfl, Nat.le_of_ble_eq_true rfl⟩ ⟨Nat.le_refl _, Nat.le_refl _⟩ dX7_set_87 (fun x2760 v2761 H locs h2759 HX2762 => ?_)
            have hJ_v2761 := h2759.1.1
            obtain ⟨n10_v2761, hn10_v2761, g10_v2761⟩ := hJ_v2761.2.2.2.2.1
            exact RET _ _ _ _ _ _ _ HX2762 dX7_set_90 (⟨rfl, ⟨⟨hJ_v2761, (show v2761 397 9 = v 397 9 from ((show v2761 397 9 = nI (n9) from ((h2759.1.2).trans (by rw [e2757, fa_u_n _ _ (by omega)]; exact (by rw [h2753.2 _ (by omega)]; exact g9)))).trans g9.symm))⟩, (fa_fr.tr (by rw [e2757]; exact fa_fr.u (fa_fr.tr fa_fr.rf (fa_fr.wide h2753.2 (by omega) (by omega))) (by omega)) (fa_fr.wide h2759.2 (by omega) (by omega)))⟩⟩)
          · refine lv_bipush (v := (-2 : Int32)) hx hb dX7_set_64 (by decide) ?_
            exact RET _ _ _ _ _ _ _ HX2752 dX7_set_66 (⟨rfl, ⟨⟨hJ, (show v 397 9 = v 397 9 from rfl)⟩, fa_fr.rf⟩⟩)
      · refine lv_sipush (v := nI (2000)) hx hb dX7_set_39 (by decide) ?_
        refine lv_goto (tgt := 58) hx hb dX7_set_42 (by decide) ?_
        refine fa_callSip (As := [.int (a2), .int (nI (30)), .int (nI (2000))]) (rest := []) CX HX2658 (r_in l G n v r (a2) (nI (30)) (nI (2000))) ln_X7_86 rfl rfl (Nat.le_of_ble_eq_true rfl) hl.1 ⟨Nat.le_of_ble_eq_true rfl, Nat.le_of_ble_eq_true rfl⟩ ⟨Nat.le_refl _, Nat.le_refl _⟩ dX7_set_58 (fun x2764 H locs h2763 HX2765 => ?_)
        have h_in_58 := h2763
        refine lv_if_ne (tgt := 67) hx hb dX7_set_61 (by decide) (fun c_61 => ?_) (fun c_61 => ?_)
        · refine lv_aload_n hx hb dX7_set_67 rfl (lv_at hl 0 rfl) ?_
          refine fa_callVvu (As := []) (rest := []) CX HX2765 (r_hold l G n hn v r hM) ln_X7_102 (by omega) rfl rfl rfl rfl (Nat.le_of_ble_eq_true rfl) hl.1 ⟨Nat.le_of_ble_eq_true rfl, Nat.le_of_ble_eq_true rfl⟩ ⟨Nat.le_refl _, Nat.le_refl _⟩ dX7_set_68 (fun v2767 H locs h2766 HX2768 => ?_)
          have h_hold := h2766.1
          refine lv_aload_n hx hb dX7_set_71 rfl (lv_at hl 0 rfl) ?_
          refine fa_getr (k := 397) (j := 398) CX HX2768 fl_X7_7 (by omega) rfl rfl hM.1 dX7_set_72 ?_
          refine lv_iload_n hx hb dX7_set_75 rfl (lv_at hl 1 rfl) ?_
          rw [show a1 = nI (ja) from eja]
          refine fa_iald (k := 398) (j := ja) CX HX2768 (by omega) rfl (by omega) (by first | decide | assumption) dX7_set_76 ?_
          refine lv_istore_n (lv' := [(3, .int (v2767 398 ja)), (0, .ref (fa_B G + (397))), (1, .int (a1)), (2, .int (a2))]) hx hb dX7_set_77 rfl hl (by decide) rfl (fun ls hl => ?_)
          refine lv_aload_n hx hb dX7_set_78 rfl (lv_at hl 1 rfl) ?_
          refine fa_getr (k := 397) (j := 398) CX HX2768 fl_X7_7 (by omega) rfl rfl hM.1 dX7_set_79 ?_
          refine lv_iload_n hx hb dX7_set_82 rfl (lv_at hl 2 rfl) ?_
          rw [show a1 = nI (ja) from eja]
          refine lv_iload_n hx hb dX7_set_83 rfl (lv_at hl 3 rfl) ?_
          refine fa_iast (k := 398) (j := ja) CX HX2768 (by omega) rfl (by omega) (by first | decide | assumption) dX7_set_84 (fun H locs v2769 e2770 HX2771 => ?_)
          refine lv_aload_n hx hb dX7_set_85 rfl (lv_at hl 1 rfl) ?_
          refine lv_iload_n hx hb dX7_set_86 rfl (lv_at hl 0 rfl) ?_
          refine fa_callViu (As := [.int (v2767 398 ja)]) (rest := []) CX HX2771 (r_recorded l G n hn v2769 r hM (show fa_MJ v2769 from ⟨(show fa_MS (v2769 398) from by rw [e2770]; exact fa_MS.u (show fa_MS (v2767 398) from by rw [h2766.2 398 (by omega)]; exact hJ.1) (fa_ok.o (by omega) (by omega) (by omega) (fun p hp => by omega))), (show fa_MS (v2769 399) from by rw [e2770, fa_u_k _ _ (by decide)]; exact (fa_MS.cp hJ.1 h2766.1)), (show fa_MS (v2769 400) from by rw [e2770, fa_u_k _ _ (by decide)]; exact (show fa_MS (v2767 400) from by rw [h2766.2 400 (by omega)]; exact hJ.2.2.1)), (show fa_MB (v2769 401) from by rw [e2770, fa_u_k _ _ (by decide)]; exact (show fa_MB (v2767 401) from by rw [h2766.2 401 (by omega)]; exact hJ.2.2.2.1)), ⟨n10, by omega, (by rw [e2770, fa_u_n _ _ (by omega)]; exact (by rw [h2766.2 _ (by omega)]; exact g10))⟩, ⟨n9, by omega, (by rw [e2770, fa_u_n _ _ (by omega)]; exact (by rw [h2766.2 _ (by omega)]; exact g9))⟩⟩) (v2767 398 ja)) ln_X7_109 (by omega) rfl rfl rfl rfl (Nat.le_of_ble_eq_true rfl) hl.1 ⟨Nat.le_of_ble_eq_true rfl, Nat.le_of_ble_eq_true rfl⟩ ⟨Nat.le_refl _, Nat.le_refl _⟩ dX7_set_87 (fun x2773 v2774 H locs h2772 HX2775 => ?_)
          have hJ_v2774 := h2772.1.1
          obtain ⟨n10_v2774, hn10_v2774, g10_v2774⟩ := hJ_v2774.2.2.2.2.1
          exact RET _ _ _ _ _ _ _ HX2775 dX7_set_90 (⟨rfl, ⟨⟨hJ_v2774, (show v2774 397 9 = v 397 9 from ((show v2774 397 9 = nI (n9) from ((h2772.1.2).trans (by rw [e2770, fa_u_n _ _ (by omega)]; exact (by rw [h2766.2 _ (by omega)]; exact g9)))).trans g9.symm))⟩, (fa_fr.tr (by rw [e2770]; exact fa_fr.u (fa_fr.tr fa_fr.rf (fa_fr.wide h2766.2 (by omega) (by omega))) (by omega)) (fa_fr.wide h2772.2 (by omega) (by omega)))⟩⟩)
        · refine lv_bipush (v := (-2 : Int32)) hx hb dX7_set_64 (by decide) ?_
          exact RET _ _ _ _ _ _ _ HX2765 dX7_set_66 (⟨rfl, ⟨⟨hJ, (show v 397 9 = v 397 9 from rfl)⟩, fa_fr.rf⟩⟩)
  · refine lv_iconst (v := (-1 : Int32)) hx hb dX7_set_10 (by decide) ?_
    exact RET _ _ _ _ _ _ _ HX2658 dX7_set_11 (⟨rfl, ⟨⟨hJ, (show v 397 9 = v 397 9 from rfl)⟩, fa_fr.rf⟩⟩)
set_option maxHeartbeats 4000000 in
set_option maxRecDepth 100000 in
theorem r_append (l : Launch) (G : fa_G) (n : Nat) (hn : 406 ≤ n) (v : fa_V) (r : fa_R) (hM : fa_RM r) (hJ : fa_MJ v) (a1 : Int32) : fa_MI l G n yX7_append cX7_append 2 (some .int) 2 [.ref (fa_B G + (397)), .int (a1)] v r (fa_voi r (fun x v1 => ((fa_MJ v1) ∧ ((¬ (nI 32 ≤ a1 ∧ a1 ≤ nI 126) ∧ x = (-2 : Int32) ∧ v1 = v) ∨ ((nI 32 ≤ a1 ∧ a1 ≤ nI 126) ∧ ((x = (-4 : Int32) ∧ 60 ≤ fa_N (v 397 9) ∧ v1 = v) ∨ (x = nI (fa_N (v 397 9) + 1) ∧ fa_N (v 397 9) < 60 ∧ v1 = fa_put7 v (((a1).toUInt32 % 65536).toInt32)))))) ∧ (fa_fr (397) (406) v v1))) := by
  refine fa_startI (by decide +kernel) (Nat.le_of_ble_eq_true rfl) (fun p e s m args below meth c ls Q CX hl HX RET => ?_)
  have hl : lv_has ls 2 [(0, .ref (fa_B G + (397))), (1, .int (a1))] := hl
  have hx := CX.1.1
  have hb := CX.1.2.1
  have hS := hJ.1
  obtain ⟨n4, en4⟩ : ∃ m, m = fa_N (v 398 14) := ⟨_, rfl⟩
  obtain ⟨hn4, g4⟩ := hS.n4 en4
  obtain ⟨n5, en5⟩ : ∃ m, m = fa_N (v 398 15) := ⟨_, rfl⟩
  obtain ⟨hn5, g5⟩ := hS.n5 en5
  obtain ⟨n6, en6⟩ : ∃ m, m = fa_N (v 398 16) := ⟨_, rfl⟩
  obtain ⟨hn6, g6⟩ := hS.n6 en6
  obtain ⟨n10, hn10, g10⟩ := hJ.2.2.2.2.1
  obtain ⟨n9, hn9, g9⟩ := hJ.2.2.2.2.2
  have en9 : fa_N (v 397 9) = n9 := by rw [g9]; exact fa_N_nI (by omega)
  refine lv_iload_n hx hb dX7_append_0 rfl (lv_at hl 1 rfl) ?_
  refine lv_bipush (v := nI (32)) hx hb dX7_append_1 (by decide) ?_
  refine lv_bipush (v := nI (126)) hx hb dX7_append_3 (by decide) ?_
  refine fa_callSip (As := [.int (a1), .int (nI (32)), .int (nI (126))]) (rest := []) CX HX (r_in l G n v r (a1) (nI (32)) (nI (126))) ln_X7_86 rfl rfl (Nat.le_of_ble_eq_true rfl) hl.1 ⟨Nat.le_of_ble_eq_true rfl, Nat.le_of_ble_eq_true rfl⟩ ⟨Nat.le_refl _, Nat.le_refl _⟩ dX7_append_5 (fun x2777 H locs h2776 HX2778 => ?_)
  have h_in_5 := h2776
  refine lv_if_ne (tgt := 14) hx hb dX7_append_8 (by decide) (fun c_8 => ?_) (fun c_8 => ?_)
  · refine lv_aload_n hx hb dX7_append_14 rfl (lv_at hl 0 rfl) ?_
    refine fa_geti (k := 397) CX HX2778 fl_X7_131 (by omega) rfl rfl dX7_append_15 ?_
    rw [show v 397 9 = nI (n9) from g9]
    refine lv_bipush (v := nI (60)) hx hb dX7_append_18 (by decide) ?_
    refine lv_icmp_ne (tgt := 26) hx hb dX7_append_20 (by decide) (fun c_20 => ?_) (fun c_20 => ?_)
    · have hne : ¬ n9 = 60 := fun z => c_20 (by rw [z])
      refine lv_aload_n hx hb dX7_append_26 rfl (lv_at hl 0 rfl) ?_
      refine fa_getr (k := 397) (j := 405) CX HX2778 fl_X7_32 (by omega) rfl rfl hM.2.2.2.2.2.2.2 dX7_append_27 ?_
      refine lv_aload_n hx hb dX7_append_30 rfl (lv_at hl 0 rfl) ?_
      refine fa_geti (k := 397) CX HX2778 fl_X7_131 (by omega) rfl rfl dX7_append_31 ?_
      rw [show v 397 9 = nI (n9) from g9]
      refine lv_iload_n hx hb dX7_append_34 rfl (lv_at hl 1 rfl) ?_
      refine lv_i2c hx hb dX7_append_35 rfl ?_
      refine fa_cast (k := 405) (j := n9) CX HX2778 (by omega) rfl (by omega) (by first | decide | assumption) dX7_append_36 (fun H locs v2779 e2780 HX2781 => ?_)
      refine lv_aload_n hx hb dX7_append_37 rfl (lv_at hl 0 rfl) ?_
      refine lv_dup hx hb dX7_append_38 rfl ?_
      refine fa_geti (k := 397) CX HX2781 fl_X7_131 (by omega) rfl rfl dX7_append_39 ?_
      rw [show v2779 397 9 = nI (n9) from (by rw [e2780, fa_u_n _ _ (by omega)]; exact g9)]
      refine lv_iconst (v := nI (1)) hx hb dX7_append_42 (by decide) ?_
      refine fa_iaddN hx hb dX7_append_43 ?_
      refine fa_puti (k := 397) CX HX2781 fl_X7_131 (by omega) rfl rfl rfl rfl dX7_append_44 (fun H locs v2782 e2783 HX2784 => ?_)
      refine lv_aload_n hx hb dX7_append_47 rfl (lv_at hl 0 rfl) ?_
      refine fa_geti (k := 397) CX HX2784 fl_X7_131 (by omega) rfl rfl dX7_append_48 ?_
      rw [show v2782 397 9 = nI (n9 + 1) from (by rw [e2783, fa_u_s])]
      exact RET _ _ _ _ _ _ _ HX2784 dX7_append_51 (⟨rfl, ⟨⟨(show fa_MJ v2782 from ⟨(show fa_MS (v2782 398) from by rw [e2783, fa_u_k _ _ (by decide)]; exact (show fa_MS (v2779 398) from by rw [e2780, fa_u_k _ _ (by decide)]; exact hJ.1)), (show fa_MS (v2782 399) from by rw [e2783, fa_u_k _ _ (by decide)]; exact (show fa_MS (v2779 399) from by rw [e2780, fa_u_k _ _ (by decide)]; exact hJ.2.1)), (show fa_MS (v2782 400) from by rw [e2783, fa_u_k _ _ (by decide)]; exact (show fa_MS (v2779 400) from by rw [e2780, fa_u_k _ _ (by decide)]; exact hJ.2.2.1)), (show fa_MB (v2782 401) from by rw [e2783, fa_u_k _ _ (by decide)]; exact (show fa_MB (v2779 401) from by rw [e2780, fa_u_k _ _ (by decide)]; exact hJ.2.2.2.1)), ⟨n10, by omega, (by rw [e2783, fa_u_n _ _ (by omega)]; exact (by rw [e2780, fa_u_n _ _ (by omega)]; exact g10))⟩, ⟨n9 + 1, by omega, (by rw [e2783, fa_u_s])⟩⟩), (Or.inr ⟨fa_inr1 h_in_5 c_8, Or.inr ⟨(by rw [en9]), (by omega), (by show v2782 = _; rw [e2783, e2780]; exact (fa_put7_eq g9 (by omega)).symm)⟩⟩)⟩, (by rw [e2783]; exact fa_fr.u (by rw [e2780]; exact fa_fr.u fa_fr.rf (by omega)) (by omega))⟩⟩)
    · have he : n9 = 60 := fa_nIinj (by omega) (by omega) c_20
      refine lv_bipush (v := (-4 : Int32)) hx hb dX7_append_23 (by decide) ?_
      exact RET _ _ _ _ _ _ _ HX2778 dX7_append_25 (⟨rfl, ⟨⟨hJ, (Or.inr ⟨fa_inr1 h_in_5 c_8, Or.inl ⟨rfl, (by omega), rfl⟩⟩)⟩, fa_fr.rf⟩⟩)
  · refine lv_bipush (v := (-2 : Int32)) hx hb dX7_append_11 (by decide) ?_
    exact RET _ _ _ _ _ _ _ HX2778 dX7_append_13 (⟨rfl, ⟨⟨hJ, (Or.inl ⟨fa_inr0 h_in_5 c_8, rfl, rfl⟩)⟩, fa_fr.rf⟩⟩)
set_option maxHeartbeats 4000000 in
set_option maxRecDepth 100000 in
theorem r_clearText (l : Launch) (G : fa_G) (n : Nat) (hn : 406 ≤ n) (v : fa_V) (r : fa_R) (hM : fa_RM r) (hJ : fa_MJ v) : fa_MI l G n yX7_clearText cX7_clearText 2 (some .int) 1 [.ref (fa_B G + (397))] v r (fa_voi r (fun x v1 => ((fa_MJ v1) ∧ (x = v 397 9 ∧ v1 = fa_u v 397 9 (nI 0))) ∧ (fa_fr (397) (406) v v1))) := by
  refine fa_startI (by decide +kernel) (Nat.le_of_ble_eq_true rfl) (fun p e s m args below meth c ls Q CX hl HX RET => ?_)
  have hl : lv_has ls 2 [(0, .ref (fa_B G + (397)))] := hl
  have hx := CX.1.1
  have hb := CX.1.2.1
  have hS := hJ.1
  obtain ⟨n4, en4⟩ : ∃ m, m = fa_N (v 398 14) := ⟨_, rfl⟩
  obtain ⟨hn4, g4⟩ := hS.n4 en4
  obtain ⟨n5, en5⟩ : ∃ m, m = fa_N (v 398 15) := ⟨_, rfl⟩
  obtain ⟨hn5, g5⟩ := hS.n5 en5
  obtain ⟨n6, en6⟩ : ∃ m, m = fa_N (v 398 16) := ⟨_, rfl⟩
  obtain ⟨hn6, g6⟩ := hS.n6 en6
  obtain ⟨n10, hn10, g10⟩ := hJ.2.2.2.2.1
  obtain ⟨n9, hn9, g9⟩ := hJ.2.2.2.2.2
  refine lv_aload_n hx hb dX7_clearText_0 rfl (lv_at hl 0 rfl) ?_
  refine fa_geti (k := 397) CX HX fl_X7_131 (by omega) rfl rfl dX7_clearText_1 ?_
  rw [show v 397 9 = nI (n9) from g9]
  refine lv_istore_n (lv' := [(1, .int (nI (n9))), (0, .ref (fa_B G + (397)))]) hx hb dX7_clearText_4 rfl hl (by decide) rfl (fun ls hl => ?_)
  refine lv_aload_n hx hb dX7_clearText_5 rfl (lv_at hl 1 rfl) ?_
  refine lv_iconst (v := nI (0)) hx hb dX7_clearText_6 (by decide) ?_
  refine fa_puti (k := 397) CX HX fl_X7_131 (by omega) rfl rfl rfl rfl dX7_clearText_7 (fun H locs v2785 e2786 HX2787 => ?_)
  refine lv_iload_n hx hb dX7_clearText_10 rfl (lv_at hl 0 rfl) ?_
  exact RET _ _ _ _ _ _ _ HX2787 dX7_clearText_11 (⟨rfl, ⟨⟨(show fa_MJ v2785 from ⟨(show fa_MS (v2785 398) from by rw [e2786, fa_u_k _ _ (by decide)]; exact hJ.1), (show fa_MS (v2785 399) from by rw [e2786, fa_u_k _ _ (by decide)]; exact hJ.2.1), (show fa_MS (v2785 400) from by rw [e2786, fa_u_k _ _ (by decide)]; exact hJ.2.2.1), (show fa_MB (v2785 401) from by rw [e2786, fa_u_k _ _ (by decide)]; exact hJ.2.2.2.1), ⟨n10, by omega, (by rw [e2786, fa_u_n _ _ (by omega)]; exact g10)⟩, ⟨0, by omega, (by rw [e2786, fa_u_s])⟩⟩), ⟨g9.symm, (by show v2785 = _; rw [e2786])⟩⟩, (by rw [e2786]; exact fa_fr.u fa_fr.rf (by omega))⟩⟩)
