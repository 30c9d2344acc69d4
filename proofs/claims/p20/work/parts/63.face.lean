set_option maxHeartbeats 4000000 in
set_option maxRecDepth 100000 in
theorem g_burntIn (l : Launch) (G : fa_G) (n : Nat) (hn : 397 ≤ n) (v : fa_V) (r : fa_R) (hC : fa_CI v r) (a1 : Int32) : fa_MI l G n yX6_burntIn cX6_burntIn 3 (some .int) 6 [.ref (fa_B G + (0)), .int (a1)] v r (fun x w => (∀ k, ¬ k = 58 → w.2 k = r k) ∧ (fa_CI w.1 w.2) ∧ (fa_fr 57 113 v w.1) ∧ (∀ k, 395 ≤ k → w.2 k = r k)) := by
  refine fa_startI (by decide +kernel) (Nat.le_of_ble_eq_true rfl) (fun p e s m args below meth c ls Q CX hl HX RET => ?_)
  have hl : lv_has ls 3 [(0, .ref (fa_B G + (0))), (1, .int (a1))] := hl
  have hx := CX.1.1
  have hb := CX.1.2.1
  have hB : (1 : Nat) ∈ fa_bs := by decide
  refine lv_aload_n hx hb dX6_burntIn_0 rfl (lv_at hl 0 rfl) ?_
  refine fa_getr (k := 0) (j := 1) CX HX fl_X6_10 (by omega) rfl rfl (fa_CI.A hC).1 dX6_burntIn_1 ?_
  refine lv_iload_n hx hb dX6_burntIn_4 rfl (lv_at hl 1 rfl) ?_
  refine fa_callVrp (As := [.int (a1)]) (rest := []) CX HX (g_find l G n hn v r 1 (by decide) (fa_CI.S hC 1 (by decide)).1 (fa_CI.S hC 1 (by decide)).2 (a1) ) ln_X6_175 (fa_lt (by decide) 0 (by decide) hn) (fa_s0 (by decide)) rfl rfl rfl (Nat.le_of_ble_eq_true rfl) hl.1 ⟨Nat.le_of_ble_eq_true rfl, Nat.le_of_ble_eq_true rfl⟩ ⟨Nat.le_refl _, Nat.le_refl _⟩ dX6_burntIn_5 (fun H locs h1670 HX1671 => ?_) (fun q1672 H locs h1670 HX1671 => ?_)
  · have hf_none := h1670.2 rfl
    refine lv_ifnonnullN hx hb dX6_burntIn_8 ?_
    refine lv_iconst (v := (-1 : Int32)) hx hb dX6_burntIn_11 (by decide) ?_
    exact RET _ _ _ _ _ _ _ HX1671 dX6_burntIn_12 (⟨(fun k hk => rfl), hC, fa_fr.rf, (fun k hk => rfl)⟩)
  · have hf_q1672 := h1670.1 q1672 rfl
    have hq1672 := hf_q1672.1
    have hiq1672 := fa_isF_in hq1672
    refine lv_ifnonnull (tgt := 13) hx hb dX6_burntIn_8 (by decide) ?_
    refine lv_aload_n hx hb dX6_burntIn_13 rfl (lv_at hl 0 rfl) ?_
    refine fa_getr (k := 0) (j := 57) CX HX1671 fl_X6_16 (by omega) rfl rfl (fa_CI.A hC).2.1 dX6_burntIn_14 ?_
    refine lv_aload_n hx hb dX6_burntIn_17 rfl (lv_at hl 0 rfl) ?_
    refine fa_getr (k := 0) (j := 1) CX HX1671 fl_X6_10 (by omega) rfl rfl (fa_CI.A hC).1 dX6_burntIn_18 ?_
    refine fa_callVvu (As := [.ref (fa_B G + (1))]) (rest := []) CX HX1671 (g_copyFrom l G n hn v r 57 (by decide) (fa_CI.S hC 57 (by decide)).1 1 (by decide) (fa_CI.S hC 1 (by decide)).1 (by omega) (fa_CI.S hC 57 (by decide)).2 (fa_CI.S hC 1 (by decide)).2) ln_X6_119 (fa_lt (by decide) 0 (by decide) hn) (fa_s0 (by decide)) rfl rfl rfl (Nat.le_of_ble_eq_true rfl) hl.1 ⟨Nat.le_of_ble_eq_true rfl, Nat.le_of_ble_eq_true rfl⟩ ⟨Nat.le_refl _, Nat.le_refl _⟩ dX6_burntIn_21 (fun v1674 H locs h1673 HX1675 => ?_)
    have h_copyFrom := h1673.1.2
    have hIS_v1674 : fa_IS v1674 57 := h1673.1.1
    have hC_v1674 : fa_CI v1674 r := fa_CI.st hC (by decide) hIS_v1674 (fa_CI.S hC 57 (by decide)).1 (fa_fr.wide h1673.2 (by omega) (by omega)) (fun _ _ => rfl)
    refine lv_iconst (v := nI (1)) hx hb dX6_burntIn_24 (by decide) ?_
    refine lv_istore_n (lv' := [(2, .int (nI (1))), (0, .ref (fa_B G + (0))), (1, .int (a1))]) hx hb dX6_burntIn_25 rfl hl (by decide) rfl (fun ls hl => ?_)
    have LOOP_26 : ∀ (fu : Nat) (j : Nat) (v1676 : fa_V) (r1677 : fa_R) (H : Heap) (locs : List Loc) (ls : Array Slot), 3001 - j < fu → (j ≤ 3001 ∧ fa_CI v1676 r1677 ∧ fa_fr 57 113 v v1676 ∧ ∀ k, ¬ k = 58 → r1677 k = r k) → lv_has ls 3 [(0, .ref (fa_B G + (0))), (1, .int (a1)), (2, .int (nI (j)))] → fa_HX G (n) v1676 r1677 s H locs → W p l e (fa_rm 6) s m args below meth c H locs (0) (0) Q (F0 m 26 ls []) := by
      intro fu
      induction fu with
      | zero => intro j v1676 r1677 H locs ls hk; exact absurd hk (Nat.not_lt_zero _)
      | succ fu ih_26 =>
        intro j v1676 r1677 H locs ls hk_26 hi_26 hl HX1678
        refine lv_iload_n hx hb dX6_burntIn_26 rfl (lv_at hl 2 rfl) ?_
        refine lv_sipush (v := nI (3000)) hx hb dX6_burntIn_27 (by decide) ?_
        refine lv_icmp_gt (tgt := 62) hx hb dX6_burntIn_30 (by decide) (fun c_30 => ?_) (fun c_30 => ?_)
        · refine lv_bipush (v := (-6 : Int32)) hx hb dX6_burntIn_62 (by decide) ?_
          exact RET _ _ _ _ _ _ _ HX1678 dX6_burntIn_64 (⟨(fun k hk => ((hi_26.2.2.2 k hk).trans rfl)), hi_26.2.1, (fa_fr.tr fa_fr.rf (fa_fr.wide hi_26.2.2.1 (by omega) (by omega))), (fun k hk => ((hi_26.2.2.2 k (by omega)).trans rfl))⟩)
        · have hj : j ≤ 3000 := fa_nltN (by omega) (by omega) c_30
          refine lv_aload_n hx hb dX6_burntIn_33 rfl (lv_at hl 0 rfl) ?_
          refine fa_getr (k := 0) (j := 57) CX HX1678 fl_X6_16 (by omega) rfl rfl (fa_CI.A hi_26.2.1).2.1 dX6_burntIn_34 ?_
          refine fa_callVi (As := []) (rest := []) CX HX1678 (g_passDay l G n hn v1676 r1677 57 (by decide) (fa_CI.S hi_26.2.1 57 (by decide)).1 (fa_CI.S hi_26.2.1 57 (by decide)).2  ) ln_X6_246 (fa_lt (by decide) 0 (by decide) hn) (fa_s0 (by decide)) rfl rfl rfl (Nat.le_of_ble_eq_true rfl) hl.1 ⟨Nat.le_of_ble_eq_true rfl, Nat.le_of_ble_eq_true rfl⟩ ⟨Nat.le_refl _, Nat.le_refl _⟩ dX6_burntIn_37 (fun x1680 v1681 r1682 H locs h1679 HX1683 => ?_)
          dsimp only at h1679
          have hIS_v1681 := h1679.2.1
          have hr57_r1682 := h1679.2.2.1
          have hrr_r1682 := h1679.2.2.2.2
          have h_passDay := h1679.1
          have hC_v1681 : fa_CI v1681 r1682 := fa_CI.st hi_26.2.1 (by decide) hIS_v1681 hr57_r1682 (fa_fr.wide h1679.2.2.2.1 (by omega) (by omega)) h1679.2.2.2.2
          refine lv_if_le (tgt := 56) hx hb dX6_burntIn_40 (by decide) (fun c_40 => ?_) (fun c_40 => ?_)
          · refine lv_iinc (v := nI (j + 1)) (lv' := [(2, .int (nI (j + 1))), (0, .ref (fa_B G + (0))), (1, .int (a1))]) hx hb dX6_burntIn_56 hl (k := 2) rfl (nI_add (j) 1) (by decide) rfl (fun ls hl => ?_)
            refine lv_goto (tgt := 26) hx hb dX6_burntIn_59 (by decide) ?_
            exact ih_26 (j + 1) v1681 r1682 _ _ _ (by omega) (⟨by omega, hC_v1681, (fa_fr.tr (fa_fr.tr fa_fr.rf (fa_fr.wide hi_26.2.2.1 (by omega) (by omega))) (fa_fr.wide h1679.2.2.2.1 (by omega) (by omega))), (fun k hk => ((h1679.2.2.2.2 k (by omega)).trans ((hi_26.2.2.2 k hk).trans rfl)))⟩) (lv_sub hl [1, 2, 0] rfl) HX1683
          · refine lv_aload_n hx hb dX6_burntIn_43 rfl (lv_at hl 0 rfl) ?_
            refine fa_getr (k := 0) (j := 57) CX HX1683 fl_X6_16 (by omega) rfl rfl (fa_CI.A hC_v1681).2.1 dX6_burntIn_44 ?_
            refine lv_iload_n hx hb dX6_burntIn_47 rfl (lv_at hl 1 rfl) ?_
            refine fa_callVrp (As := [.int (a1)]) (rest := []) CX HX1683 (g_find l G n hn v1681 r1682 57 (by decide) (fa_CI.S hC_v1681 57 (by decide)).1 (fa_CI.S hC_v1681 57 (by decide)).2 (a1) ) ln_X6_175 (fa_lt (by decide) 0 (by decide) hn) (fa_s0 (by decide)) rfl rfl rfl (Nat.le_of_ble_eq_true rfl) hl.1 ⟨Nat.le_of_ble_eq_true rfl, Nat.le_of_ble_eq_true rfl⟩ ⟨Nat.le_refl _, Nat.le_refl _⟩ dX6_burntIn_48 (fun H locs h1684 HX1685 => ?_) (fun q1686 H locs h1684 HX1685 => ?_)
            · have hf_none := h1684.2 rfl
              refine lv_ifnonnullN hx hb dX6_burntIn_51 ?_
              refine lv_iload_n hx hb dX6_burntIn_54 rfl (lv_at hl 2 rfl) ?_
              exact RET _ _ _ _ _ _ _ HX1685 dX6_burntIn_55 (⟨(fun k hk => ((h1679.2.2.2.2 k (by omega)).trans ((hi_26.2.2.2 k hk).trans rfl))), hC_v1681, (fa_fr.tr (fa_fr.tr fa_fr.rf (fa_fr.wide hi_26.2.2.1 (by omega) (by omega))) (fa_fr.wide h1679.2.2.2.1 (by omega) (by omega))), (fun k hk => ((h1679.2.2.2.2 k (by omega)).trans ((hi_26.2.2.2 k (by omega)).trans rfl)))⟩)
            · have hf_q1686 := h1684.1 q1686 rfl
              have hq1686 := hf_q1686.1
              have hiq1686 := fa_isF_in hq1686
              refine lv_ifnonnull (tgt := 56) hx hb dX6_burntIn_51 (by decide) ?_
              refine lv_iinc (v := nI (j + 1)) (lv' := [(2, .int (nI (j + 1))), (0, .ref (fa_B G + (0))), (1, .int (a1))]) hx hb dX6_burntIn_56 hl (k := 2) rfl (nI_add (j) 1) (by decide) rfl (fun ls hl => ?_)
              refine lv_goto (tgt := 26) hx hb dX6_burntIn_59 (by decide) ?_
              exact ih_26 (j + 1) v1681 r1682 _ _ _ (by omega) (⟨by omega, hC_v1681, (fa_fr.tr (fa_fr.tr fa_fr.rf (fa_fr.wide hi_26.2.2.1 (by omega) (by omega))) (fa_fr.wide h1679.2.2.2.1 (by omega) (by omega))), (fun k hk => ((h1679.2.2.2.2 k (by omega)).trans ((hi_26.2.2.2 k hk).trans rfl)))⟩) (lv_sub hl [1, 2, 0] rfl) HX1685
    exact LOOP_26 (3001 - 1 + 1) (1) v1674 r _ _ _ (Nat.lt_succ_self _) (⟨by omega, hC_v1674, (fa_fr.tr fa_fr.rf (fa_fr.wide h1673.2 (by omega) (by omega))), (fun k hk => rfl)⟩) (lv_sub hl [1, 2, 0] rfl) HX1675
set_option maxHeartbeats 4000000 in
set_option maxRecDepth 100000 in
theorem g_ifPassed (l : Launch) (G : fa_G) (n : Nat) (hn : 397 ≤ n) (v : fa_V) (r : fa_R) (hC : fa_CI v r) (a1 : Int32) (a2 : Int32) : fa_MI l G n yX6_ifPassed cX6_ifPassed 4 (some .int) 6 [.ref (fa_B G + (0)), .int (a1), .int (a2)] v r (fun x w => (∀ k, ¬ k = 58 → w.2 k = r k) ∧ (fa_CI w.1 w.2) ∧ (fa_fr 57 113 v w.1) ∧ (∀ k, 395 ≤ k → w.2 k = r k)) := by
  refine fa_startI (by decide +kernel) (Nat.le_of_ble_eq_true rfl) (fun p e s m args below meth c ls Q CX hl HX RET => ?_)
  have hl : lv_has ls 4 [(0, .ref (fa_B G + (0))), (1, .int (a1)), (2, .int (a2))] := hl
  have hx := CX.1.1
  have hb := CX.1.2.1
  have hB : (1 : Nat) ∈ fa_bs := by decide
  refine lv_iload_n hx hb dX6_ifPassed_0 rfl (lv_at hl 1 rfl) ?_
  refine lv_iconst (v := nI (1)) hx hb dX6_ifPassed_1 (by decide) ?_
  refine lv_icmp_lt (tgt := 21) hx hb dX6_ifPassed_2 (by decide) (fun c_2 => ?_) (fun c_2 => ?_)
  · refine lv_bipush (v := (-2 : Int32)) hx hb dX6_ifPassed_21 (by decide) ?_
    exact RET _ _ _ _ _ _ _ HX dX6_ifPassed_23 (⟨(fun k hk => rfl), hC, fa_fr.rf, (fun k hk => rfl)⟩)
  · refine lv_iload_n hx hb dX6_ifPassed_5 rfl (lv_at hl 1 rfl) ?_
    refine lv_sipush (v := nI (400)) hx hb dX6_ifPassed_6 (by decide) ?_
    refine lv_icmp_gt (tgt := 21) hx hb dX6_ifPassed_9 (by decide) (fun c_9 => ?_) (fun c_9 => ?_)
    · refine lv_bipush (v := (-2 : Int32)) hx hb dX6_ifPassed_21 (by decide) ?_
      exact RET _ _ _ _ _ _ _ HX dX6_ifPassed_23 (⟨(fun k hk => rfl), hC, fa_fr.rf, (fun k hk => rfl)⟩)
    · refine lv_iload_n hx hb dX6_ifPassed_12 rfl (lv_at hl 2 rfl) ?_
      refine lv_if_lt (tgt := 21) hx hb dX6_ifPassed_13 (by decide) (fun c_13 => ?_) (fun c_13 => ?_)
      · refine lv_bipush (v := (-2 : Int32)) hx hb dX6_ifPassed_21 (by decide) ?_
        exact RET _ _ _ _ _ _ _ HX dX6_ifPassed_23 (⟨(fun k hk => rfl), hC, fa_fr.rf, (fun k hk => rfl)⟩)
      · refine lv_iload_n hx hb dX6_ifPassed_16 rfl (lv_at hl 2 rfl) ?_
        refine lv_iconst (v := nI (2)) hx hb dX6_ifPassed_17 (by decide) ?_
        refine lv_icmp_le (tgt := 24) hx hb dX6_ifPassed_18 (by decide) (fun c_18 => ?_) (fun c_18 => ?_)
        · obtain ⟨ka, hka1, hka, eka⟩ := fa_natIn (by decide) c_2 (Int32.not_lt.mp c_9)
          refine lv_aload_n hx hb dX6_ifPassed_24 rfl (lv_at hl 0 rfl) ?_
          refine fa_getr (k := 0) (j := 57) CX HX fl_X6_16 (by omega) rfl rfl (fa_CI.A hC).2.1 dX6_ifPassed_25 ?_
          refine lv_aload_n hx hb dX6_ifPassed_28 rfl (lv_at hl 0 rfl) ?_
          refine fa_getr (k := 0) (j := 1) CX HX fl_X6_10 (by omega) rfl rfl (fa_CI.A hC).1 dX6_ifPassed_29 ?_
          refine fa_callVvu (As := [.ref (fa_B G + (1))]) (rest := []) CX HX (g_copyFrom l G n hn v r 57 (by decide) (fa_CI.S hC 57 (by decide)).1 1 (by decide) (fa_CI.S hC 1 (by decide)).1 (by omega) (fa_CI.S hC 57 (by decide)).2 (fa_CI.S hC 1 (by decide)).2) ln_X6_119 (fa_lt (by decide) 0 (by decide) hn) (fa_s0 (by decide)) rfl rfl rfl (Nat.le_of_ble_eq_true rfl) hl.1 ⟨Nat.le_of_ble_eq_true rfl, Nat.le_of_ble_eq_true rfl⟩ ⟨Nat.le_refl _, Nat.le_refl _⟩ dX6_ifPassed_32 (fun v1688 H locs h1687 HX1689 => ?_)
          have h_copyFrom := h1687.1.2
          have hIS_v1688 : fa_IS v1688 57 := h1687.1.1
          have hC_v1688 : fa_CI v1688 r := fa_CI.st hC (by decide) hIS_v1688 (fa_CI.S hC 57 (by decide)).1 (fa_fr.wide h1687.2 (by omega) (by omega)) (fun _ _ => rfl)
          refine lv_iconst (v := nI (0)) hx hb dX6_ifPassed_35 (by decide) ?_
          refine lv_istore_n (lv' := [(3, .int (nI (0))), (0, .ref (fa_B G + (0))), (1, .int (a1)), (2, .int (a2))]) hx hb dX6_ifPassed_36 rfl hl (by decide) rfl (fun ls hl => ?_)
          have LOOP_37 : ∀ (fu : Nat) (j : Nat) (v1690 : fa_V) (r1691 : fa_R) (H : Heap) (locs : List Loc) (ls : Array Slot), ka - j < fu → (j ≤ ka ∧ fa_CI v1690 r1691 ∧ fa_fr 57 113 v v1690 ∧ ∀ k, ¬ k = 58 → r1691 k = r k) → lv_has ls 4 [(0, .ref (fa_B G + (0))), (1, .int (a1)), (2, .int (a2)), (3, .int (nI (j)))] → fa_HX G (n) v1690 r1691 s H locs → W p l e (fa_rm 6) s m args below meth c H locs (0) (0) Q (F0 m 37 ls []) := by
            intro fu
            induction fu with
            | zero => intro j v1690 r1691 H locs ls hk; exact absurd hk (Nat.not_lt_zero _)
            | succ fu ih_37 =>
              intro j v1690 r1691 H locs ls hk_37 hi_37 hl HX1692
              refine lv_iload_n hx hb dX6_ifPassed_37 rfl (lv_at hl 3 rfl) ?_
              refine lv_iload_n hx hb dX6_ifPassed_38 rfl (lv_at hl 1 rfl) ?_
              refine lv_icmp_ge (tgt := 56) hx hb dX6_ifPassed_39 (by decide) (fun c_39 => ?_) (fun c_39 => ?_)
              · refine lv_iload_n hx hb dX6_ifPassed_56 rfl (lv_at hl 2 rfl) ?_
                by_cases c_57_0 : a2 = (0 : Int32)
                · refine lv_lookup (off := 27) (tgt := 84) hx hb dX6_ifPassed_57 (by decide) (by rw [c_57_0]; decide) (by decide) ?_
                  refine lv_aload_n hx hb dX6_ifPassed_84 rfl (lv_at hl 0 rfl) ?_
                  refine fa_getr (k := 0) (j := 57) CX HX1692 fl_X6_16 (by omega) rfl rfl (fa_CI.A hi_37.2.1).2.1 dX6_ifPassed_85 ?_
                  refine fa_geti (k := 57) CX HX1692 fl_X6_137 (fa_lt (by decide) 0 (by decide) hn) (fa_s0 (by decide)) rfl dX6_ifPassed_88 ?_
                  refine lv_aload_n hx hb dX6_ifPassed_91 rfl (lv_at hl 0 rfl) ?_
                  refine fa_getr (k := 0) (j := 1) CX HX1692 fl_X6_10 (by omega) rfl rfl (fa_CI.A hi_37.2.1).1 dX6_ifPassed_92 ?_
                  refine fa_geti (k := 1) CX HX1692 fl_X6_137 (fa_lt (by decide) 0 (by decide) hn) (fa_s0 (by decide)) rfl dX6_ifPassed_95 ?_
                  refine lv_isub hx hb dX6_ifPassed_98 ?_
                  exact RET _ _ _ _ _ _ _ HX1692 dX6_ifPassed_99 (⟨(fun k hk => ((hi_37.2.2.2 k hk).trans rfl)), hi_37.2.1, (fa_fr.tr fa_fr.rf (fa_fr.wide hi_37.2.2.1 (by omega) (by omega))), (fun k hk => ((hi_37.2.2.2 k (by omega)).trans rfl))⟩)
                by_cases c_57_1 : a2 = (1 : Int32)
                · refine lv_lookup (off := 43) (tgt := 100) hx hb dX6_ifPassed_57 (by decide) (by rw [c_57_1]; decide) (by decide) ?_
                  refine lv_aload_n hx hb dX6_ifPassed_100 rfl (lv_at hl 0 rfl) ?_
                  refine fa_getr (k := 0) (j := 57) CX HX1692 fl_X6_16 (by omega) rfl rfl (fa_CI.A hi_37.2.1).2.1 dX6_ifPassed_101 ?_
                  refine fa_geti (k := 57) CX HX1692 fl_X6_140 (fa_lt (by decide) 0 (by decide) hn) (fa_s0 (by decide)) rfl dX6_ifPassed_104 ?_
                  refine lv_aload_n hx hb dX6_ifPassed_107 rfl (lv_at hl 0 rfl) ?_
                  refine fa_getr (k := 0) (j := 1) CX HX1692 fl_X6_10 (by omega) rfl rfl (fa_CI.A hi_37.2.1).1 dX6_ifPassed_108 ?_
                  refine fa_geti (k := 1) CX HX1692 fl_X6_140 (fa_lt (by decide) 0 (by decide) hn) (fa_s0 (by decide)) rfl dX6_ifPassed_111 ?_
                  refine lv_isub hx hb dX6_ifPassed_114 ?_
                  exact RET _ _ _ _ _ _ _ HX1692 dX6_ifPassed_115 (⟨(fun k hk => ((hi_37.2.2.2 k hk).trans rfl)), hi_37.2.1, (fa_fr.tr fa_fr.rf (fa_fr.wide hi_37.2.2.1 (by omega) (by omega))), (fun k hk => ((hi_37.2.2.2 k (by omega)).trans rfl))⟩)
                refine lv_lookup (off := 59) (tgt := 116) hx hb dX6_ifPassed_57 (by decide) (by show Op.lookupswitch.offset [(0, 27), (1, 43)] 59 _ = _; rw [lv_osw (k := 0) c_57_0 (by decide), lv_osw (k := 1) c_57_1 (by decide)]; rfl) (by decide) ?_
                refine lv_aload_n hx hb dX6_ifPassed_116 rfl (lv_at hl 0 rfl) ?_
                refine fa_getr (k := 0) (j := 57) CX HX1692 fl_X6_16 (by omega) rfl rfl (fa_CI.A hi_37.2.1).2.1 dX6_ifPassed_117 ?_
                refine fa_geti (k := 57) CX HX1692 fl_X6_143 (fa_lt (by decide) 0 (by decide) hn) (fa_s0 (by decide)) rfl dX6_ifPassed_120 ?_
                refine lv_aload_n hx hb dX6_ifPassed_123 rfl (lv_at hl 0 rfl) ?_
                refine fa_getr (k := 0) (j := 1) CX HX1692 fl_X6_10 (by omega) rfl rfl (fa_CI.A hi_37.2.1).1 dX6_ifPassed_124 ?_
                refine fa_geti (k := 1) CX HX1692 fl_X6_143 (fa_lt (by decide) 0 (by decide) hn) (fa_s0 (by decide)) rfl dX6_ifPassed_127 ?_
                refine lv_isub hx hb dX6_ifPassed_130 ?_
                exact RET _ _ _ _ _ _ _ HX1692 dX6_ifPassed_131 (⟨(fun k hk => ((hi_37.2.2.2 k hk).trans rfl)), hi_37.2.1, (fa_fr.tr fa_fr.rf (fa_fr.wide hi_37.2.2.1 (by omega) (by omega))), (fun k hk => ((hi_37.2.2.2 k (by omega)).trans rfl))⟩)
              · have hj : j < ka := by
                  rw [eka] at c_39
                  exact fa_ltN (by omega) (by omega) c_39
                refine lv_aload_n hx hb dX6_ifPassed_42 rfl (lv_at hl 0 rfl) ?_
                refine fa_getr (k := 0) (j := 57) CX HX1692 fl_X6_16 (by omega) rfl rfl (fa_CI.A hi_37.2.1).2.1 dX6_ifPassed_43 ?_
                refine fa_callVi (As := []) (rest := []) CX HX1692 (g_passDay l G n hn v1690 r1691 57 (by decide) (fa_CI.S hi_37.2.1 57 (by decide)).1 (fa_CI.S hi_37.2.1 57 (by decide)).2  ) ln_X6_246 (fa_lt (by decide) 0 (by decide) hn) (fa_s0 (by decide)) rfl rfl rfl (Nat.le_of_ble_eq_true rfl) hl.1 ⟨Nat.le_of_ble_eq_true rfl, Nat.le_of_ble_eq_true rfl⟩ ⟨Nat.le_refl _, Nat.le_refl _⟩ dX6_ifPassed_46 (fun x1694 v1695 r1696 H locs h1693 HX1697 => ?_)
                dsimp only at h1693
                have hIS_v1695 := h1693.2.1
                have hr57_r1696 := h1693.2.2.1
                have hrr_r1696 := h1693.2.2.2.2
                have h_passDay := h1693.1
                have hC_v1695 : fa_CI v1695 r1696 := fa_CI.st hi_37.2.1 (by decide) hIS_v1695 hr57_r1696 (fa_fr.wide h1693.2.2.2.1 (by omega) (by omega)) h1693.2.2.2.2
                refine lv_pop hx hb dX6_ifPassed_49 rfl ?_
                refine lv_iinc (v := nI (j + 1)) (lv' := [(3, .int (nI (j + 1))), (0, .ref (fa_B G + (0))), (1, .int (a1)), (2, .int (a2))]) hx hb dX6_ifPassed_50 hl (k := 3) rfl (nI_add (j) 1) (by decide) rfl (fun ls hl => ?_)
                refine lv_goto (tgt := 37) hx hb dX6_ifPassed_53 (by decide) ?_
                exact ih_37 (j + 1) v1695 r1696 _ _ _ (by omega) (⟨by omega, hC_v1695, (fa_fr.tr (fa_fr.tr fa_fr.rf (fa_fr.wide hi_37.2.2.1 (by omega) (by omega))) (fa_fr.wide h1693.2.2.2.1 (by omega) (by omega))), (fun k hk => ((h1693.2.2.2.2 k (by omega)).trans ((hi_37.2.2.2 k hk).trans rfl)))⟩) (lv_sub hl [1, 2, 3, 0] rfl) HX1697
          exact LOOP_37 (ka - 0 + 1) (0) v1688 r _ _ _ (Nat.lt_succ_self _) (⟨by omega, hC_v1688, (fa_fr.tr fa_fr.rf (fa_fr.wide h1687.2 (by omega) (by omega))), (fun k hk => rfl)⟩) (lv_sub hl [1, 2, 3, 0] rfl) HX1689
        · refine lv_bipush (v := (-2 : Int32)) hx hb dX6_ifPassed_21 (by decide) ?_
          exact RET _ _ _ _ _ _ _ HX dX6_ifPassed_23 (⟨(fun k hk => rfl), hC, fa_fr.rf, (fun k hk => rfl)⟩)
