set_option maxHeartbeats 4000000 in
set_option maxRecDepth 100000 in
theorem g_why (l : Launch) (G : fa_G) (n : Nat) (hn : 397 ≤ n) (v : fa_V) (r : fa_R) (hC : fa_CI v r) (a1 : Int32) : fa_MI l G n yX6_why cX6_why 2 (some .int) 1 [.ref (fa_B G + (0)), .int (a1)] v r (fun x w => w = (v, r) ∧ (x = fb_whyA (v 0 6) (v 0 4) (v 0 5) a1)) := by
  refine fa_startI (by decide +kernel) (Nat.le_of_ble_eq_true rfl) (fun p e s m args below meth c ls Q CX hl HX RET => ?_)
  have hl : lv_has ls 2 [(0, .ref (fa_B G + (0))), (1, .int (a1))] := hl
  have hx := CX.1.1
  have hb := CX.1.2.1
  have hB : (1 : Nat) ∈ fa_bs := by decide
  refine lv_iload_n hx hb dX6_why_0 rfl (lv_at hl 1 rfl) ?_
  refine lv_if_lt (tgt := 9) hx hb dX6_why_1 (by decide) (fun c_1 => ?_) (fun c_1 => ?_)
  · refine lv_bipush (v := (-2 : Int32)) hx hb dX6_why_9 (by decide) ?_
    exact RET _ _ _ _ _ _ _ HX dX6_why_11 (⟨rfl, (by rw [fb_whyA, if_pos (Or.inl c_1)])⟩)
  · refine lv_iload_n hx hb dX6_why_4 rfl (lv_at hl 1 rfl) ?_
    refine lv_iconst (v := nI (2)) hx hb dX6_why_5 (by decide) ?_
    refine lv_icmp_le (tgt := 12) hx hb dX6_why_6 (by decide) (fun c_6 => ?_) (fun c_6 => ?_)
    · refine lv_aload_n hx hb dX6_why_12 rfl (lv_at hl 0 rfl) ?_
      refine fa_geti (k := 0) CX HX fl_X6_82 (by omega) rfl rfl dX6_why_13 ?_
      refine lv_if_ne (tgt := 22) hx hb dX6_why_16 (by decide) (fun c_16 => ?_) (fun c_16 => ?_)
      · refine lv_iload_n hx hb dX6_why_22 rfl (lv_at hl 1 rfl) ?_
        by_cases c_23_0 : a1 = (0 : Int32)
        · refine lv_lookup (off := 25) (tgt := 48) hx hb dX6_why_23 (by decide) (by rw [c_23_0]; decide) (by decide) ?_
          refine lv_aload_n hx hb dX6_why_48 rfl (lv_at hl 0 rfl) ?_
          refine fa_geti (k := 0) CX HX fl_X6_109 (by omega) rfl rfl dX6_why_49 ?_
          exact RET _ _ _ _ _ _ _ HX dX6_why_52 (⟨rfl, (by rw [fb_whyA, if_neg (fun z => z.elim c_1 (fun z => z c_6)), if_neg c_16, if_pos c_23_0])⟩)
        by_cases c_23_1 : a1 = (1 : Int32)
        · refine lv_lookup (off := 30) (tgt := 53) hx hb dX6_why_23 (by decide) (by rw [c_23_1]; decide) (by decide) ?_
          refine lv_aload_n hx hb dX6_why_53 rfl (lv_at hl 0 rfl) ?_
          refine fa_geti (k := 0) CX HX fl_X6_112 (by omega) rfl rfl dX6_why_54 ?_
          exact RET _ _ _ _ _ _ _ HX dX6_why_57 (⟨rfl, (by rw [fb_whyA, if_neg (fun z => z.elim c_1 (fun z => z c_6)), if_neg c_16, if_neg c_23_0, if_pos c_23_1])⟩)
        refine lv_lookup (off := 35) (tgt := 58) hx hb dX6_why_23 (by decide) (by show Op.lookupswitch.offset [(0, 25), (1, 30)] 35 _ = _; rw [lv_osw (k := 0) c_23_0 (by decide), lv_osw (k := 1) c_23_1 (by decide)]; rfl) (by decide) ?_
        refine lv_aload_n hx hb dX6_why_58 rfl (lv_at hl 0 rfl) ?_
        refine fa_geti (k := 0) CX HX fl_X6_82 (by omega) rfl rfl dX6_why_59 ?_
        exact RET _ _ _ _ _ _ _ HX dX6_why_62 (⟨rfl, (by rw [fb_whyA, if_neg (fun z => z.elim c_1 (fun z => z c_6)), if_neg c_16, if_neg c_23_0, if_neg c_23_1])⟩)
      · refine lv_bipush (v := (-6 : Int32)) hx hb dX6_why_19 (by decide) ?_
        exact RET _ _ _ _ _ _ _ HX dX6_why_21 (⟨rfl, (by rw [fb_whyA, if_neg (fun z => z.elim c_1 (fun z => z c_6)), if_pos (by first | exact c_16 | exact Decidable.not_not.mp c_16)])⟩)
    · refine lv_bipush (v := (-2 : Int32)) hx hb dX6_why_9 (by decide) ?_
      exact RET _ _ _ _ _ _ _ HX dX6_why_11 (⟨rfl, (by rw [fb_whyA, if_pos (Or.inr c_6)])⟩)
set_option maxHeartbeats 4000000 in
set_option maxRecDepth 100000 in
theorem g_undo (l : Launch) (G : fa_G) (n : Nat) (hn : 397 ≤ n) (v : fa_V) (r : fa_R) (hC : fa_CI v r) : fa_MI l G n yX6_undo cX6_undo 2 (some .int) 4 [.ref (fa_B G + (0))] v r (fa_voi r (fun x v1 => ((∀ A H, fb_CV v r A H → x = (fb_undoA A H).1 ∧ fb_CV v1 r (fb_undoA A H).2.1 (fb_undoA A H).2.2) ∧ fa_CI v1 r) ∧ (fa_fr (1) (395) v v1))) := by
  refine fa_startI (by decide +kernel) (Nat.le_of_ble_eq_true rfl) (fun p e s m args below meth c ls Q CX hl HX RET => ?_)
  have hl : lv_has ls 2 [(0, .ref (fa_B G + (0)))] := hl
  have hx := CX.1.1
  have hb := CX.1.2.1
  have hB : (1 : Nat) ∈ fa_bs := by decide
  refine lv_aload_n hx hb dX6_undo_0 rfl (lv_at hl 0 rfl) ?_
  refine fa_getr (k := 0) (j := 113) CX HX fl_X6_22 (by omega) rfl rfl (fa_CI.A hC).2.2.1 dX6_undo_1 ?_
  refine fa_callVru (As := []) (rest := []) CX HX (g_takeLatest l G n hn v r hC ) ln_X6_115 (by omega) rfl rfl rfl rfl (Nat.le_of_ble_eq_true rfl) hl.1 ⟨Nat.le_of_ble_eq_true rfl, Nat.le_of_ble_eq_true rfl⟩ ⟨Nat.le_refl _, Nat.le_refl _⟩ dX6_undo_4 (fun v1615 H locs h1614 HX1616 => ?_) (fun q1617 v1615 H locs h1614 HX1616 => ?_)
  · have hC_v1615 := h1614.1.2
    refine lv_astore_nN (lv' := [(1, .null), (0, .ref (fa_B G + (0)))]) hx hb dX6_undo_7 rfl hl (by decide) rfl (fun ls hl => ?_)
    refine lv_aload_nN hx hb dX6_undo_8 rfl (lv_at hl 0 rfl) ?_
    refine lv_ifnonnullN hx hb dX6_undo_9 ?_
    refine lv_bipush (v := (-6 : Int32)) hx hb dX6_undo_12 (by decide) ?_
    exact RET _ _ _ _ _ _ _ HX1616 dX6_undo_14 (⟨rfl, ⟨⟨(fun A H hV => by (have z := fb_undo0 hV (h1614.1.1.2 rfl).1; rw [(h1614.1.1.2 rfl).2]; exact z)), hC_v1615⟩, (fa_fr.tr fa_fr.rf (fa_fr.wide h1614.2 (by omega) (by omega)))⟩⟩)
  · have hC_v1615 := h1614.1.2
    obtain ⟨hbd, k3, hk3, e3k, e4k, e5k⟩ := h1614.1.1.1 q1617 rfl
    have hbl := fa_hb_lo q1617 hbd
    refine lv_astore_n (lv' := [(1, .ref (fa_B G + (q1617))), (0, .ref (fa_B G + (0)))]) hx hb dX6_undo_7 rfl hl (by decide) rfl (fun ls hl => ?_)
    refine lv_aload_n hx hb dX6_undo_8 rfl (lv_at hl 0 rfl) ?_
    refine lv_ifnonnull (tgt := 15) hx hb dX6_undo_9 (by decide) ?_
    refine lv_aload_n hx hb dX6_undo_15 rfl (lv_at hl 1 rfl) ?_
    refine fa_getr (k := 0) (j := 1) CX HX1616 fl_X6_10 (by omega) rfl rfl (fa_CI.A hC_v1615).1 dX6_undo_16 ?_
    refine lv_aload_n hx hb dX6_undo_19 rfl (lv_at hl 0 rfl) ?_
    refine fa_callVvu (As := [.ref (fa_B G + (q1617))]) (rest := []) CX HX1616 (g_copyFrom l G n hn v1615 r 1 (by decide) (fa_CI.S hC_v1615 1 (by decide)).1 q1617 (fa_hb_bs _ hbd) (fa_CI.S hC_v1615 q1617 (fa_hb_bs _ hbd)).1 (by omega) (fa_CI.S hC_v1615 1 (by decide)).2 (fa_CI.S hC_v1615 q1617 (fa_hb_bs _ hbd)).2) ln_X6_119 (fa_lt (by decide) 0 (by decide) hn) (fa_s0 (by decide)) rfl rfl rfl (Nat.le_of_ble_eq_true rfl) hl.1 ⟨Nat.le_of_ble_eq_true rfl, Nat.le_of_ble_eq_true rfl⟩ ⟨Nat.le_refl _, Nat.le_refl _⟩ dX6_undo_20 (fun v1619 H locs h1618 HX1620 => ?_)
    have h_copyFrom := h1618.1.2
    have hIS_v1619 : fa_IS v1619 1 := h1618.1.1
    have hC_v1619 : fa_CI v1619 r := fa_CI.st hC_v1615 (by decide) hIS_v1619 (fa_CI.S hC_v1615 1 (by decide)).1 (fa_fr.wide h1618.2 (by omega) (by omega)) (fun _ _ => rfl)
    refine lv_aload_n hx hb dX6_undo_23 rfl (lv_at hl 1 rfl) ?_
    refine fa_getr (k := 0) (j := 113) CX HX1620 fl_X6_22 (by omega) rfl rfl (fa_CI.A hC_v1619).2.2.1 dX6_undo_24 ?_
    refine fa_geti (k := 113) CX HX1620 fl_X6_122 (by omega) rfl rfl dX6_undo_27 ?_
    exact RET _ _ _ _ _ _ _ HX1620 dX6_undo_30 (⟨rfl, ⟨⟨(fun A H hV => fb_undo1 hV e3k e4k hk3 e5k h1614.2 h1618.2 h_copyFrom), hC_v1619⟩, (fa_fr.tr (fa_fr.tr fa_fr.rf (fa_fr.wide h1614.2 (by omega) (by omega))) (fa_fr.wide h1618.2 (by omega) (by omega)))⟩⟩)
set_option maxHeartbeats 4000000 in
set_option maxRecDepth 100000 in
theorem g_now (l : Launch) (G : fa_G) (n : Nat) (hn : 397 ≤ n) (v : fa_V) (r : fa_R) (hC : fa_CI v r) : fa_MI l G n yX6_now cX6_now 1 (some .int) 1 [.ref (fa_B G + (0))] v r (fun x w => w = (v, r) ∧ (x = v 1 0)) := by
  refine fa_startI (by decide +kernel) (Nat.le_of_ble_eq_true rfl) (fun p e s m args below meth c ls Q CX hl HX RET => ?_)
  have hl : lv_has ls 1 [(0, .ref (fa_B G + (0)))] := hl
  have hx := CX.1.1
  have hb := CX.1.2.1
  have hB : (1 : Nat) ∈ fa_bs := by decide
  refine lv_aload_n hx hb dX6_now_0 rfl (lv_at hl 0 rfl) ?_
  refine fa_getr (k := 0) (j := 1) CX HX fl_X6_10 (by omega) rfl rfl (fa_CI.A hC).1 dX6_now_1 ?_
  refine fa_geti (k := 1) CX HX fl_X6_125 (fa_lt (by decide) 0 (by decide) hn) (fa_s0 (by decide)) rfl dX6_now_4 ?_
  exact RET _ _ _ _ _ _ _ HX dX6_now_7 (⟨rfl, rfl⟩)
set_option maxHeartbeats 4000000 in
set_option maxRecDepth 100000 in
theorem g_count (l : Launch) (G : fa_G) (n : Nat) (hn : 397 ≤ n) (v : fa_V) (r : fa_R) (hC : fa_CI v r) (a1 : Int32) : fa_MI l G n yX6_count cX6_count 2 (some .int) 3 [.ref (fa_B G + (0)), .int (a1)] v r (fun x w => w = (v, r) ∧ (∀ A, fb_okA A → fb_cA v r 1 A → x = fb_cntA A a1)) := by
  refine fa_startI (by decide +kernel) (Nat.le_of_ble_eq_true rfl) (fun p e s m args below meth c ls Q CX hl HX RET => ?_)
  have hl : lv_has ls 2 [(0, .ref (fa_B G + (0))), (1, .int (a1))] := hl
  have hx := CX.1.1
  have hb := CX.1.2.1
  have hB : (1 : Nat) ∈ fa_bs := by decide
  obtain ⟨n0, en0⟩ : ∃ n0, n0 = fa_N (v 1 1) := ⟨_, rfl⟩
  obtain ⟨hn0, h1⟩ := (fa_CI.S hC 1 (by decide)).2.n1 en0
  obtain ⟨n2, en2⟩ : ∃ n2, n2 = fa_N (v (1 + 2) 0) := ⟨_, rfl⟩
  obtain ⟨hn2, h2⟩ := (fa_CI.S hC 1 (by decide)).2.n2 en2
  obtain ⟨n5, en5⟩ : ∃ n5, n5 = fa_N (v (1 + 5) 0) := ⟨_, rfl⟩
  obtain ⟨hn5, h5⟩ := (fa_CI.S hC 1 (by decide)).2.n5 en5
  refine lv_iload_n hx hb dX6_count_0 rfl (lv_at hl 1 rfl) ?_
  by_cases c_1_0 : a1 = (0 : Int32)
  · refine lv_tableIn (off := 55) (tgt := 56) hx hb dX6_count_1 (by rw [c_1_0]; decide) (by rw [c_1_0]; decide) (by rw [c_1_0]; decide) (by decide) ?_
    refine lv_aload_n hx hb dX6_count_56 rfl (lv_at hl 0 rfl) ?_
    refine fa_getr (k := 0) (j := 1) CX HX fl_X6_10 (by omega) rfl rfl (fa_CI.A hC).1 dX6_count_57 ?_
    refine fa_geti (k := 1) CX HX fl_X6_128 (fa_lt (by decide) 0 (by decide) hn) (fa_s0 (by decide)) rfl dX6_count_60 ?_
    rw [show v 1 1 = nI (n0) from h1]
    exact RET _ _ _ _ _ _ _ HX dX6_count_63 (⟨rfl, (fun A hok hc => by (rw [fb_cntA_0 c_1_0]; exact congrArg nI (by rw [en0, hc.n])))⟩)
  by_cases c_1_1 : a1 = (1 : Int32)
  · refine lv_tableIn (off := 63) (tgt := 64) hx hb dX6_count_1 (by rw [c_1_1]; decide) (by rw [c_1_1]; decide) (by rw [c_1_1]; decide) (by decide) ?_
    refine lv_aload_n hx hb dX6_count_64 rfl (lv_at hl 0 rfl) ?_
    refine fa_getr (k := 0) (j := 1) CX HX fl_X6_10 (by omega) rfl rfl (fa_CI.A hC).1 dX6_count_65 ?_
    refine fa_geti (k := 1) CX HX fl_X6_131 (fa_lt (by decide) 0 (by decide) hn) (fa_s0 (by decide)) rfl dX6_count_68 ?_
    exact RET _ _ _ _ _ _ _ HX dX6_count_71 (⟨rfl, (fun A hok hc => by (rw [fb_cntA_1 c_1_1]; exact (hc.gk 8 (by decide) (by decide))))⟩)
  by_cases c_1_2 : a1 = (2 : Int32)
  · refine lv_tableIn (off := 71) (tgt := 72) hx hb dX6_count_1 (by rw [c_1_2]; decide) (by rw [c_1_2]; decide) (by rw [c_1_2]; decide) (by decide) ?_
    refine lv_aload_n hx hb dX6_count_72 rfl (lv_at hl 0 rfl) ?_
    refine fa_getr (k := 0) (j := 1) CX HX fl_X6_10 (by omega) rfl rfl (fa_CI.A hC).1 dX6_count_73 ?_
    refine fa_callVip (As := []) (rest := []) CX HX (g_storedPages l G n hn v r 1 (by decide) (fa_CI.S hC 1 (by decide)).1 (fa_CI.S hC 1 (by decide)).2  ) ln_X6_134 (fa_lt (by decide) 0 (by decide) hn) (fa_s0 (by decide)) rfl rfl rfl (Nat.le_of_ble_eq_true rfl) hl.1 ⟨Nat.le_of_ble_eq_true rfl, Nat.le_of_ble_eq_true rfl⟩ ⟨Nat.le_refl _, Nat.le_refl _⟩ dX6_count_76 (fun x1622 H locs h1621 HX1623 => ?_)
    have h_storedPages := h1621
    exact RET _ _ _ _ _ _ _ HX1623 dX6_count_79 (⟨rfl, (fun A hok hc => by (rw [fb_cntA_2 c_1_2]; exact (h_storedPages.trans hc.pgs)))⟩)
  by_cases c_1_3 : a1 = (3 : Int32)
  · refine lv_tableIn (off := 79) (tgt := 80) hx hb dX6_count_1 (by rw [c_1_3]; decide) (by rw [c_1_3]; decide) (by rw [c_1_3]; decide) (by decide) ?_
    refine lv_aload_n hx hb dX6_count_80 rfl (lv_at hl 0 rfl) ?_
    refine fa_getr (k := 0) (j := 1) CX HX fl_X6_10 (by omega) rfl rfl (fa_CI.A hC).1 dX6_count_81 ?_
    refine fa_geti (k := 1) CX HX fl_X6_137 (fa_lt (by decide) 0 (by decide) hn) (fa_s0 (by decide)) rfl dX6_count_84 ?_
    exact RET _ _ _ _ _ _ _ HX dX6_count_87 (⟨rfl, (fun A hok hc => by (rw [fb_cntA_3 c_1_3]; exact (hc.gk 9 (by decide) (by decide))))⟩)
  by_cases c_1_4 : a1 = (4 : Int32)
  · refine lv_tableIn (off := 87) (tgt := 88) hx hb dX6_count_1 (by rw [c_1_4]; decide) (by rw [c_1_4]; decide) (by rw [c_1_4]; decide) (by decide) ?_
    refine lv_aload_n hx hb dX6_count_88 rfl (lv_at hl 0 rfl) ?_
    refine fa_getr (k := 0) (j := 1) CX HX fl_X6_10 (by omega) rfl rfl (fa_CI.A hC).1 dX6_count_89 ?_
    refine fa_geti (k := 1) CX HX fl_X6_140 (fa_lt (by decide) 0 (by decide) hn) (fa_s0 (by decide)) rfl dX6_count_92 ?_
    exact RET _ _ _ _ _ _ _ HX dX6_count_95 (⟨rfl, (fun A hok hc => by (rw [fb_cntA_4 c_1_4]; exact (hc.gk 10 (by decide) (by decide))))⟩)
  by_cases c_1_5 : a1 = (5 : Int32)
  · refine lv_tableIn (off := 95) (tgt := 96) hx hb dX6_count_1 (by rw [c_1_5]; decide) (by rw [c_1_5]; decide) (by rw [c_1_5]; decide) (by decide) ?_
    refine lv_aload_n hx hb dX6_count_96 rfl (lv_at hl 0 rfl) ?_
    refine fa_getr (k := 0) (j := 1) CX HX fl_X6_10 (by omega) rfl rfl (fa_CI.A hC).1 dX6_count_97 ?_
    refine fa_geti (k := 1) CX HX fl_X6_143 (fa_lt (by decide) 0 (by decide) hn) (fa_s0 (by decide)) rfl dX6_count_100 ?_
    exact RET _ _ _ _ _ _ _ HX dX6_count_103 (⟨rfl, (fun A hok hc => by (rw [fb_cntA_5 c_1_5]; exact (hc.gk 11 (by decide) (by decide))))⟩)
  by_cases c_1_6 : a1 = (6 : Int32)
  · refine lv_tableIn (off := 103) (tgt := 104) hx hb dX6_count_1 (by rw [c_1_6]; decide) (by rw [c_1_6]; decide) (by rw [c_1_6]; decide) (by decide) ?_
    refine lv_aload_n hx hb dX6_count_104 rfl (lv_at hl 0 rfl) ?_
    refine fa_getr (k := 0) (j := 1) CX HX fl_X6_10 (by omega) rfl rfl (fa_CI.A hC).1 dX6_count_105 ?_
    refine fa_geti (k := 1) CX HX fl_X6_146 (fa_lt (by decide) 0 (by decide) hn) (fa_s0 (by decide)) rfl dX6_count_108 ?_
    exact RET _ _ _ _ _ _ _ HX dX6_count_111 (⟨rfl, (fun A hok hc => by (rw [fb_cntA_6 c_1_6]; exact (hc.gk 12 (by decide) (by decide))))⟩)
  by_cases c_1_7 : a1 = (7 : Int32)
  · refine lv_tableIn (off := 111) (tgt := 112) hx hb dX6_count_1 (by rw [c_1_7]; decide) (by rw [c_1_7]; decide) (by rw [c_1_7]; decide) (by decide) ?_
    refine lv_aload_n hx hb dX6_count_112 rfl (lv_at hl 0 rfl) ?_
    refine fa_getr (k := 0) (j := 1) CX HX fl_X6_10 (by omega) rfl rfl (fa_CI.A hC).1 dX6_count_113 ?_
    refine fa_geti (k := 1) CX HX fl_X6_149 (fa_lt (by decide) 0 (by decide) hn) (fa_s0 (by decide)) rfl dX6_count_116 ?_
    exact RET _ _ _ _ _ _ _ HX dX6_count_119 (⟨rfl, (fun A hok hc => by (rw [fb_cntA_7 c_1_7]; exact (hc.gk 13 (by decide) (by decide))))⟩)
  by_cases c_1_8 : a1 = (8 : Int32)
  · refine lv_tableIn (off := 119) (tgt := 120) hx hb dX6_count_1 (by rw [c_1_8]; decide) (by rw [c_1_8]; decide) (by rw [c_1_8]; decide) (by decide) ?_
    refine lv_aload_n hx hb dX6_count_120 rfl (lv_at hl 0 rfl) ?_
    refine fa_getr (k := 0) (j := 1) CX HX fl_X6_10 (by omega) rfl rfl (fa_CI.A hC).1 dX6_count_121 ?_
    refine fa_getr (k := 1) (j := 1 + 2) CX HX fl_X6_152 (fa_lt (by decide) 0 (by decide) hn) (fa_s0 (by decide)) rfl (fa_CI.S hC 1 (by decide)).1.2.1 dX6_count_124 ?_
    refine fa_geti (k := 1 + 2) CX HX fl_X6_156 (fa_lt (by decide) 2 (by decide) hn) (fa_s2 (by decide)) rfl dX6_count_127 ?_
    rw [show v (1 + 2) 0 = nI (n2) from h2]
    exact RET _ _ _ _ _ _ _ HX dX6_count_130 (⟨rfl, (fun A hok hc => by (rw [fb_cntA_8 c_1_8]; exact congrArg nI (by rw [en2, hc.2.2.2.2.1.len.2.2])))⟩)
  by_cases c_1_9 : a1 = (9 : Int32)
  · refine lv_tableIn (off := 130) (tgt := 131) hx hb dX6_count_1 (by rw [c_1_9]; decide) (by rw [c_1_9]; decide) (by rw [c_1_9]; decide) (by decide) ?_
    refine lv_aload_n hx hb dX6_count_131 rfl (lv_at hl 0 rfl) ?_
    refine fa_getr (k := 0) (j := 1) CX HX fl_X6_10 (by omega) rfl rfl (fa_CI.A hC).1 dX6_count_132 ?_
    refine fa_getr (k := 1) (j := 1 + 5) CX HX fl_X6_159 (fa_lt (by decide) 0 (by decide) hn) (fa_s0 (by decide)) rfl (fa_CI.S hC 1 (by decide)).1.2.2.1 dX6_count_135 ?_
    refine fa_geti (k := 1 + 5) CX HX fl_X6_163 (fa_lt (by decide) 5 (by decide) hn) (fa_s5 (by decide)) rfl dX6_count_138 ?_
    rw [show v (1 + 5) 0 = nI (n5) from h5]
    exact RET _ _ _ _ _ _ _ HX dX6_count_141 (⟨rfl, (fun A hok hc => by (rw [fb_cntA_9 c_1_9]; exact congrArg nI (by rw [en5, hc.2.2.2.2.2.2.1, fa_N_nI (by have := hc.2.2.2.2.2.1; omega)])))⟩)
  have hout_1 : (a1).toInt < 0 ∨ 9 < (a1).toInt := by
    have z0 := lv_neT (a := 0) c_1_0 (by decide)
    have z1 := lv_neT (a := 1) c_1_1 (by decide)
    have z2 := lv_neT (a := 2) c_1_2 (by decide)
    have z3 := lv_neT (a := 3) c_1_3 (by decide)
    have z4 := lv_neT (a := 4) c_1_4 (by decide)
    have z5 := lv_neT (a := 5) c_1_5 (by decide)
    have z6 := lv_neT (a := 6) c_1_6 (by decide)
    have z7 := lv_neT (a := 7) c_1_7 (by decide)
    have z8 := lv_neT (a := 8) c_1_8 (by decide)
    have z9 := lv_neT (a := 9) c_1_9 (by decide)
    omega
  refine lv_tableOut (tgt := 142) hx hb dX6_count_1 hout_1 (by decide) ?_
  refine lv_bipush (v := (-2 : Int32)) hx hb dX6_count_142 (by decide) ?_
  exact RET _ _ _ _ _ _ _ HX dX6_count_144 (⟨rfl, (fun A hok hc => (fb_cntA_o c_1_0 c_1_1 c_1_2 c_1_3 c_1_4 c_1_5 c_1_6 c_1_7 c_1_8 c_1_9).symm)⟩)
set_option maxHeartbeats 4000000 in
set_option maxRecDepth 100000 in
theorem g_fileAt (l : Launch) (G : fa_G) (n : Nat) (hn : 397 ≤ n) (v : fa_V) (r : fa_R) (hC : fa_CI v r) (a1 : Int32) : fa_MI l G n yX6_fileAt cX6_fileAt 2 (some .int) 1 [.ref (fa_B G + (0)), .int (a1)] v r (fun x w => w = (v, r) ∧ (∀ A, fb_okA A → fb_cA v r 1 A → x = fb_fatA A a1)) := by
  refine fa_startI (by decide +kernel) (Nat.le_of_ble_eq_true rfl) (fun p e s m args below meth c ls Q CX hl HX RET => ?_)
  have hl : lv_has ls 2 [(0, .ref (fa_B G + (0))), (1, .int (a1))] := hl
  have hx := CX.1.1
  have hb := CX.1.2.1
  have hB : (1 : Nat) ∈ fa_bs := by decide
  obtain ⟨n0, en0⟩ : ∃ n0, n0 = fa_N (v 1 1) := ⟨_, rfl⟩
  obtain ⟨hn0, h1⟩ := (fa_CI.S hC 1 (by decide)).2.n1 en0
  obtain ⟨n2, en2⟩ : ∃ n2, n2 = fa_N (v (1 + 2) 0) := ⟨_, rfl⟩
  obtain ⟨hn2, h2⟩ := (fa_CI.S hC 1 (by decide)).2.n2 en2
  obtain ⟨n5, en5⟩ : ∃ n5, n5 = fa_N (v (1 + 5) 0) := ⟨_, rfl⟩
  obtain ⟨hn5, h5⟩ := (fa_CI.S hC 1 (by decide)).2.n5 en5
  refine lv_iload_n hx hb dX6_fileAt_0 rfl (lv_at hl 1 rfl) ?_
  refine lv_if_ge (tgt := 7) hx hb dX6_fileAt_1 (by decide) (fun c_1 => ?_) (fun c_1 => ?_)
  · refine lv_iload_n hx hb dX6_fileAt_7 rfl (lv_at hl 1 rfl) ?_
    refine lv_aload_n hx hb dX6_fileAt_8 rfl (lv_at hl 0 rfl) ?_
    refine fa_getr (k := 0) (j := 1) CX HX fl_X6_10 (by omega) rfl rfl (fa_CI.A hC).1 dX6_fileAt_9 ?_
    refine fa_geti (k := 1) CX HX fl_X6_128 (fa_lt (by decide) 0 (by decide) hn) (fa_s0 (by decide)) rfl dX6_fileAt_12 ?_
    rw [show v 1 1 = nI (n0) from h1]
    refine lv_icmp_ge (tgt := 33) hx hb dX6_fileAt_15 (by decide) (fun c_15 => ?_) (fun c_15 => ?_)
    · refine lv_bipush (v := (-6 : Int32)) hx hb dX6_fileAt_33 (by decide) ?_
      exact RET _ _ _ _ _ _ _ HX dX6_fileAt_35 (⟨rfl, (fun A hok hc => by (have e : A.n = n0 := (by rw [← hc.n, ← en0]); rw [fb_fatA, if_neg (Int32.not_lt.mpr c_1), if_pos (by rw [e]; exact Int32.not_lt.mpr c_15)]))⟩)
    · obtain ⟨ja, hja, eja⟩ := fa_ixN (by omega) (Int32.not_lt.mpr c_1) (Int32.not_le.mp c_15)
      refine lv_aload_n hx hb dX6_fileAt_18 rfl (lv_at hl 0 rfl) ?_
      refine fa_getr (k := 0) (j := 1) CX HX fl_X6_10 (by omega) rfl rfl (fa_CI.A hC).1 dX6_fileAt_19 ?_
      refine fa_getr (k := 1) (j := 1 + 1) CX HX fl_X6_166 (fa_lt (by decide) 0 (by decide) hn) (fa_s0 (by decide)) rfl (fa_CI.S hC 1 (by decide)).1.1 dX6_fileAt_22 ?_
      refine lv_iload_n hx hb dX6_fileAt_25 rfl (lv_at hl 1 rfl) ?_
      rw [show a1 = nI (ja) from eja]
      refine fa_aald (k := 1 + 1) (j := ja) (q := fa_pf r 1 ja) CX HX (fa_lt (by decide) 1 (by decide) hn) (fa_s1 (by decide)) rfl (by decide) (by omega) (by first | decide | assumption) (fa_pf_at (fa_CI.S hC 1 (by decide)).1 (by omega)) dX6_fileAt_26 ?_
      refine fa_geti (k := fa_pf r 1 ja) CX HX fl_X6_170 (fa_isF_lt hB (fa_pf_isF (fa_CI.S hC 1 (by decide)).1 (by omega)) hn) (fa_isF_sh hB (fa_pf_isF (fa_CI.S hC 1 (by decide)).1 (by omega))) rfl dX6_fileAt_27 ?_
      refine lv_goto (tgt := 35) hx hb dX6_fileAt_30 (by decide) ?_
      exact RET _ _ _ _ _ _ _ HX dX6_fileAt_35 (⟨rfl, (fun A hok hc => by (have e : A.n = n0 := (by rw [← hc.n, ← en0]); rw [fb_fatA, if_neg (Int32.not_lt.mpr c_1), if_neg (fun z => z (by rw [e]; exact Int32.not_le.mp c_15)), eja, fa_N_nI (by omega)]; exact hc.f (by rw [e]; exact hja) (by decide) (by decide)))⟩)
  · refine lv_bipush (v := (-2 : Int32)) hx hb dX6_fileAt_4 (by decide) ?_
    exact RET _ _ _ _ _ _ _ HX dX6_fileAt_6 (⟨rfl, (fun A hok hc => by (rw [fb_fatA, if_pos (Int32.not_le.mp c_1)]))⟩)
set_option maxHeartbeats 4000000 in
set_option maxRecDepth 100000 in
theorem g_file (l : Launch) (G : fa_G) (n : Nat) (hn : 397 ≤ n) (v : fa_V) (r : fa_R) (hC : fa_CI v r) (a1 : Int32) (a2 : Int32) : fa_MI l G n yX6_file cX6_file 4 (some .int) 3 [.ref (fa_B G + (0)), .int (a1), .int (a2)] v r (fun x w => w = (v, r) ∧ (∀ A, fb_okA A → fb_cA v r 1 A → x = fb_filA A a1 a2)) := by
  refine fa_startI (by decide +kernel) (Nat.le_of_ble_eq_true rfl) (fun p e s m args below meth c ls Q CX hl HX RET => ?_)
  have hl : lv_has ls 4 [(0, .ref (fa_B G + (0))), (1, .int (a1)), (2, .int (a2))] := hl
  have hx := CX.1.1
  have hb := CX.1.2.1
  have hB : (1 : Nat) ∈ fa_bs := by decide
  refine lv_aload_n hx hb dX6_file_0 rfl (lv_at hl 0 rfl) ?_
  refine fa_getr (k := 0) (j := 1) CX HX fl_X6_10 (by omega) rfl rfl (fa_CI.A hC).1 dX6_file_1 ?_
  refine lv_iload_n hx hb dX6_file_4 rfl (lv_at hl 1 rfl) ?_
  refine fa_callVrp (As := [.int (a1)]) (rest := []) CX HX (g_find l G n hn v r 1 (by decide) (fa_CI.S hC 1 (by decide)).1 (fa_CI.S hC 1 (by decide)).2 (a1) ) ln_X6_175 (fa_lt (by decide) 0 (by decide) hn) (fa_s0 (by decide)) rfl rfl rfl (Nat.le_of_ble_eq_true rfl) hl.1 ⟨Nat.le_of_ble_eq_true rfl, Nat.le_of_ble_eq_true rfl⟩ ⟨Nat.le_refl _, Nat.le_refl _⟩ dX6_file_5 (fun H locs h1624 HX1625 => ?_) (fun q1626 H locs h1624 HX1625 => ?_)
  · have hf_none := h1624.2 rfl
    refine lv_astore_nN (lv' := [(3, .null), (0, .ref (fa_B G + (0))), (1, .int (a1)), (2, .int (a2))]) hx hb dX6_file_8 rfl hl (by decide) rfl (fun ls hl => ?_)
    refine lv_aload_nN hx hb dX6_file_9 rfl (lv_at hl 0 rfl) ?_
    refine lv_ifnonnullN hx hb dX6_file_10 ?_
    refine lv_iconst (v := (-1 : Int32)) hx hb dX6_file_13 (by decide) ?_
    exact RET _ _ _ _ _ _ _ HX1625 dX6_file_14 (⟨rfl, (fun A hok hc => (fb_filA_n (hc.find0 hf_none)).symm)⟩)
  · have hf_q1626 := h1624.1 q1626 rfl
    have hq1626 := hf_q1626.1
    have hiq1626 := fa_isF_in hq1626
    refine lv_astore_n (lv' := [(3, .ref (fa_B G + (q1626))), (0, .ref (fa_B G + (0))), (1, .int (a1)), (2, .int (a2))]) hx hb dX6_file_8 rfl hl (by decide) rfl (fun ls hl => ?_)
    refine lv_aload_n hx hb dX6_file_9 rfl (lv_at hl 0 rfl) ?_
    refine lv_ifnonnull (tgt := 15) hx hb dX6_file_10 (by decide) ?_
    refine lv_iload_n hx hb dX6_file_15 rfl (lv_at hl 3 rfl) ?_
    by_cases c_16_0 : a2 = (0 : Int32)
    · refine lv_tableIn (off := 56) (tgt := 72) hx hb dX6_file_16 (by rw [c_16_0]; decide) (by rw [c_16_0]; decide) (by rw [c_16_0]; decide) (by decide) ?_
      refine lv_aload_n hx hb dX6_file_72 rfl (lv_at hl 0 rfl) ?_
      refine fa_geti (k := q1626) CX HX1625 fl_X6_179 (fa_isF_lt hB hq1626 hn) (fa_isF_sh hB hq1626) rfl dX6_file_73 ?_
      exact RET _ _ _ _ _ _ _ HX1625 dX6_file_76 (⟨rfl, (fun A hok hc => by (obtain ⟨p, hp, eq, ix, ep⟩ := hc.find1 hf_q1626; rw [fb_filA_s ix, fb_filP_0 c_16_0]; rw [eq]; exact hc.f hp (by decide) (by decide)))⟩)
    by_cases c_16_1 : a2 = (1 : Int32)
    · refine lv_tableIn (off := 61) (tgt := 77) hx hb dX6_file_16 (by rw [c_16_1]; decide) (by rw [c_16_1]; decide) (by rw [c_16_1]; decide) (by decide) ?_
      refine lv_aload_n hx hb dX6_file_77 rfl (lv_at hl 0 rfl) ?_
      refine fa_geti (k := q1626) CX HX1625 fl_X6_182 (fa_isF_lt hB hq1626 hn) (fa_isF_sh hB hq1626) rfl dX6_file_78 ?_
      exact RET _ _ _ _ _ _ _ HX1625 dX6_file_81 (⟨rfl, (fun A hok hc => by (obtain ⟨p, hp, eq, ix, ep⟩ := hc.find1 hf_q1626; rw [fb_filA_s ix, fb_filP_1 c_16_1]; rw [eq]; exact hc.f hp (by decide) (by decide)))⟩)
    by_cases c_16_2 : a2 = (2 : Int32)
    · refine lv_tableIn (off := 66) (tgt := 82) hx hb dX6_file_16 (by rw [c_16_2]; decide) (by rw [c_16_2]; decide) (by rw [c_16_2]; decide) (by decide) ?_
      refine lv_aload_n hx hb dX6_file_82 rfl (lv_at hl 0 rfl) ?_
      refine fa_geti (k := q1626) CX HX1625 fl_X6_185 (fa_isF_lt hB hq1626 hn) (fa_isF_sh hB hq1626) rfl dX6_file_83 ?_
      exact RET _ _ _ _ _ _ _ HX1625 dX6_file_86 (⟨rfl, (fun A hok hc => by (obtain ⟨p, hp, eq, ix, ep⟩ := hc.find1 hf_q1626; rw [fb_filA_s ix, fb_filP_2 c_16_2]; rw [eq]; exact hc.f hp (by decide) (by decide)))⟩)
    by_cases c_16_3 : a2 = (3 : Int32)
    · refine lv_tableIn (off := 71) (tgt := 87) hx hb dX6_file_16 (by rw [c_16_3]; decide) (by rw [c_16_3]; decide) (by rw [c_16_3]; decide) (by decide) ?_
      refine lv_aload_n hx hb dX6_file_87 rfl (lv_at hl 0 rfl) ?_
      refine fa_geti (k := q1626) CX HX1625 fl_X6_188 (fa_isF_lt hB hq1626 hn) (fa_isF_sh hB hq1626) rfl dX6_file_88 ?_
      exact RET _ _ _ _ _ _ _ HX1625 dX6_file_91 (⟨rfl, (fun A hok hc => by (obtain ⟨p, hp, eq, ix, ep⟩ := hc.find1 hf_q1626; rw [fb_filA_s ix, fb_filP_3 c_16_3]; rw [eq]; exact fb_m6_of (hc.f6 hp (Or.inl rfl)) (hok.f4 hp)))⟩)
    by_cases c_16_4 : a2 = (4 : Int32)
    · refine lv_tableIn (off := 76) (tgt := 92) hx hb dX6_file_16 (by rw [c_16_4]; decide) (by rw [c_16_4]; decide) (by rw [c_16_4]; decide) (by decide) ?_
      refine lv_aload_n hx hb dX6_file_92 rfl (lv_at hl 0 rfl) ?_
      refine fa_geti (k := q1626) CX HX1625 fl_X6_191 (fa_isF_lt hB hq1626 hn) (fa_isF_sh hB hq1626) rfl dX6_file_93 ?_
      exact RET _ _ _ _ _ _ _ HX1625 dX6_file_96 (⟨rfl, (fun A hok hc => by (obtain ⟨p, hp, eq, ix, ep⟩ := hc.find1 hf_q1626; rw [fb_filA_s ix, fb_filP_4 c_16_4]; rw [eq]; exact hc.f hp (by decide) (by decide)))⟩)
    by_cases c_16_5 : a2 = (5 : Int32)
    · refine lv_tableIn (off := 81) (tgt := 97) hx hb dX6_file_16 (by rw [c_16_5]; decide) (by rw [c_16_5]; decide) (by rw [c_16_5]; decide) (by decide) ?_
      refine lv_aload_n hx hb dX6_file_97 rfl (lv_at hl 0 rfl) ?_
      refine fa_geti (k := q1626) CX HX1625 fl_X6_194 (fa_isF_lt hB hq1626 hn) (fa_isF_sh hB hq1626) rfl dX6_file_98 ?_
      exact RET _ _ _ _ _ _ _ HX1625 dX6_file_101 (⟨rfl, (fun A hok hc => by (obtain ⟨p, hp, eq, ix, ep⟩ := hc.find1 hf_q1626; rw [fb_filA_s ix, fb_filP_5 c_16_5]; rw [eq]; exact fb_m6_of (hc.f6 hp (Or.inr rfl)) (hok.f6 hp)))⟩)
    by_cases c_16_6 : a2 = (6 : Int32)
    · refine lv_tableIn (off := 86) (tgt := 102) hx hb dX6_file_16 (by rw [c_16_6]; decide) (by rw [c_16_6]; decide) (by rw [c_16_6]; decide) (by decide) ?_
      refine lv_aload_n hx hb dX6_file_102 rfl (lv_at hl 1 rfl) ?_
      refine fa_getr (k := 0) (j := 1) CX HX1625 fl_X6_10 (by omega) rfl rfl (fa_CI.A hC).1 dX6_file_103 ?_
      refine lv_aload_n hx hb dX6_file_106 rfl (lv_at hl 0 rfl) ?_
      refine fa_callVip (As := [.ref (fa_B G + (q1626))]) (rest := []) CX HX1625 (g_dueDay l G n hn v r 1 (by decide) (fa_CI.S hC 1 (by decide)).1 (fa_CI.S hC 1 (by decide)).2 (q1626) hq1626) ln_X6_197 (fa_lt (by decide) 0 (by decide) hn) (fa_s0 (by decide)) rfl rfl rfl (Nat.le_of_ble_eq_true rfl) hl.1 ⟨Nat.le_of_ble_eq_true rfl, Nat.le_of_ble_eq_true rfl⟩ ⟨Nat.le_refl _, Nat.le_refl _⟩ dX6_file_107 (fun x1628 H locs h1627 HX1629 => ?_)
      have h_dueDay := h1627
      exact RET _ _ _ _ _ _ _ HX1629 dX6_file_110 (⟨rfl, (fun A hok hc => by (obtain ⟨p, hp, eq, ix, ep⟩ := hc.find1 hf_q1626; rw [fb_filA_s ix, fb_filP_6 c_16_6]; rw [eq] at h_dueDay; exact h_dueDay.trans (hc.due hok hp)))⟩)
    by_cases c_16_7 : a2 = (7 : Int32)
    · refine lv_tableIn (off := 95) (tgt := 111) hx hb dX6_file_16 (by rw [c_16_7]; decide) (by rw [c_16_7]; decide) (by rw [c_16_7]; decide) (by decide) ?_
      refine lv_aload_n hx hb dX6_file_111 rfl (lv_at hl 0 rfl) ?_
      refine lv_aload_n hx hb dX6_file_112 rfl (lv_at hl 1 rfl) ?_
      refine fa_getr (k := 0) (j := 1) CX HX1625 fl_X6_10 (by omega) rfl rfl (fa_CI.A hC).1 dX6_file_113 ?_
      refine fa_geti (k := 1) CX HX1625 fl_X6_125 (fa_lt (by decide) 0 (by decide) hn) (fa_s0 (by decide)) rfl dX6_file_116 ?_
      refine fa_callVip (As := [.int (v 1 0)]) (rest := []) CX HX1625 (g_holdersOn l G n hn v r 1 (by decide) (fa_CI.S hC 1 (by decide)).1 (fa_CI.S hC 1 (by decide)).2 q1626 (v 1 0) hq1626 ) ln_X6_201 (fa_isF_lt hB hq1626 hn) (fa_isF_sh hB hq1626) rfl rfl rfl (Nat.le_of_ble_eq_true rfl) hl.1 ⟨Nat.le_of_ble_eq_true rfl, Nat.le_of_ble_eq_true rfl⟩ ⟨Nat.le_refl _, Nat.le_refl _⟩ dX6_file_119 (fun x1631 H locs h1630 HX1632 => ?_)
      have h_holdersOn := h1630
      exact RET _ _ _ _ _ _ _ HX1632 dX6_file_122 (⟨rfl, (fun A hok hc => by (obtain ⟨p, hp, eq, ix, ep⟩ := hc.find1 hf_q1626; rw [fb_filA_s ix, fb_filP_7 c_16_7]; rw [eq] at h_holdersOn; exact h_holdersOn.trans (hc.mask hok hp)))⟩)
    by_cases c_16_8 : a2 = (8 : Int32)
    · refine lv_tableIn (off := 107) (tgt := 123) hx hb dX6_file_16 (by rw [c_16_8]; decide) (by rw [c_16_8]; decide) (by rw [c_16_8]; decide) (by decide) ?_
      refine lv_aload_n hx hb dX6_file_123 rfl (lv_at hl 1 rfl) ?_
      refine fa_getr (k := 0) (j := 1) CX HX1625 fl_X6_10 (by omega) rfl rfl (fa_CI.A hC).1 dX6_file_124 ?_
      refine lv_iload_n hx hb dX6_file_127 rfl (lv_at hl 2 rfl) ?_
      refine fa_callVip (As := [.int (a1)]) (rest := []) CX HX1625 (g_referrersOf l G n hn v r 1 (by decide) (fa_CI.S hC 1 (by decide)).1 (fa_CI.S hC 1 (by decide)).2 (a1) ) ln_X6_204 (fa_lt (by decide) 0 (by decide) hn) (fa_s0 (by decide)) rfl rfl rfl (Nat.le_of_ble_eq_true rfl) hl.1 ⟨Nat.le_of_ble_eq_true rfl, Nat.le_of_ble_eq_true rfl⟩ ⟨Nat.le_refl _, Nat.le_refl _⟩ dX6_file_128 (fun x1634 H locs h1633 HX1635 => ?_)
      have h_referrersOf := h1633
      exact RET _ _ _ _ _ _ _ HX1635 dX6_file_131 (⟨rfl, (fun A hok hc => by (obtain ⟨p, hp, eq, ix, ep⟩ := hc.find1 hf_q1626; rw [fb_filA_s ix, fb_filP_8 c_16_8]; rw [ep]; exact h_referrersOf.trans (hc.refs (by rw [← ep]; exact hok.npos hp))))⟩)
    by_cases c_16_9 : a2 = (9 : Int32)
    · refine lv_tableIn (off := 116) (tgt := 132) hx hb dX6_file_16 (by rw [c_16_9]; decide) (by rw [c_16_9]; decide) (by rw [c_16_9]; decide) (by decide) ?_
      refine lv_aload_n hx hb dX6_file_132 rfl (lv_at hl 1 rfl) ?_
      refine fa_getr (k := 0) (j := 1) CX HX1625 fl_X6_10 (by omega) rfl rfl (fa_CI.A hC).1 dX6_file_133 ?_
      refine fa_getr (k := 1) (j := 1 + 2) CX HX1625 fl_X6_152 (fa_lt (by decide) 0 (by decide) hn) (fa_s0 (by decide)) rfl (fa_CI.S hC 1 (by decide)).1.2.1 dX6_file_136 ?_
      refine lv_iload_n hx hb dX6_file_139 rfl (lv_at hl 2 rfl) ?_
      refine fa_callVip (As := [.int (a1)]) (rest := []) CX HX1625 (g_numberFor l G n hn v r 1 (by decide) (fa_CI.S hC 1 (by decide)).1 (fa_CI.S hC 1 (by decide)).2 (a1) ) ln_X6_207 (fa_lt (by decide) 2 (by decide) hn) (fa_s2 (by decide)) rfl rfl rfl (Nat.le_of_ble_eq_true rfl) hl.1 ⟨Nat.le_of_ble_eq_true rfl, Nat.le_of_ble_eq_true rfl⟩ ⟨Nat.le_refl _, Nat.le_refl _⟩ dX6_file_140 (fun x1637 H locs h1636 HX1638 => ?_)
      have h_numberFor := h1636
      exact RET _ _ _ _ _ _ _ HX1638 dX6_file_143 (⟨rfl, (fun A hok hc => by (obtain ⟨p, hp, eq, ix, ep⟩ := hc.find1 hf_q1626; rw [fb_filA_s ix, fb_filP_9 c_16_9]; rw [ep]; exact h_numberFor.trans (hc.2.2.2.2.1.nres a1)))⟩)
    have hout_16 : (a2).toInt < 0 ∨ 9 < (a2).toInt := by
      have z0 := lv_neT (a := 0) c_16_0 (by decide)
      have z1 := lv_neT (a := 1) c_16_1 (by decide)
      have z2 := lv_neT (a := 2) c_16_2 (by decide)
      have z3 := lv_neT (a := 3) c_16_3 (by decide)
      have z4 := lv_neT (a := 4) c_16_4 (by decide)
      have z5 := lv_neT (a := 5) c_16_5 (by decide)
      have z6 := lv_neT (a := 6) c_16_6 (by decide)
      have z7 := lv_neT (a := 7) c_16_7 (by decide)
      have z8 := lv_neT (a := 8) c_16_8 (by decide)
      have z9 := lv_neT (a := 9) c_16_9 (by decide)
      omega
    refine lv_tableOut (tgt := 144) hx hb dX6_file_16 hout_16 (by decide) ?_
    refine lv_bipush (v := (-2 : Int32)) hx hb dX6_file_144 (by decide) ?_
    exact RET _ _ _ _ _ _ _ HX1625 dX6_file_146 (⟨rfl, (fun A hok hc => by (obtain ⟨p, hp, eq, ix, ep⟩ := hc.find1 hf_q1626; rw [fb_filA_s ix, fb_filP_o c_16_0 c_16_1 c_16_2 c_16_3 c_16_4 c_16_5 c_16_6 c_16_7 c_16_8 c_16_9]))⟩)
set_option maxHeartbeats 4000000 in
set_option maxRecDepth 100000 in
theorem g_sealOf (l : Launch) (G : fa_G) (n : Nat) (hn : 397 ≤ n) (v : fa_V) (r : fa_R) (hC : fa_CI v r) (a1 : Int32) (a2 : Int32) : fa_MI l G n yX6_sealOf cX6_sealOf 5 (some .int) 3 [.ref (fa_B G + (0)), .int (a1), .int (a2)] v r (fun x w => w = (v, r) ∧ (∀ A, fb_okA A → fb_cA v r 1 A → x = fb_sloA A a1 a2)) := by
  refine fa_startI (by decide +kernel) (Nat.le_of_ble_eq_true rfl) (fun p e s m args below meth c ls Q CX hl HX RET => ?_)
  have hl : lv_has ls 5 [(0, .ref (fa_B G + (0))), (1, .int (a1)), (2, .int (a2))] := hl
  have hx := CX.1.1
  have hb := CX.1.2.1
  have hB : (1 : Nat) ∈ fa_bs := by decide
  refine lv_aload_n hx hb dX6_sealOf_0 rfl (lv_at hl 0 rfl) ?_
  refine fa_getr (k := 0) (j := 1) CX HX fl_X6_10 (by omega) rfl rfl (fa_CI.A hC).1 dX6_sealOf_1 ?_
  refine lv_iload_n hx hb dX6_sealOf_4 rfl (lv_at hl 2 rfl) ?_
  refine fa_callVrp (As := [.int (a2)]) (rest := []) CX HX (g_find l G n hn v r 1 (by decide) (fa_CI.S hC 1 (by decide)).1 (fa_CI.S hC 1 (by decide)).2 (a2) ) ln_X6_175 (fa_lt (by decide) 0 (by decide) hn) (fa_s0 (by decide)) rfl rfl rfl (Nat.le_of_ble_eq_true rfl) hl.1 ⟨Nat.le_of_ble_eq_true rfl, Nat.le_of_ble_eq_true rfl⟩ ⟨Nat.le_refl _, Nat.le_refl _⟩ dX6_sealOf_5 (fun H locs h1639 HX1640 => ?_) (fun q1641 H locs h1639 HX1640 => ?_)
  · have hf_none := h1639.2 rfl
    refine lv_astore_nN (lv' := [(3, .null), (0, .ref (fa_B G + (0))), (1, .int (a1)), (2, .int (a2))]) hx hb dX6_sealOf_8 rfl hl (by decide) rfl (fun ls hl => ?_)
    refine lv_iload_n hx hb dX6_sealOf_9 rfl (lv_at hl 2 rfl) ?_
    refine fa_callSip (As := [.int (a1)]) (rest := []) CX HX1640 (c_X6_isNoHolder l G n v r (a1)) ln_X6_210 rfl rfl (Nat.le_of_ble_eq_true rfl) hl.1 ⟨Nat.le_of_ble_eq_true rfl, Nat.le_of_ble_eq_true rfl⟩ ⟨Nat.le_refl _, Nat.le_refl _⟩ dX6_sealOf_10 (fun x1643 H locs h1642 HX1644 => ?_)
    have h_ns := h1642
    refine lv_if_ne (tgt := 20) hx hb dX6_sealOf_13 (by decide) (fun c_13 => ?_) (fun c_13 => ?_)
    · refine lv_iconst (v := (-1 : Int32)) hx hb dX6_sealOf_20 (by decide) ?_
      exact RET _ _ _ _ _ _ _ HX1644 dX6_sealOf_21 (⟨rfl, (fun A hok hc => (fb_sloA_n (hc.find0 hf_none)).symm)⟩)
    · obtain ⟨jh, hjh, ejh⟩ := fa_ix7 (by decide) (fa_ifn h_ns (by first | exact c_13 | exact Decidable.not_not.mp c_13))
      refine lv_aload_nN hx hb dX6_sealOf_16 rfl (lv_at hl 0 rfl) ?_
      refine lv_ifnonnullN hx hb dX6_sealOf_17 ?_
      refine lv_iconst (v := (-1 : Int32)) hx hb dX6_sealOf_20 (by decide) ?_
      exact RET _ _ _ _ _ _ _ HX1644 dX6_sealOf_21 (⟨rfl, (fun A hok hc => (fb_sloA_n (hc.find0 hf_none)).symm)⟩)
  · have hf_q1641 := h1639.1 q1641 rfl
    have hq1641 := hf_q1641.1
    have hiq1641 := fa_isF_in hq1641
    refine lv_astore_n (lv' := [(3, .ref (fa_B G + (q1641))), (0, .ref (fa_B G + (0))), (1, .int (a1)), (2, .int (a2))]) hx hb dX6_sealOf_8 rfl hl (by decide) rfl (fun ls hl => ?_)
    refine lv_iload_n hx hb dX6_sealOf_9 rfl (lv_at hl 2 rfl) ?_
    refine fa_callSip (As := [.int (a1)]) (rest := []) CX HX1640 (c_X6_isNoHolder l G n v r (a1)) ln_X6_210 rfl rfl (Nat.le_of_ble_eq_true rfl) hl.1 ⟨Nat.le_of_ble_eq_true rfl, Nat.le_of_ble_eq_true rfl⟩ ⟨Nat.le_refl _, Nat.le_refl _⟩ dX6_sealOf_10 (fun x1646 H locs h1645 HX1647 => ?_)
    have h_ns := h1645
    refine lv_if_ne (tgt := 20) hx hb dX6_sealOf_13 (by decide) (fun c_13 => ?_) (fun c_13 => ?_)
    · refine lv_iconst (v := (-1 : Int32)) hx hb dX6_sealOf_20 (by decide) ?_
      exact RET _ _ _ _ _ _ _ HX1647 dX6_sealOf_21 (⟨rfl, (fun A hok hc => by (obtain ⟨p, hp, eq, ix, ep⟩ := hc.find1 hf_q1641; rw [fb_sloA_h ix (fa_ift h_ns (by first | exact c_13 | exact Decidable.not_not.mp c_13))]))⟩)
    · obtain ⟨jh, hjh, ejh⟩ := fa_ix7 (by decide) (fa_ifn h_ns (by first | exact c_13 | exact Decidable.not_not.mp c_13))
      refine lv_aload_n hx hb dX6_sealOf_16 rfl (lv_at hl 0 rfl) ?_
      refine lv_ifnonnull (tgt := 22) hx hb dX6_sealOf_17 (by decide) ?_
      refine lv_aload_n hx hb dX6_sealOf_22 rfl (lv_at hl 0 rfl) ?_
      refine fa_getr (k := q1641) (j := q1641 + 1) CX HX1647 fl_X6_213 (fa_isF_lt hB hq1641 hn) (fa_isF_sh hB hq1641) rfl (fa_isF_ref (fa_CI.S hC 1 (by decide)).1 hq1641) dX6_sealOf_23 ?_
      refine lv_iload_n hx hb dX6_sealOf_26 rfl (lv_at hl 2 rfl) ?_
      rw [show a1 = nI (jh) from ejh]
      refine fa_iald (k := q1641 + 1) (j := jh) CX HX1647 (fa_isF_lt1 hB hq1641 hn) (fa_isF_sh1 hB hq1641) (by omega) (by first | decide | assumption) dX6_sealOf_27 ?_
      refine lv_istore (lv' := [(4, .int (v (q1641 + 1) jh)), (3, .ref (fa_B G + (q1641))), (0, .ref (fa_B G + (0))), (1, .int (a1)), (2, .int (a2))]) hx hb dX6_sealOf_28 hl (by decide) rfl (fun ls hl => ?_)
      refine lv_iload hx hb dX6_sealOf_30 (lv_at hl 0 rfl) ?_
      refine lv_iconst (v := (-1 : Int32)) hx hb dX6_sealOf_32 (by decide) ?_
      refine lv_icmp_ne (tgt := 41) hx hb dX6_sealOf_33 (by decide) (fun c_33 => ?_) (fun c_33 => ?_)
      · refine lv_iload hx hb dX6_sealOf_41 (lv_at hl 0 rfl) ?_
        exact RET _ _ _ _ _ _ _ HX1647 dX6_sealOf_43 (⟨rfl, (fun A hok hc => by (obtain ⟨p, hp, eq, ix, ep⟩ := hc.find1 hf_q1641; rw [fb_sloA_s ix (fa_ifn h_ns (by first | exact c_13 | exact Decidable.not_not.mp c_13)) ejh hjh, if_neg (fun y => c_33 (by rw [← hc.s hp hjh, ← eq] at y; exact fb_m1 y)), ← hc.s hp hjh, ← eq, Int32.add_sub_cancel]))⟩)
      · refine lv_bipush (v := (-6 : Int32)) hx hb dX6_sealOf_36 (by decide) ?_
        refine lv_goto (tgt := 43) hx hb dX6_sealOf_38 (by decide) ?_
        exact RET _ _ _ _ _ _ _ HX1647 dX6_sealOf_43 (⟨rfl, (fun A hok hc => by (obtain ⟨p, hp, eq, ix, ep⟩ := hc.find1 hf_q1641; rw [fb_sloA_s ix (fa_ifn h_ns (by first | exact c_13 | exact Decidable.not_not.mp c_13)) ejh hjh, if_pos (by rw [← hc.s hp hjh, ← eq, show v (_ + 1) jh = (-1 : Int32) from (by first | exact c_33 | exact Decidable.not_not.mp c_33)]; decide)]))⟩)
set_option maxHeartbeats 4000000 in
set_option maxRecDepth 100000 in
theorem g_trace (l : Launch) (G : fa_G) (n : Nat) (hn : 397 ≤ n) (v : fa_V) (r : fa_R) (hC : fa_CI v r) (a1 : Int32) (a2 : Int32) : fa_MI l G n yX6_trace cX6_trace 3 (some .int) 3 [.ref (fa_B G + (0)), .int (a1), .int (a2)] v r (fun x w => w = (v, r) ∧ (∀ A, fb_okA A → fb_cA v r 1 A → x = fb_trcA A a1 a2)) := by
  refine fa_startI (by decide +kernel) (Nat.le_of_ble_eq_true rfl) (fun p e s m args below meth c ls Q CX hl HX RET => ?_)
  have hl : lv_has ls 3 [(0, .ref (fa_B G + (0))), (1, .int (a1)), (2, .int (a2))] := hl
  have hx := CX.1.1
  have hb := CX.1.2.1
  have hB : (1 : Nat) ∈ fa_bs := by decide
  obtain ⟨n0, en0⟩ : ∃ n0, n0 = fa_N (v 1 1) := ⟨_, rfl⟩
  obtain ⟨hn0, h1⟩ := (fa_CI.S hC 1 (by decide)).2.n1 en0
  obtain ⟨n2, en2⟩ : ∃ n2, n2 = fa_N (v (1 + 2) 0) := ⟨_, rfl⟩
  obtain ⟨hn2, h2⟩ := (fa_CI.S hC 1 (by decide)).2.n2 en2
  obtain ⟨n5, en5⟩ : ∃ n5, n5 = fa_N (v (1 + 5) 0) := ⟨_, rfl⟩
  obtain ⟨hn5, h5⟩ := (fa_CI.S hC 1 (by decide)).2.n5 en5
  refine lv_iload_n hx hb dX6_trace_0 rfl (lv_at hl 1 rfl) ?_
  refine lv_if_lt (tgt := 13) hx hb dX6_trace_1 (by decide) (fun c_1 => ?_) (fun c_1 => ?_)
  · refine lv_bipush (v := (-2 : Int32)) hx hb dX6_trace_13 (by decide) ?_
    exact RET _ _ _ _ _ _ _ HX dX6_trace_15 (⟨rfl, (fun A hok hc => (fb_trc0 (Or.inl c_1)).symm)⟩)
  · refine lv_iload_n hx hb dX6_trace_4 rfl (lv_at hl 2 rfl) ?_
    refine lv_if_lt (tgt := 13) hx hb dX6_trace_5 (by decide) (fun c_5 => ?_) (fun c_5 => ?_)
    · refine lv_bipush (v := (-2 : Int32)) hx hb dX6_trace_13 (by decide) ?_
      exact RET _ _ _ _ _ _ _ HX dX6_trace_15 (⟨rfl, (fun A hok hc => (fb_trc0 (Or.inr (Or.inl c_5))).symm)⟩)
    · refine lv_iload_n hx hb dX6_trace_8 rfl (lv_at hl 2 rfl) ?_
      refine lv_iconst (v := nI (5)) hx hb dX6_trace_9 (by decide) ?_
      refine lv_icmp_lt (tgt := 16) hx hb dX6_trace_10 (by decide) (fun c_10 => ?_) (fun c_10 => ?_)
      · refine lv_iload_n hx hb dX6_trace_16 rfl (lv_at hl 1 rfl) ?_
        refine lv_aload_n hx hb dX6_trace_17 rfl (lv_at hl 0 rfl) ?_
        refine fa_getr (k := 0) (j := 1) CX HX fl_X6_10 (by omega) rfl rfl (fa_CI.A hC).1 dX6_trace_18 ?_
        refine fa_getr (k := 1) (j := 1 + 5) CX HX fl_X6_159 (fa_lt (by decide) 0 (by decide) hn) (fa_s0 (by decide)) rfl (fa_CI.S hC 1 (by decide)).1.2.2.1 dX6_trace_21 ?_
        refine fa_geti (k := 1 + 5) CX HX fl_X6_163 (fa_lt (by decide) 5 (by decide) hn) (fa_s5 (by decide)) rfl dX6_trace_24 ?_
        rw [show v (1 + 5) 0 = nI (n5) from h5]
        refine lv_icmp_ge (tgt := 45) hx hb dX6_trace_27 (by decide) (fun c_27 => ?_) (fun c_27 => ?_)
        · refine lv_bipush (v := (-6 : Int32)) hx hb dX6_trace_45 (by decide) ?_
          exact RET _ _ _ _ _ _ _ HX dX6_trace_47 (⟨rfl, (fun A hok hc => (fb_trc1 (fun z => z.elim c_1 (fun z => z.elim c_5 (fun z => z c_10))) (by rw [(show A.m = n5 from by rw [en5, hc.2.2.2.2.2.2.1, fa_N_nI (by have := hc.2.2.2.2.2.1; omega)])]; exact Int32.not_lt.mpr c_27)).symm)⟩)
        · refine lv_aload_n hx hb dX6_trace_30 rfl (lv_at hl 0 rfl) ?_
          refine fa_getr (k := 0) (j := 1) CX HX fl_X6_10 (by omega) rfl rfl (fa_CI.A hC).1 dX6_trace_31 ?_
          refine fa_getr (k := 1) (j := 1 + 5) CX HX fl_X6_159 (fa_lt (by decide) 0 (by decide) hn) (fa_s0 (by decide)) rfl (fa_CI.S hC 1 (by decide)).1.2.2.1 dX6_trace_34 ?_
          refine lv_iload_n hx hb dX6_trace_37 rfl (lv_at hl 1 rfl) ?_
          refine lv_iload_n hx hb dX6_trace_38 rfl (lv_at hl 2 rfl) ?_
          refine fa_callVip (As := [.int (a1), .int (a2)]) (rest := []) CX HX (g_cellOf l G n hn v r 1 (by decide) (fa_CI.S hC 1 (by decide)).1 (fa_CI.S hC 1 (by decide)).2 (a1) (a2) ) ln_X6_217 (fa_lt (by decide) 5 (by decide) hn) (fa_s5 (by decide)) rfl rfl rfl (Nat.le_of_ble_eq_true rfl) hl.1 ⟨Nat.le_of_ble_eq_true rfl, Nat.le_of_ble_eq_true rfl⟩ ⟨Nat.le_refl _, Nat.le_refl _⟩ dX6_trace_39 (fun x1649 H locs h1648 HX1650 => ?_)
          have h_cellOf := h1648
          refine lv_goto (tgt := 47) hx hb dX6_trace_42 (by decide) ?_
          exact RET _ _ _ _ _ _ _ HX1650 dX6_trace_47 (⟨rfl, (fun A hok hc => by (obtain ⟨ja, hja, eja⟩ := fa_ixN (N := n5) (by omega) c_1 (Int32.not_le.mp c_27); obtain ⟨jb, hjb, ejb⟩ := fa_ixN (N := 5) (by decide) c_5 c_10; have em : A.m = n5 := (show A.m = n5 from by rw [en5, hc.2.2.2.2.2.2.1, fa_N_nI (by have := hc.2.2.2.2.2.1; omega)]); rw [fb_trc2 (fun z => z.elim c_1 (fun z => z.elim c_5 (fun z => z c_10))) eja ejb (by rw [em]; exact hja) hc.2.2.2.2.2.1 hjb, ← hc.2.2.2.2.2.2.2 _ _ (by omega) hjb, em]; have z := h_cellOf ja jb eja ejb (by rw [← en5]; exact hja) hjb; rw [← en5] at z; exact z))⟩)
      · refine lv_bipush (v := (-2 : Int32)) hx hb dX6_trace_13 (by decide) ?_
        exact RET _ _ _ _ _ _ _ HX dX6_trace_15 (⟨rfl, (fun A hok hc => (fb_trc0 (Or.inr (Or.inr (c_10)))).symm)⟩)
set_option maxHeartbeats 4000000 in
set_option maxRecDepth 100000 in
theorem g_reservation (l : Launch) (G : fa_G) (n : Nat) (hn : 397 ≤ n) (v : fa_V) (r : fa_R) (hC : fa_CI v r) (a1 : Int32) (a2 : Int32) : fa_MI l G n yX6_reservation cX6_reservation 3 (some .int) 3 [.ref (fa_B G + (0)), .int (a1), .int (a2)] v r (fun x w => w = (v, r) ∧ (∀ A, fb_okA A → fb_cA v r 1 A → fb_rsvP A a1 a2 x)) := by
  refine fa_startI (by decide +kernel) (Nat.le_of_ble_eq_true rfl) (fun p e s m args below meth c ls Q CX hl HX RET => ?_)
  have hl : lv_has ls 3 [(0, .ref (fa_B G + (0))), (1, .int (a1)), (2, .int (a2))] := hl
  have hx := CX.1.1
  have hb := CX.1.2.1
  have hB : (1 : Nat) ∈ fa_bs := by decide
  obtain ⟨n0, en0⟩ : ∃ n0, n0 = fa_N (v 1 1) := ⟨_, rfl⟩
  obtain ⟨hn0, h1⟩ := (fa_CI.S hC 1 (by decide)).2.n1 en0
  obtain ⟨n2, en2⟩ : ∃ n2, n2 = fa_N (v (1 + 2) 0) := ⟨_, rfl⟩
  obtain ⟨hn2, h2⟩ := (fa_CI.S hC 1 (by decide)).2.n2 en2
  obtain ⟨n5, en5⟩ : ∃ n5, n5 = fa_N (v (1 + 5) 0) := ⟨_, rfl⟩
  obtain ⟨hn5, h5⟩ := (fa_CI.S hC 1 (by decide)).2.n5 en5
  refine lv_iload_n hx hb dX6_reservation_0 rfl (lv_at hl 1 rfl) ?_
  refine lv_if_lt (tgt := 13) hx hb dX6_reservation_1 (by decide) (fun c_1 => ?_) (fun c_1 => ?_)
  · refine lv_bipush (v := (-2 : Int32)) hx hb dX6_reservation_13 (by decide) ?_
    exact RET _ _ _ _ _ _ _ HX dX6_reservation_15 (⟨rfl, (fun A hok hc => fb_c_rsv0 (Or.inl c_1))⟩)
  · refine lv_iload_n hx hb dX6_reservation_4 rfl (lv_at hl 2 rfl) ?_
    refine lv_if_lt (tgt := 13) hx hb dX6_reservation_5 (by decide) (fun c_5 => ?_) (fun c_5 => ?_)
    · refine lv_bipush (v := (-2 : Int32)) hx hb dX6_reservation_13 (by decide) ?_
      exact RET _ _ _ _ _ _ _ HX dX6_reservation_15 (⟨rfl, (fun A hok hc => fb_c_rsv0 (Or.inr (Or.inl c_5)))⟩)
    · refine lv_iload_n hx hb dX6_reservation_8 rfl (lv_at hl 2 rfl) ?_
      refine lv_iconst (v := nI (1)) hx hb dX6_reservation_9 (by decide) ?_
      refine lv_icmp_le (tgt := 16) hx hb dX6_reservation_10 (by decide) (fun c_10 => ?_) (fun c_10 => ?_)
      · refine lv_iload_n hx hb dX6_reservation_16 rfl (lv_at hl 1 rfl) ?_
        refine lv_aload_n hx hb dX6_reservation_17 rfl (lv_at hl 0 rfl) ?_
        refine fa_getr (k := 0) (j := 1) CX HX fl_X6_10 (by omega) rfl rfl (fa_CI.A hC).1 dX6_reservation_18 ?_
        refine fa_getr (k := 1) (j := 1 + 2) CX HX fl_X6_152 (fa_lt (by decide) 0 (by decide) hn) (fa_s0 (by decide)) rfl (fa_CI.S hC 1 (by decide)).1.2.1 dX6_reservation_21 ?_
        refine fa_geti (k := 1 + 2) CX HX fl_X6_156 (fa_lt (by decide) 2 (by decide) hn) (fa_s2 (by decide)) rfl dX6_reservation_24 ?_
        rw [show v (1 + 2) 0 = nI (n2) from h2]
        refine lv_icmp_lt (tgt := 33) hx hb dX6_reservation_27 (by decide) (fun c_27 => ?_) (fun c_27 => ?_)
        · obtain ⟨ja, hja, eja⟩ := fa_ixN (by omega) c_1 c_27
          refine lv_iload_n hx hb dX6_reservation_33 rfl (lv_at hl 2 rfl) ?_
          refine lv_if_ne (tgt := 52) hx hb dX6_reservation_34 (by decide) (fun c_34 => ?_) (fun c_34 => ?_)
          · refine lv_aload_n hx hb dX6_reservation_52 rfl (lv_at hl 0 rfl) ?_
            refine fa_getr (k := 0) (j := 1) CX HX fl_X6_10 (by omega) rfl rfl (fa_CI.A hC).1 dX6_reservation_53 ?_
            refine fa_getr (k := 1) (j := 1 + 2) CX HX fl_X6_152 (fa_lt (by decide) 0 (by decide) hn) (fa_s0 (by decide)) rfl (fa_CI.S hC 1 (by decide)).1.2.1 dX6_reservation_56 ?_
            refine fa_getr (k := 1 + 2) (j := 1 + 4) CX HX fl_X6_222 (fa_lt (by decide) 2 (by decide) hn) (fa_s2 (by decide)) rfl (fa_CI.S hC 1 (by decide)).1.2.2.2.2.2.1 dX6_reservation_59 ?_
            refine lv_iload_n hx hb dX6_reservation_62 rfl (lv_at hl 1 rfl) ?_
            rw [show a1 = nI (ja) from eja]
            refine fa_iald (k := 1 + 4) (j := ja) CX HX (fa_lt (by decide) 4 (by decide) hn) (fa_s4 (by decide)) (by omega) (by first | decide | assumption) dX6_reservation_63 ?_
            exact RET _ _ _ _ _ _ _ HX dX6_reservation_64 (⟨rfl, (fun A hok hc => fb_c_rsv2 hc.2.2.2.2.1 (fun z => z.elim c_1 (fun z => z.elim c_5 (fun z => z c_10))) eja (by rw [← en2]; exact hja) (if_neg c_34).symm)⟩)
          · refine lv_aload_n hx hb dX6_reservation_37 rfl (lv_at hl 0 rfl) ?_
            refine fa_getr (k := 0) (j := 1) CX HX fl_X6_10 (by omega) rfl rfl (fa_CI.A hC).1 dX6_reservation_38 ?_
            refine fa_getr (k := 1) (j := 1 + 2) CX HX fl_X6_152 (fa_lt (by decide) 0 (by decide) hn) (fa_s0 (by decide)) rfl (fa_CI.S hC 1 (by decide)).1.2.1 dX6_reservation_41 ?_
            refine fa_getr (k := 1 + 2) (j := 1 + 3) CX HX fl_X6_220 (fa_lt (by decide) 2 (by decide) hn) (fa_s2 (by decide)) rfl (fa_CI.S hC 1 (by decide)).1.2.2.2.2.1 dX6_reservation_44 ?_
            refine lv_iload_n hx hb dX6_reservation_47 rfl (lv_at hl 1 rfl) ?_
            rw [show a1 = nI (ja) from eja]
            refine fa_iald (k := 1 + 3) (j := ja) CX HX (fa_lt (by decide) 3 (by decide) hn) (fa_s3 (by decide)) (by omega) (by first | decide | assumption) dX6_reservation_48 ?_
            refine lv_goto (tgt := 64) hx hb dX6_reservation_49 (by decide) ?_
            exact RET _ _ _ _ _ _ _ HX dX6_reservation_64 (⟨rfl, (fun A hok hc => fb_c_rsv2 hc.2.2.2.2.1 (fun z => z.elim c_1 (fun z => z.elim c_5 (fun z => z c_10))) eja (by rw [← en2]; exact hja) (if_pos (by first | exact c_34 | exact Decidable.not_not.mp c_34)).symm)⟩)
        · refine lv_bipush (v := (-6 : Int32)) hx hb dX6_reservation_30 (by decide) ?_
          exact RET _ _ _ _ _ _ _ HX dX6_reservation_32 (⟨rfl, (fun A hok hc => fb_c_rsv1 hc.2.2.2.2.1 (fun z => z.elim c_1 (fun z => z.elim c_5 (fun z => z c_10))) (by rw [show v (1 + 2) 0 = nI n2 from h2]; exact c_27))⟩)
      · refine lv_bipush (v := (-2 : Int32)) hx hb dX6_reservation_13 (by decide) ?_
        exact RET _ _ _ _ _ _ _ HX dX6_reservation_15 (⟨rfl, (fun A hok hc => fb_c_rsv0 (Or.inr (Or.inr (c_10))))⟩)
set_option maxHeartbeats 4000000 in
set_option maxRecDepth 100000 in
theorem g_setting (l : Launch) (G : fa_G) (n : Nat) (hn : 397 ≤ n) (v : fa_V) (r : fa_R) (hC : fa_CI v r) (a1 : Int32) : fa_MI l G n yX6_setting cX6_setting 2 (some .int) 3 [.ref (fa_B G + (0)), .int (a1)] v r (fun x w => w = (v, r) ∧ (∀ A, fb_okA A → fb_cA v r 1 A → x = fb_stgA A a1)) := by
  refine fa_startI (by decide +kernel) (Nat.le_of_ble_eq_true rfl) (fun p e s m args below meth c ls Q CX hl HX RET => ?_)
  have hl : lv_has ls 2 [(0, .ref (fa_B G + (0))), (1, .int (a1))] := hl
  have hx := CX.1.1
  have hb := CX.1.2.1
  have hB : (1 : Nat) ∈ fa_bs := by decide
  refine lv_iload_n hx hb dX6_setting_0 rfl (lv_at hl 1 rfl) ?_
  refine fa_callSip (As := [.int (a1)]) (rest := []) CX HX (c_X6_isNoSetting l G n v r (a1)) ln_X6_225 rfl rfl (Nat.le_of_ble_eq_true rfl) hl.1 ⟨Nat.le_of_ble_eq_true rfl, Nat.le_of_ble_eq_true rfl⟩ ⟨Nat.le_refl _, Nat.le_refl _⟩ dX6_setting_1 (fun x1652 H locs h1651 HX1653 => ?_)
  have h_ns := h1651
  refine lv_if_eq (tgt := 11) hx hb dX6_setting_4 (by decide) (fun c_4 => ?_) (fun c_4 => ?_)
  · obtain ⟨jh, hjh, ejh⟩ := fa_ix7 (by decide) (fa_ifn h_ns c_4)
    refine lv_aload_n hx hb dX6_setting_11 rfl (lv_at hl 0 rfl) ?_
    refine fa_getr (k := 0) (j := 1) CX HX1653 fl_X6_10 (by omega) rfl rfl (fa_CI.A hC).1 dX6_setting_12 ?_
    refine fa_getr (k := 1) (j := 1 + 7) CX HX1653 fl_X6_228 (fa_lt (by decide) 0 (by decide) hn) (fa_s0 (by decide)) rfl (fa_CI.S hC 1 (by decide)).1.2.2.2.1 dX6_setting_15 ?_
    refine lv_iload_n hx hb dX6_setting_18 rfl (lv_at hl 1 rfl) ?_
    rw [show a1 = nI (jh) from ejh]
    refine fa_iald (k := 1 + 7) (j := jh) CX HX1653 (fa_lt (by decide) 7 (by decide) hn) (fa_s7 (by decide)) (by omega) (by first | decide | assumption) dX6_setting_19 ?_
    exact RET _ _ _ _ _ _ _ HX1653 dX6_setting_20 (⟨rfl, (fun A hok hc => by (rw [fb_stgA, if_neg (fa_ifn h_ns c_4), ejh, fa_N_nI (by omega)]; exact hc.set hjh))⟩)
  · refine lv_iconst (v := (-1 : Int32)) hx hb dX6_setting_7 (by decide) ?_
    refine lv_goto (tgt := 20) hx hb dX6_setting_8 (by decide) ?_
    exact RET _ _ _ _ _ _ _ HX1653 dX6_setting_20 (⟨rfl, (fun A hok hc => by (rw [fb_stgA, if_pos (fa_ift h_ns c_4)]))⟩)
set_option maxHeartbeats 4000000 in
set_option maxRecDepth 100000 in
theorem g_meanAge (l : Launch) (G : fa_G) (n : Nat) (hn : 397 ≤ n) (v : fa_V) (r : fa_R) (hC : fa_CI v r) : fa_MF l G n yX6_meanAge cX6_meanAge 1 3 [.ref (fa_B G + (0))] v r (fun x w => w = (v, r) ∧ ((vf_n64 (FP.f2d x)) ∧ ∀ A, fb_okA A → fb_cA v r 1 A → x = fb_meanA A)) := by
  refine fa_startF (by decide +kernel) (Nat.le_of_ble_eq_true rfl) (fun p e s m args below meth c ls Q CX hl HX RET => ?_)
  have hl : lv_has ls 1 [(0, .ref (fa_B G + (0)))] := hl
  have hx := CX.1.1
  have hb := CX.1.2.1
  have hB : (1 : Nat) ∈ fa_bs := by decide
  obtain ⟨n0, en0⟩ : ∃ n0, n0 = fa_N (v 1 1) := ⟨_, rfl⟩
  obtain ⟨hn0, h1⟩ := (fa_CI.S hC 1 (by decide)).2.n1 en0
  obtain ⟨n2, en2⟩ : ∃ n2, n2 = fa_N (v (1 + 2) 0) := ⟨_, rfl⟩
  obtain ⟨hn2, h2⟩ := (fa_CI.S hC 1 (by decide)).2.n2 en2
  obtain ⟨n5, en5⟩ : ∃ n5, n5 = fa_N (v (1 + 5) 0) := ⟨_, rfl⟩
  obtain ⟨hn5, h5⟩ := (fa_CI.S hC 1 (by decide)).2.n5 en5
  refine lv_aload_n hx hb dX6_meanAge_0 rfl (lv_at hl 0 rfl) ?_
  refine fa_getr (k := 0) (j := 1) CX HX fl_X6_10 (by omega) rfl rfl (fa_CI.A hC).1 dX6_meanAge_1 ?_
  refine fa_geti (k := 1) CX HX fl_X6_128 (fa_lt (by decide) 0 (by decide) hn) (fa_s0 (by decide)) rfl dX6_meanAge_4 ?_
  rw [show v 1 1 = nI (n0) from h1]
  refine lv_if_ne (tgt := 12) hx hb dX6_meanAge_7 (by decide) (fun c_7 => ?_) (fun c_7 => ?_)
  · have hp1 : 1 ≤ n0 := by
      refine Nat.pos_of_ne_zero (fun z => c_7 ?_)
      rw [z]; decide
    refine lv_aload_n hx hb dX6_meanAge_12 rfl (lv_at hl 0 rfl) ?_
    refine fa_getr (k := 0) (j := 1) CX HX fl_X6_10 (by omega) rfl rfl (fa_CI.A hC).1 dX6_meanAge_13 ?_
    refine fa_callVip (As := []) (rest := []) CX HX (g_sumOfAges l G n hn v r 1 (by decide) (fa_CI.S hC 1 (by decide)).1 (fa_CI.S hC 1 (by decide)).2  ) ln_X6_231 (fa_lt (by decide) 0 (by decide) hn) (fa_s0 (by decide)) rfl rfl rfl (Nat.le_of_ble_eq_true rfl) hl.1 ⟨Nat.le_of_ble_eq_true rfl, Nat.le_of_ble_eq_true rfl⟩ ⟨Nat.le_refl _, Nat.le_refl _⟩ dX6_meanAge_16 (fun x1655 H locs h1654 HX1656 => ?_)
    have h_sumOfAges := h1654
    refine lv_i2f hx hb dX6_meanAge_19 ?_
    refine lv_aload_n hx hb dX6_meanAge_20 rfl (lv_at hl 0 rfl) ?_
    refine fa_getr (k := 0) (j := 1) CX HX1656 fl_X6_10 (by omega) rfl rfl (fa_CI.A hC).1 dX6_meanAge_21 ?_
    refine fa_geti (k := 1) CX HX1656 fl_X6_128 (fa_lt (by decide) 0 (by decide) hn) (fa_s0 (by decide)) rfl dX6_meanAge_24 ?_
    rw [show v 1 1 = nI (n0) from h1]
    refine lv_i2f hx hb dX6_meanAge_27 ?_
    refine lv_fdiv hx hb dX6_meanAge_28 (fa_fdiv_ok hp1 hn0).1 ?_
    exact RET _ _ _ _ _ _ _ HX1656 dX6_meanAge_29 (⟨rfl, ⟨(fa_fdiv_ok hp1 hn0).2, fun A hok hc => by (rw [fb_meanA, if_neg (show ¬ A.n = 0 from by rw [← hc.n, ← en0]; omega), ← hc.ages, ← hc.n, ← en0, h_sumOfAges, ← en0])⟩⟩)
  · refine lv_fconst0 hx hb dX6_meanAge_10 ?_
    exact RET _ _ _ _ _ _ _ HX dX6_meanAge_11 (⟨rfl, ⟨fa_f0_ok, fun A hok hc => by (rw [fb_meanA, if_pos (show A.n = 0 from by rw [← hc.n, ← en0]; exact Decidable.byContradiction (fun z => nI_ne0 (Nat.pos_of_ne_zero z) (by omega) (by first | exact c_7 | exact Decidable.not_not.mp c_7)))])⟩⟩)
set_option maxHeartbeats 4000000 in
set_option maxRecDepth 100000 in
theorem g_stays (l : Launch) (G : fa_G) (n : Nat) (hn : 397 ≤ n) (v : fa_V) (r : fa_R) (hC : fa_CI v r) (a1 : Int32) : fa_MI l G n yX6_stays cX6_stays 3 (some .int) 5 [.ref (fa_B G + (0)), .int (a1)] v r (fa_voi r (fun x v1 => (((fa_rsn 1 v v1) ∧ ∀ A, fb_okA A → fb_cA v r 1 A → x = fb_styA A a1 ∧ (¬ x = (-1 : Int32) → ∀ p, p < A.n → v1 (fa_pf r 1 p) 8 = fb_why A p)) ∧ fa_CI v1 r) ∧ (fa_fr (9) (57) v v1))) := by
  refine fa_startI (by decide +kernel) (Nat.le_of_ble_eq_true rfl) (fun p e s m args below meth c ls Q CX hl HX RET => ?_)
  have hl : lv_has ls 3 [(0, .ref (fa_B G + (0))), (1, .int (a1))] := hl
  have hx := CX.1.1
  have hb := CX.1.2.1
  have hB : (1 : Nat) ∈ fa_bs := by decide
  refine lv_aload_n hx hb dX6_stays_0 rfl (lv_at hl 0 rfl) ?_
  refine fa_getr (k := 0) (j := 1) CX HX fl_X6_10 (by omega) rfl rfl (fa_CI.A hC).1 dX6_stays_1 ?_
  refine lv_iload_n hx hb dX6_stays_4 rfl (lv_at hl 1 rfl) ?_
  refine fa_callVrp (As := [.int (a1)]) (rest := []) CX HX (g_find l G n hn v r 1 (by decide) (fa_CI.S hC 1 (by decide)).1 (fa_CI.S hC 1 (by decide)).2 (a1) ) ln_X6_175 (fa_lt (by decide) 0 (by decide) hn) (fa_s0 (by decide)) rfl rfl rfl (Nat.le_of_ble_eq_true rfl) hl.1 ⟨Nat.le_of_ble_eq_true rfl, Nat.le_of_ble_eq_true rfl⟩ ⟨Nat.le_refl _, Nat.le_refl _⟩ dX6_stays_5 (fun H locs h1657 HX1658 => ?_) (fun q1659 H locs h1657 HX1658 => ?_)
  · have hf_none := h1657.2 rfl
    refine lv_astore_nN (lv' := [(2, .null), (0, .ref (fa_B G + (0))), (1, .int (a1))]) hx hb dX6_stays_8 rfl hl (by decide) rfl (fun ls hl => ?_)
    refine lv_aload_nN hx hb dX6_stays_9 rfl (lv_at hl 0 rfl) ?_
    refine lv_ifnonnullN hx hb dX6_stays_10 ?_
    refine lv_iconst (v := (-1 : Int32)) hx hb dX6_stays_13 (by decide) ?_
    exact RET _ _ _ _ _ _ _ HX1658 dX6_stays_14 (⟨rfl, ⟨⟨⟨fa_rsn.rf, fun A hok hc => ⟨(fb_styA_n (hc.find0 hf_none)).symm, fun z => absurd rfl z⟩⟩, hC⟩, fa_fr.rf⟩⟩)
  · have hf_q1659 := h1657.1 q1659 rfl
    have hq1659 := hf_q1659.1
    have hiq1659 := fa_isF_in hq1659
    refine lv_astore_n (lv' := [(2, .ref (fa_B G + (q1659))), (0, .ref (fa_B G + (0))), (1, .int (a1))]) hx hb dX6_stays_8 rfl hl (by decide) rfl (fun ls hl => ?_)
    refine lv_aload_n hx hb dX6_stays_9 rfl (lv_at hl 0 rfl) ?_
    refine lv_ifnonnull (tgt := 15) hx hb dX6_stays_10 (by decide) ?_
    refine lv_aload_n hx hb dX6_stays_15 rfl (lv_at hl 1 rfl) ?_
    refine fa_getr (k := 0) (j := 1) CX HX1658 fl_X6_10 (by omega) rfl rfl (fa_CI.A hC).1 dX6_stays_16 ?_
    refine fa_callVvu (As := []) (rest := []) CX HX1658 (g_markReasons l G n hn v r 1 (by decide) (fa_CI.S hC 1 (by decide)).1 (fa_CI.S hC 1 (by decide)).2  ) ln_X6_234 (fa_lt (by decide) 0 (by decide) hn) (fa_s0 (by decide)) rfl rfl rfl (Nat.le_of_ble_eq_true rfl) hl.1 ⟨Nat.le_of_ble_eq_true rfl, Nat.le_of_ble_eq_true rfl⟩ ⟨Nat.le_refl _, Nat.le_refl _⟩ dX6_stays_19 (fun v1661 H locs h1660 HX1662 => ?_)
    have h_markReasons := h1660.1.1
    have h_mr2 := h1660.1.2
    have hC_v1661 : fa_CI v1661 r := fa_CI.st hC (by decide) (fa_rsn.IS h1660.1.1 (fa_CI.S hC 1 (by decide)).2) (fa_CI.S hC 1 (by decide)).1 (fa_fr.wide h1660.2 (by omega) (by omega)) (fun _ _ => rfl)
    refine lv_aload_n hx hb dX6_stays_22 rfl (lv_at hl 0 rfl) ?_
    refine fa_geti (k := q1659) CX HX1662 fl_X6_237 (fa_isF_lt hB hq1659 hn) (fa_isF_sh hB hq1659) rfl dX6_stays_23 ?_
    exact RET _ _ _ _ _ _ _ HX1662 dX6_stays_26 (⟨rfl, ⟨⟨⟨h_markReasons, fun A hok hc => by (obtain ⟨p, hp, eq, ix, -⟩ := hc.find1 hf_q1659; have z := h_mr2 A hok hc; exact ⟨by rw [eq, z p hp, fb_styA_s ix], fun _ => z⟩)⟩, hC_v1661⟩, (fa_fr.tr fa_fr.rf (fa_fr.wide h1660.2 (by omega) (by omega)))⟩⟩)
set_option maxHeartbeats 4000000 in
set_option maxRecDepth 100000 in
theorem g_keeper (l : Launch) (G : fa_G) (n : Nat) (hn : 397 ≤ n) (v : fa_V) (r : fa_R) (hC : fa_CI v r) (a1 : Int32) : fa_MI l G n yX6_keeper cX6_keeper 3 (some .int) 6 [.ref (fa_B G + (0)), .int (a1)] v r (fa_voi r (fun x v1 => (((fa_rsn 1 v v1) ∧ ∀ A, fb_okA A → fb_cA v r 1 A → x = fb_kprA A a1) ∧ fa_CI v1 r) ∧ (fa_fr (9) (57) v v1))) := by
  refine fa_startI (by decide +kernel) (Nat.le_of_ble_eq_true rfl) (fun p e s m args below meth c ls Q CX hl HX RET => ?_)
  have hl : lv_has ls 3 [(0, .ref (fa_B G + (0))), (1, .int (a1))] := hl
  have hx := CX.1.1
  have hb := CX.1.2.1
  have hB : (1 : Nat) ∈ fa_bs := by decide
  refine lv_aload_n hx hb dX6_keeper_0 rfl (lv_at hl 0 rfl) ?_
  refine lv_iload_n hx hb dX6_keeper_1 rfl (lv_at hl 1 rfl) ?_
  refine fa_callViu (As := [.int (a1)]) (rest := []) CX HX (g_stays l G n hn v r hC (a1)) ln_X6_240 (by omega) rfl rfl rfl rfl (Nat.le_of_ble_eq_true rfl) hl.1 ⟨Nat.le_of_ble_eq_true rfl, Nat.le_of_ble_eq_true rfl⟩ ⟨Nat.le_refl _, Nat.le_refl _⟩ dX6_keeper_2 (fun x1664 v1665 H locs h1663 HX1666 => ?_)
  have hC_v1665 := h1663.1.2
  have h_stays := h1663.1.1
  refine lv_istore_n (lv' := [(2, .int (x1664)), (0, .ref (fa_B G + (0))), (1, .int (a1))]) hx hb dX6_keeper_5 rfl hl (by decide) rfl (fun ls hl => ?_)
  refine lv_iload_n hx hb dX6_keeper_6 rfl (lv_at hl 0 rfl) ?_
  refine lv_iconst (v := (-1 : Int32)) hx hb dX6_keeper_7 (by decide) ?_
  refine lv_icmp_ne (tgt := 13) hx hb dX6_keeper_8 (by decide) (fun c_8 => ?_) (fun c_8 => ?_)
  · refine lv_iload_n hx hb dX6_keeper_13 rfl (lv_at hl 0 rfl) ?_
    refine lv_iconst (v := nI (4)) hx hb dX6_keeper_14 (by decide) ?_
    refine lv_icmp_ne (tgt := 29) hx hb dX6_keeper_15 (by decide) (fun c_15 => ?_) (fun c_15 => ?_)
    · refine lv_bipush (v := (-6 : Int32)) hx hb dX6_keeper_29 (by decide) ?_
      exact RET _ _ _ _ _ _ _ HX1666 dX6_keeper_31 (⟨rfl, ⟨⟨⟨h_stays.1, fun A hok hc => by (have z := h_stays.2 A hok hc; rw [fb_kprA, if_neg (by rw [← z.1]; exact c_8), if_neg (by rw [← z.1]; exact c_15)])⟩, hC_v1665⟩, (fa_fr.tr fa_fr.rf (fa_fr.wide h1663.2 (by omega) (by omega)))⟩⟩)
    · refine lv_aload_n hx hb dX6_keeper_18 rfl (lv_at hl 1 rfl) ?_
      refine fa_getr (k := 0) (j := 1) CX HX1666 fl_X6_10 (by omega) rfl rfl (fa_CI.A hC_v1665).1 dX6_keeper_19 ?_
      refine lv_iload_n hx hb dX6_keeper_22 rfl (lv_at hl 2 rfl) ?_
      refine fa_callVip (As := [.int (a1)]) (rest := []) CX HX1666 (g_lowestKeeperOf l G n hn v1665 r 1 (by decide) (fa_CI.S hC_v1665 1 (by decide)).1 (fa_CI.S hC_v1665 1 (by decide)).2 (a1) ) ln_X6_243 (fa_lt (by decide) 0 (by decide) hn) (fa_s0 (by decide)) rfl rfl rfl (Nat.le_of_ble_eq_true rfl) hl.1 ⟨Nat.le_of_ble_eq_true rfl, Nat.le_of_ble_eq_true rfl⟩ ⟨Nat.le_refl _, Nat.le_refl _⟩ dX6_keeper_23 (fun x1668 H locs h1667 HX1669 => ?_)
      have h_lowestKeeperOf := h1667
      refine lv_goto (tgt := 31) hx hb dX6_keeper_26 (by decide) ?_
      exact RET _ _ _ _ _ _ _ HX1669 dX6_keeper_31 (⟨rfl, ⟨⟨⟨h_stays.1, fun A hok hc => by (have z := h_stays.2 A hok hc; have e4 : fb_styA A a1 = nI 4 := (by rw [← z.1]; first | exact c_15 | exact Decidable.not_not.mp c_15); rw [fb_kprA, if_neg (by rw [← z.1]; exact c_8), if_pos e4]; exact fb_c_kpr hok (hc.rsn h_stays.1) (fb_sty4 hok e4) (z.2 c_8) h_lowestKeeperOf)⟩, hC_v1665⟩, (fa_fr.tr fa_fr.rf (fa_fr.wide h1663.2 (by omega) (by omega)))⟩⟩)
  · refine lv_iconst (v := (-1 : Int32)) hx hb dX6_keeper_11 (by decide) ?_
    exact RET _ _ _ _ _ _ _ HX1666 dX6_keeper_12 (⟨rfl, ⟨⟨⟨h_stays.1, fun A hok hc => by (have z := h_stays.2 A hok hc; rw [fb_kprA, if_pos (by rw [← z.1]; first | exact c_8 | exact Decidable.not_not.mp c_8)])⟩, hC_v1665⟩, (fa_fr.tr fa_fr.rf (fa_fr.wide h1663.2 (by omega) (by omega)))⟩⟩)
