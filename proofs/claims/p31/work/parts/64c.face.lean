set_option maxHeartbeats 4000000 in
set_option maxRecDepth 100000 in
theorem g_burntIn (l : Launch) (G : fa_G) (n : Nat) (hn : 397 ≤ n) (v : fa_V) (r : fa_R) (hC : fa_CI v r) (a1 : Int32) : fa_MI l G n yX6_burntIn cX6_burntIn 3 (some .int) 6 [.ref (fa_B G + (0)), .int (a1)] v r (fun x w => ((∀ k, ¬ k = 58 → w.2 k = r k) ∧ ∀ A d, fb_okA A → A.g 7 = nI d → d ≤ 6500 → fb_inj r 57 → fb_cA v r 1 A → fb_inj w.2 57 ∧ fc_bnP A a1 x) ∧ (fa_CI w.1 w.2) ∧ (fa_fr 57 113 v w.1) ∧ (∀ k, 395 ≤ k → w.2 k = r k)) := by
  refine fa_startI (by decide +kernel) (Nat.le_of_ble_eq_true rfl) (fun p e s m args below meth c ls Q CX hl HX RET => ?_)
  have hl : lv_has ls 3 [(0, .ref (fa_B G + (0))), (1, .int (a1))] := hl
  have hx := CX.1.1
  have hb := CX.1.2.1
  have hB : (1 : Nat) ∈ fa_bs := by decide
  refine lv_aload_n hx hb dX6_burntIn_0 rfl (lv_at hl 0 rfl) ?_
  refine fa_getr (k := 0) (j := 1) CX HX fl_X6_10 (by omega) rfl rfl (fa_CI.A hC).1 dX6_burntIn_1 ?_
  refine lv_iload_n hx hb dX6_burntIn_4 rfl (lv_at hl 1 rfl) ?_
  refine fa_callVrp (As := [.int (a1)]) (rest := []) CX HX (g_find l G n hn v r 1 (by decide) (fa_CI.S hC 1 (by decide)).1 (fa_CI.S hC 1 (by decide)).2 (a1) ) ln_X6_175 (fa_lt (by decide) 0 (by decide) hn) (fa_s0 (by decide)) rfl rfl rfl (Nat.le_of_ble_eq_true rfl) hl.1 ⟨Nat.le_of_ble_eq_true rfl, Nat.le_of_ble_eq_true rfl⟩ ⟨Nat.le_refl _, Nat.le_refl _⟩ dX6_burntIn_5 (fun H locs h1206 HX1207 => ?_) (fun q1208 H locs h1206 HX1207 => ?_)
  · have hf_none := h1206.2 rfl
    refine lv_ifnonnullN hx hb dX6_burntIn_8 ?_
    refine lv_iconst (v := (-1 : Int32)) hx hb dX6_burntIn_11 (by decide) ?_
    exact RET _ _ _ _ _ _ _ HX1207 dX6_burntIn_12 (⟨⟨(fun k hk => rfl), (fun A d hok h7 hd hi hc => ⟨hi, Or.inl ⟨hc.find0 hf_none, rfl⟩⟩)⟩, hC, fa_fr.rf, (fun k hk => rfl)⟩)
  · have hf_q1208 := h1206.1 q1208 rfl
    have hq1208 := hf_q1208.1
    have hiq1208 := fa_isF_in hq1208
    refine lv_ifnonnull (tgt := 13) hx hb dX6_burntIn_8 (by decide) ?_
    refine lv_aload_n hx hb dX6_burntIn_13 rfl (lv_at hl 0 rfl) ?_
    refine fa_getr (k := 0) (j := 57) CX HX1207 fl_X6_16 (by omega) rfl rfl (fa_CI.A hC).2.1 dX6_burntIn_14 ?_
    refine lv_aload_n hx hb dX6_burntIn_17 rfl (lv_at hl 0 rfl) ?_
    refine fa_getr (k := 0) (j := 1) CX HX1207 fl_X6_10 (by omega) rfl rfl (fa_CI.A hC).1 dX6_burntIn_18 ?_
    refine fa_callVvu (As := [.ref (fa_B G + (1))]) (rest := []) CX HX1207 (g_copyFrom l G n hn v r 57 (by decide) (fa_CI.S hC 57 (by decide)).1 1 (by decide) (fa_CI.S hC 1 (by decide)).1 (by omega) (fa_CI.S hC 57 (by decide)).2 (fa_CI.S hC 1 (by decide)).2) ln_X6_119 (fa_lt (by decide) 0 (by decide) hn) (fa_s0 (by decide)) rfl rfl rfl (Nat.le_of_ble_eq_true rfl) hl.1 ⟨Nat.le_of_ble_eq_true rfl, Nat.le_of_ble_eq_true rfl⟩ ⟨Nat.le_refl _, Nat.le_refl _⟩ dX6_burntIn_21 (fun v1210 H locs h1209 HX1211 => ?_)
    have h_copyFrom := h1209.1.2
    have hIS_v1210 : fa_IS v1210 57 := h1209.1.1
    have hC_v1210 : fa_CI v1210 r := fa_CI.st hC (by decide) hIS_v1210 (fa_CI.S hC 57 (by decide)).1 (fa_fr.wide h1209.2 (by omega) (by omega)) (fun _ _ => rfl)
    refine lv_iconst (v := nI (1)) hx hb dX6_burntIn_24 (by decide) ?_
    refine lv_istore_n (lv' := [(2, .int (nI (1))), (0, .ref (fa_B G + (0))), (1, .int (a1))]) hx hb dX6_burntIn_25 rfl hl (by decide) rfl (fun ls hl => ?_)
    have LOOP_26 : ∀ (fu : Nat) (j : Nat) (v1212 : fa_V) (r1213 : fa_R) (H : Heap) (locs : List Loc) (ls : Array Slot), 3001 - j < fu → (j ≤ 3001 ∧ fa_CI v1212 r1213 ∧ fa_fr 57 113 v v1212 ∧ (∀ k, ¬ k = 58 → r1213 k = r k) ∧ ∀ A d, fb_okA A → A.g 7 = nI d → d ≤ 6500 → fb_inj r 57 → fb_cA v r 1 A → fc_bnI A a1 v1212 r1213 j) → lv_has ls 3 [(0, .ref (fa_B G + (0))), (1, .int (a1)), (2, .int (nI (j)))] → fa_HX G (n) v1212 r1213 s H locs → W p l e (fa_rm 6) s m args below meth c H locs (0) (0) Q (F0 m 26 ls []) := by
      intro fu
      induction fu with
      | zero => intro j v1212 r1213 H locs ls hk; exact absurd hk (Nat.not_lt_zero _)
      | succ fu ih_26 =>
        intro j v1212 r1213 H locs ls hk_26 hi_26 hl HX1214
        refine lv_iload_n hx hb dX6_burntIn_26 rfl (lv_at hl 2 rfl) ?_
        refine lv_sipush (v := nI (3000)) hx hb dX6_burntIn_27 (by decide) ?_
        refine lv_icmp_gt (tgt := 62) hx hb dX6_burntIn_30 (by decide) (fun c_30 => ?_) (fun c_30 => ?_)
        · refine lv_bipush (v := (-6 : Int32)) hx hb dX6_burntIn_62 (by decide) ?_
          exact RET _ _ _ _ _ _ _ HX1214 dX6_burntIn_64 (⟨⟨(fun k hk => ((hi_26.2.2.2.1 k hk).trans rfl)), (fun A d hok h7 hd hi hc => by (have z := hi_26.2.2.2.2 A d hok h7 hd hi hc; exact ⟨z.2.1.2.1, Or.inr ⟨z.2.2 0 z.1, Or.inr rfl⟩⟩))⟩, hi_26.2.1, (fa_fr.tr fa_fr.rf (fa_fr.wide hi_26.2.2.1 (by omega) (by omega))), (fun k hk => ((hi_26.2.2.2.1 k (by omega)).trans rfl))⟩)
        · have hj : j ≤ 3000 := fa_nltN (by omega) (by omega) c_30
          refine lv_aload_n hx hb dX6_burntIn_33 rfl (lv_at hl 0 rfl) ?_
          refine fa_getr (k := 0) (j := 57) CX HX1214 fl_X6_16 (by omega) rfl rfl (fa_CI.A hi_26.2.1).2.1 dX6_burntIn_34 ?_
          refine fa_callVi (As := []) (rest := []) CX HX1214 (g_passDay l G n hn v1212 r1213 57 (by decide) (fa_CI.S hi_26.2.1 57 (by decide)).1 (fa_CI.S hi_26.2.1 57 (by decide)).2  ) ln_X6_246 (fa_lt (by decide) 0 (by decide) hn) (fa_s0 (by decide)) rfl rfl rfl (Nat.le_of_ble_eq_true rfl) hl.1 ⟨Nat.le_of_ble_eq_true rfl, Nat.le_of_ble_eq_true rfl⟩ ⟨Nat.le_refl _, Nat.le_refl _⟩ dX6_burntIn_37 (fun x1216 v1217 r1218 H locs h1215 HX1219 => ?_)
          dsimp only at h1215
          have hIS_v1217 := h1215.2.1
          have hr57_r1218 := h1215.2.2.1
          have hrr_r1218 := h1215.2.2.2.2
          have h_passDay := h1215.1
          have hC_v1217 : fa_CI v1217 r1218 := fa_CI.st hi_26.2.1 (by decide) hIS_v1217 hr57_r1218 (fa_fr.wide h1215.2.2.2.1 (by omega) (by omega)) h1215.2.2.2.2
          refine lv_if_le (tgt := 56) hx hb dX6_burntIn_40 (by decide) (fun c_40 => ?_) (fun c_40 => ?_)
          · refine lv_iinc (v := nI (j + 1)) (lv' := [(2, .int (nI (j + 1))), (0, .ref (fa_B G + (0))), (1, .int (a1))]) hx hb dX6_burntIn_56 hl (k := 2) rfl (nI_add (j) 1) (by decide) rfl (fun ls hl => ?_)
            refine lv_goto (tgt := 26) hx hb dX6_burntIn_59 (by decide) ?_
            exact ih_26 (j + 1) v1217 r1218 _ _ _ (by omega) (⟨by omega, hC_v1217, (fa_fr.tr (fa_fr.tr fa_fr.rf (fa_fr.wide hi_26.2.2.1 (by omega) (by omega))) (fa_fr.wide h1215.2.2.2.1 (by omega) (by omega))), (fun k hk => ((h1215.2.2.2.2 k (by omega)).trans ((hi_26.2.2.2.1 k hk).trans rfl))), (fun A d hok h7 hd hi hc => fc_bnI.no1 hok h7 hd hj (fc_bnI.s hok h7 hd (hi_26.2.2.2.2 A d hok h7 hd hi hc) hj h_passDay) c_40)⟩) (lv_sub hl [1, 2, 0] rfl) HX1219
          · refine lv_aload_n hx hb dX6_burntIn_43 rfl (lv_at hl 0 rfl) ?_
            refine fa_getr (k := 0) (j := 57) CX HX1219 fl_X6_16 (by omega) rfl rfl (fa_CI.A hC_v1217).2.1 dX6_burntIn_44 ?_
            refine lv_iload_n hx hb dX6_burntIn_47 rfl (lv_at hl 1 rfl) ?_
            refine fa_callVrp (As := [.int (a1)]) (rest := []) CX HX1219 (g_find l G n hn v1217 r1218 57 (by decide) (fa_CI.S hC_v1217 57 (by decide)).1 (fa_CI.S hC_v1217 57 (by decide)).2 (a1) ) ln_X6_175 (fa_lt (by decide) 0 (by decide) hn) (fa_s0 (by decide)) rfl rfl rfl (Nat.le_of_ble_eq_true rfl) hl.1 ⟨Nat.le_of_ble_eq_true rfl, Nat.le_of_ble_eq_true rfl⟩ ⟨Nat.le_refl _, Nat.le_refl _⟩ dX6_burntIn_48 (fun H locs h1220 HX1221 => ?_) (fun q1222 H locs h1220 HX1221 => ?_)
            · have hf_none := h1220.2 rfl
              refine lv_ifnonnullN hx hb dX6_burntIn_51 ?_
              refine lv_iload_n hx hb dX6_burntIn_54 rfl (lv_at hl 2 rfl) ?_
              exact RET _ _ _ _ _ _ _ HX1221 dX6_burntIn_55 (⟨⟨(fun k hk => ((h1215.2.2.2.2 k (by omega)).trans ((hi_26.2.2.2.1 k hk).trans rfl))), (fun A d hok h7 hd hi hc => by (have z := (fc_bnI.s hok h7 hd (hi_26.2.2.2.2 A d hok h7 hd hi hc) hj h_passDay); exact ⟨z.2.2.1.2.1, fc_bnI.yes hj z hf_none⟩))⟩, hC_v1217, (fa_fr.tr (fa_fr.tr fa_fr.rf (fa_fr.wide hi_26.2.2.1 (by omega) (by omega))) (fa_fr.wide h1215.2.2.2.1 (by omega) (by omega))), (fun k hk => ((h1215.2.2.2.2 k (by omega)).trans ((hi_26.2.2.2.1 k (by omega)).trans rfl)))⟩)
            · have hf_q1222 := h1220.1 q1222 rfl
              have hq1222 := hf_q1222.1
              have hiq1222 := fa_isF_in hq1222
              refine lv_ifnonnull (tgt := 56) hx hb dX6_burntIn_51 (by decide) ?_
              refine lv_iinc (v := nI (j + 1)) (lv' := [(2, .int (nI (j + 1))), (0, .ref (fa_B G + (0))), (1, .int (a1))]) hx hb dX6_burntIn_56 hl (k := 2) rfl (nI_add (j) 1) (by decide) rfl (fun ls hl => ?_)
              refine lv_goto (tgt := 26) hx hb dX6_burntIn_59 (by decide) ?_
              exact ih_26 (j + 1) v1217 r1218 _ _ _ (by omega) (⟨by omega, hC_v1217, (fa_fr.tr (fa_fr.tr fa_fr.rf (fa_fr.wide hi_26.2.2.1 (by omega) (by omega))) (fa_fr.wide h1215.2.2.2.1 (by omega) (by omega))), (fun k hk => ((h1215.2.2.2.2 k (by omega)).trans ((hi_26.2.2.2.1 k hk).trans rfl))), (fun A d hok h7 hd hi hc => fc_bnI.no2 (fc_bnI.s hok h7 hd (hi_26.2.2.2.2 A d hok h7 hd hi hc) hj h_passDay) hf_q1222)⟩) (lv_sub hl [1, 2, 0] rfl) HX1221
    exact LOOP_26 (3001 - 1 + 1) (1) v1210 r _ _ _ (Nat.lt_succ_self _) (⟨by omega, hC_v1210, (fa_fr.tr fa_fr.rf (fa_fr.wide h1209.2 (by omega) (by omega))), (fun k hk => rfl), (fun A d hok h7 hd hi hc => fc_bnI.start (h_copyFrom A hi hc) (by (obtain ⟨p, -, -, ei, -⟩ := hc.find1 hf_q1208; exact fb_ix_ne ei)))⟩) (lv_sub hl [1, 2, 0] rfl) HX1211
set_option maxHeartbeats 4000000 in
set_option maxRecDepth 100000 in
theorem g_ifPassed (l : Launch) (G : fa_G) (n : Nat) (hn : 397 ≤ n) (v : fa_V) (r : fa_R) (hC : fa_CI v r) (a1 : Int32) (a2 : Int32) : fa_MI l G n yX6_ifPassed cX6_ifPassed 4 (some .int) 6 [.ref (fa_B G + (0)), .int (a1), .int (a2)] v r (fun x w => ((∀ k, ¬ k = 58 → w.2 k = r k) ∧ ∀ A d, fb_okA A → A.g 7 = nI d → d ≤ 6500 → fb_inj r 57 → fb_cA v r 1 A → fb_inj w.2 57 ∧ ∀ ka, a1 = nI ka → 1 ≤ ka → ka ≤ 400 → (a2 = 0 → x = (fb_daysA A ka).2.g 9 - A.g 9) ∧ (a2 = 1 → x = (fb_daysA A ka).2.g 10 - A.g 10) ∧ (a2 = nI 2 → x = (fb_daysA A ka).2.g 11 - A.g 11)) ∧ (fa_CI w.1 w.2) ∧ (fa_fr 57 113 v w.1) ∧ (∀ k, 395 ≤ k → w.2 k = r k)) := by
  refine fa_startI (by decide +kernel) (Nat.le_of_ble_eq_true rfl) (fun p e s m args below meth c ls Q CX hl HX RET => ?_)
  have hl : lv_has ls 4 [(0, .ref (fa_B G + (0))), (1, .int (a1)), (2, .int (a2))] := hl
  have hx := CX.1.1
  have hb := CX.1.2.1
  have hB : (1 : Nat) ∈ fa_bs := by decide
  refine lv_iload_n hx hb dX6_ifPassed_0 rfl (lv_at hl 1 rfl) ?_
  refine lv_iconst (v := nI (1)) hx hb dX6_ifPassed_1 (by decide) ?_
  refine lv_icmp_lt (tgt := 21) hx hb dX6_ifPassed_2 (by decide) (fun c_2 => ?_) (fun c_2 => ?_)
  · refine lv_bipush (v := (-2 : Int32)) hx hb dX6_ifPassed_21 (by decide) ?_
    exact RET _ _ _ _ _ _ _ HX dX6_ifPassed_23 (⟨⟨(fun k hk => rfl), fun A d hok h7 hd hi hc => ⟨hi, fun ka e h1 h2 => absurd c_2 (by rw [e]; exact nI_nlt h1 (by omega))⟩⟩, hC, fa_fr.rf, (fun k hk => rfl)⟩)
  · refine lv_iload_n hx hb dX6_ifPassed_5 rfl (lv_at hl 1 rfl) ?_
    refine lv_sipush (v := nI (400)) hx hb dX6_ifPassed_6 (by decide) ?_
    refine lv_icmp_gt (tgt := 21) hx hb dX6_ifPassed_9 (by decide) (fun c_9 => ?_) (fun c_9 => ?_)
    · refine lv_bipush (v := (-2 : Int32)) hx hb dX6_ifPassed_21 (by decide) ?_
      exact RET _ _ _ _ _ _ _ HX dX6_ifPassed_23 (⟨⟨(fun k hk => rfl), fun A d hok h7 hd hi hc => ⟨hi, fun ka e h1 h2 => absurd c_9 (by rw [e]; exact nI_nlt h2 (by decide))⟩⟩, hC, fa_fr.rf, (fun k hk => rfl)⟩)
    · refine lv_iload_n hx hb dX6_ifPassed_12 rfl (lv_at hl 2 rfl) ?_
      refine lv_if_lt (tgt := 21) hx hb dX6_ifPassed_13 (by decide) (fun c_13 => ?_) (fun c_13 => ?_)
      · refine lv_bipush (v := (-2 : Int32)) hx hb dX6_ifPassed_21 (by decide) ?_
        exact RET _ _ _ _ _ _ _ HX dX6_ifPassed_23 (⟨⟨(fun k hk => rfl), fun A d hok h7 hd hi hc => ⟨hi, fun ka e h1 h2 => ⟨fun y => (absurd c_13 (by rw [y]; decide)), fun y => (absurd c_13 (by rw [y]; decide)), fun y => (absurd c_13 (by rw [y]; decide))⟩⟩⟩, hC, fa_fr.rf, (fun k hk => rfl)⟩)
      · refine lv_iload_n hx hb dX6_ifPassed_16 rfl (lv_at hl 2 rfl) ?_
        refine lv_iconst (v := nI (2)) hx hb dX6_ifPassed_17 (by decide) ?_
        refine lv_icmp_le (tgt := 24) hx hb dX6_ifPassed_18 (by decide) (fun c_18 => ?_) (fun c_18 => ?_)
        · obtain ⟨ka, hka1, hka, eka⟩ := fa_natIn (by decide) c_2 (Int32.not_lt.mp c_9)
          refine lv_aload_n hx hb dX6_ifPassed_24 rfl (lv_at hl 0 rfl) ?_
          refine fa_getr (k := 0) (j := 57) CX HX fl_X6_16 (by omega) rfl rfl (fa_CI.A hC).2.1 dX6_ifPassed_25 ?_
          refine lv_aload_n hx hb dX6_ifPassed_28 rfl (lv_at hl 0 rfl) ?_
          refine fa_getr (k := 0) (j := 1) CX HX fl_X6_10 (by omega) rfl rfl (fa_CI.A hC).1 dX6_ifPassed_29 ?_
          refine fa_callVvu (As := [.ref (fa_B G + (1))]) (rest := []) CX HX (g_copyFrom l G n hn v r 57 (by decide) (fa_CI.S hC 57 (by decide)).1 1 (by decide) (fa_CI.S hC 1 (by decide)).1 (by omega) (fa_CI.S hC 57 (by decide)).2 (fa_CI.S hC 1 (by decide)).2) ln_X6_119 (fa_lt (by decide) 0 (by decide) hn) (fa_s0 (by decide)) rfl rfl rfl (Nat.le_of_ble_eq_true rfl) hl.1 ⟨Nat.le_of_ble_eq_true rfl, Nat.le_of_ble_eq_true rfl⟩ ⟨Nat.le_refl _, Nat.le_refl _⟩ dX6_ifPassed_32 (fun v1224 H locs h1223 HX1225 => ?_)
          have h_copyFrom := h1223.1.2
          have hIS_v1224 : fa_IS v1224 57 := h1223.1.1
          have hC_v1224 : fa_CI v1224 r := fa_CI.st hC (by decide) hIS_v1224 (fa_CI.S hC 57 (by decide)).1 (fa_fr.wide h1223.2 (by omega) (by omega)) (fun _ _ => rfl)
          refine lv_iconst (v := nI (0)) hx hb dX6_ifPassed_35 (by decide) ?_
          refine lv_istore_n (lv' := [(3, .int (nI (0))), (0, .ref (fa_B G + (0))), (1, .int (a1)), (2, .int (a2))]) hx hb dX6_ifPassed_36 rfl hl (by decide) rfl (fun ls hl => ?_)
          have LOOP_37 : ∀ (fu : Nat) (j : Nat) (v1226 : fa_V) (r1227 : fa_R) (H : Heap) (locs : List Loc) (ls : Array Slot), ka - j < fu → (j ≤ ka ∧ fa_CI v1226 r1227 ∧ fa_fr 57 113 v v1226 ∧ (∀ k, ¬ k = 58 → r1227 k = r k) ∧ ∀ A d, fb_okA A → A.g 7 = nI d → d ≤ 6500 → fb_inj r 57 → fb_cA v r 1 A → fb_cA v1226 r1227 57 (fb_daysA A j).2) → lv_has ls 4 [(0, .ref (fa_B G + (0))), (1, .int (a1)), (2, .int (a2)), (3, .int (nI (j)))] → fa_HX G (n) v1226 r1227 s H locs → W p l e (fa_rm 6) s m args below meth c H locs (0) (0) Q (F0 m 37 ls []) := by
            intro fu
            induction fu with
            | zero => intro j v1226 r1227 H locs ls hk; exact absurd hk (Nat.not_lt_zero _)
            | succ fu ih_37 =>
              intro j v1226 r1227 H locs ls hk_37 hi_37 hl HX1228
              refine lv_iload_n hx hb dX6_ifPassed_37 rfl (lv_at hl 3 rfl) ?_
              refine lv_iload_n hx hb dX6_ifPassed_38 rfl (lv_at hl 1 rfl) ?_
              refine lv_icmp_ge (tgt := 56) hx hb dX6_ifPassed_39 (by decide) (fun c_39 => ?_) (fun c_39 => ?_)
              · have hjk : j = ka := by
                  rw [eka] at c_39
                  have := fa_leN (by omega) (by omega) c_39
                  omega
                refine lv_iload_n hx hb dX6_ifPassed_56 rfl (lv_at hl 2 rfl) ?_
                by_cases c_57_0 : a2 = (0 : Int32)
                · refine lv_lookup (off := 27) (tgt := 84) hx hb dX6_ifPassed_57 (by decide) (by rw [c_57_0]; decide) (by decide) ?_
                  refine lv_aload_n hx hb dX6_ifPassed_84 rfl (lv_at hl 0 rfl) ?_
                  refine fa_getr (k := 0) (j := 57) CX HX1228 fl_X6_16 (by omega) rfl rfl (fa_CI.A hi_37.2.1).2.1 dX6_ifPassed_85 ?_
                  refine fa_geti (k := 57) CX HX1228 fl_X6_137 (fa_lt (by decide) 0 (by decide) hn) (fa_s0 (by decide)) rfl dX6_ifPassed_88 ?_
                  refine lv_aload_n hx hb dX6_ifPassed_91 rfl (lv_at hl 0 rfl) ?_
                  refine fa_getr (k := 0) (j := 1) CX HX1228 fl_X6_10 (by omega) rfl rfl (fa_CI.A hi_37.2.1).1 dX6_ifPassed_92 ?_
                  refine fa_geti (k := 1) CX HX1228 fl_X6_137 (fa_lt (by decide) 0 (by decide) hn) (fa_s0 (by decide)) rfl dX6_ifPassed_95 ?_
                  refine lv_isub hx hb dX6_ifPassed_98 ?_
                  exact RET _ _ _ _ _ _ _ HX1228 dX6_ifPassed_99 (⟨⟨(fun k hk => ((hi_37.2.2.2.1 k hk).trans rfl)), fun A d hok h7 hd hi hc => by (have z := hi_37.2.2.2.2 A d hok h7 hd hi hc; rw [hjk] at z; exact ⟨z.2.1, fun ke e h1 h2 => (by (have ek : ka = ke := fa_nIinj (by omega) (by omega) (eka.symm.trans e); subst ek; exact ⟨fun y => (by rw [← z.gk 9 (by decide) (by decide), ← hc.gk 9 (by decide) (by decide), ← hi_37.2.2.1 1 (by omega)]), fun y => absurd (y.symm.trans c_57_0) (by decide), fun y => absurd (y.symm.trans c_57_0) (by decide)⟩))⟩)⟩, hi_37.2.1, (fa_fr.tr fa_fr.rf (fa_fr.wide hi_37.2.2.1 (by omega) (by omega))), (fun k hk => ((hi_37.2.2.2.1 k (by omega)).trans rfl))⟩)
                by_cases c_57_1 : a2 = (1 : Int32)
                · refine lv_lookup (off := 43) (tgt := 100) hx hb dX6_ifPassed_57 (by decide) (by rw [c_57_1]; decide) (by decide) ?_
                  refine lv_aload_n hx hb dX6_ifPassed_100 rfl (lv_at hl 0 rfl) ?_
                  refine fa_getr (k := 0) (j := 57) CX HX1228 fl_X6_16 (by omega) rfl rfl (fa_CI.A hi_37.2.1).2.1 dX6_ifPassed_101 ?_
                  refine fa_geti (k := 57) CX HX1228 fl_X6_140 (fa_lt (by decide) 0 (by decide) hn) (fa_s0 (by decide)) rfl dX6_ifPassed_104 ?_
                  refine lv_aload_n hx hb dX6_ifPassed_107 rfl (lv_at hl 0 rfl) ?_
                  refine fa_getr (k := 0) (j := 1) CX HX1228 fl_X6_10 (by omega) rfl rfl (fa_CI.A hi_37.2.1).1 dX6_ifPassed_108 ?_
                  refine fa_geti (k := 1) CX HX1228 fl_X6_140 (fa_lt (by decide) 0 (by decide) hn) (fa_s0 (by decide)) rfl dX6_ifPassed_111 ?_
                  refine lv_isub hx hb dX6_ifPassed_114 ?_
                  exact RET _ _ _ _ _ _ _ HX1228 dX6_ifPassed_115 (⟨⟨(fun k hk => ((hi_37.2.2.2.1 k hk).trans rfl)), fun A d hok h7 hd hi hc => by (have z := hi_37.2.2.2.2 A d hok h7 hd hi hc; rw [hjk] at z; exact ⟨z.2.1, fun ke e h1 h2 => (by (have ek : ka = ke := fa_nIinj (by omega) (by omega) (eka.symm.trans e); subst ek; exact ⟨fun y => absurd (y.symm.trans c_57_1) (by decide), fun y => (by rw [← z.gk 10 (by decide) (by decide), ← hc.gk 10 (by decide) (by decide), ← hi_37.2.2.1 1 (by omega)]), fun y => absurd (y.symm.trans c_57_1) (by decide)⟩))⟩)⟩, hi_37.2.1, (fa_fr.tr fa_fr.rf (fa_fr.wide hi_37.2.2.1 (by omega) (by omega))), (fun k hk => ((hi_37.2.2.2.1 k (by omega)).trans rfl))⟩)
                refine lv_lookup (off := 59) (tgt := 116) hx hb dX6_ifPassed_57 (by decide) (by show Op.lookupswitch.offset [(0, 27), (1, 43)] 59 _ = _; rw [lv_osw (k := 0) c_57_0 (by decide), lv_osw (k := 1) c_57_1 (by decide)]; rfl) (by decide) ?_
                refine lv_aload_n hx hb dX6_ifPassed_116 rfl (lv_at hl 0 rfl) ?_
                refine fa_getr (k := 0) (j := 57) CX HX1228 fl_X6_16 (by omega) rfl rfl (fa_CI.A hi_37.2.1).2.1 dX6_ifPassed_117 ?_
                refine fa_geti (k := 57) CX HX1228 fl_X6_143 (fa_lt (by decide) 0 (by decide) hn) (fa_s0 (by decide)) rfl dX6_ifPassed_120 ?_
                refine lv_aload_n hx hb dX6_ifPassed_123 rfl (lv_at hl 0 rfl) ?_
                refine fa_getr (k := 0) (j := 1) CX HX1228 fl_X6_10 (by omega) rfl rfl (fa_CI.A hi_37.2.1).1 dX6_ifPassed_124 ?_
                refine fa_geti (k := 1) CX HX1228 fl_X6_143 (fa_lt (by decide) 0 (by decide) hn) (fa_s0 (by decide)) rfl dX6_ifPassed_127 ?_
                refine lv_isub hx hb dX6_ifPassed_130 ?_
                exact RET _ _ _ _ _ _ _ HX1228 dX6_ifPassed_131 (⟨⟨(fun k hk => ((hi_37.2.2.2.1 k hk).trans rfl)), fun A d hok h7 hd hi hc => by (have z := hi_37.2.2.2.2 A d hok h7 hd hi hc; rw [hjk] at z; exact ⟨z.2.1, fun ke e h1 h2 => (by (have ek : ka = ke := fa_nIinj (by omega) (by omega) (eka.symm.trans e); subst ek; exact ⟨fun y => absurd y c_57_0, fun y => absurd y c_57_1, fun y => (by rw [← z.gk 11 (by decide) (by decide), ← hc.gk 11 (by decide) (by decide), ← hi_37.2.2.1 1 (by omega)])⟩))⟩)⟩, hi_37.2.1, (fa_fr.tr fa_fr.rf (fa_fr.wide hi_37.2.2.1 (by omega) (by omega))), (fun k hk => ((hi_37.2.2.2.1 k (by omega)).trans rfl))⟩)
              · have hj : j < ka := by
                  rw [eka] at c_39
                  exact fa_ltN (by omega) (by omega) c_39
                refine lv_aload_n hx hb dX6_ifPassed_42 rfl (lv_at hl 0 rfl) ?_
                refine fa_getr (k := 0) (j := 57) CX HX1228 fl_X6_16 (by omega) rfl rfl (fa_CI.A hi_37.2.1).2.1 dX6_ifPassed_43 ?_
                refine fa_callVi (As := []) (rest := []) CX HX1228 (g_passDay l G n hn v1226 r1227 57 (by decide) (fa_CI.S hi_37.2.1 57 (by decide)).1 (fa_CI.S hi_37.2.1 57 (by decide)).2  ) ln_X6_246 (fa_lt (by decide) 0 (by decide) hn) (fa_s0 (by decide)) rfl rfl rfl (Nat.le_of_ble_eq_true rfl) hl.1 ⟨Nat.le_of_ble_eq_true rfl, Nat.le_of_ble_eq_true rfl⟩ ⟨Nat.le_refl _, Nat.le_refl _⟩ dX6_ifPassed_46 (fun x1230 v1231 r1232 H locs h1229 HX1233 => ?_)
                dsimp only at h1229
                have hIS_v1231 := h1229.2.1
                have hr57_r1232 := h1229.2.2.1
                have hrr_r1232 := h1229.2.2.2.2
                have h_passDay := h1229.1
                have hC_v1231 : fa_CI v1231 r1232 := fa_CI.st hi_37.2.1 (by decide) hIS_v1231 hr57_r1232 (fa_fr.wide h1229.2.2.2.1 (by omega) (by omega)) h1229.2.2.2.2
                refine lv_pop hx hb dX6_ifPassed_49 rfl ?_
                refine lv_iinc (v := nI (j + 1)) (lv' := [(3, .int (nI (j + 1))), (0, .ref (fa_B G + (0))), (1, .int (a1)), (2, .int (a2))]) hx hb dX6_ifPassed_50 hl (k := 3) rfl (nI_add (j) 1) (by decide) rfl (fun ls hl => ?_)
                refine lv_goto (tgt := 37) hx hb dX6_ifPassed_53 (by decide) ?_
                exact ih_37 (j + 1) v1231 r1232 _ _ _ (by omega) (⟨by omega, hC_v1231, (fa_fr.tr (fa_fr.tr fa_fr.rf (fa_fr.wide hi_37.2.2.1 (by omega) (by omega))) (fa_fr.wide h1229.2.2.2.1 (by omega) (by omega))), (fun k hk => ((h1229.2.2.2.2 k (by omega)).trans ((hi_37.2.2.2.1 k hk).trans rfl))), (fun A d hok h7 hd hi hc => by (have y := hok.days h7 j (by omega); exact (h_passDay _ y.1 (by rw [y.2]; exact nI_lt (by omega) (by decide)) (hi_37.2.2.2.2 A d hok h7 hd hi hc)).2))⟩) (lv_sub hl [1, 2, 3, 0] rfl) HX1233
          exact LOOP_37 (ka - 0 + 1) (0) v1224 r _ _ _ (Nat.lt_succ_self _) (⟨by omega, hC_v1224, (fa_fr.tr fa_fr.rf (fa_fr.wide h1223.2 (by omega) (by omega))), (fun k hk => rfl), (fun A d hok h7 hd hi hc => h_copyFrom A hi hc)⟩) (lv_sub hl [1, 2, 3, 0] rfl) HX1225
        · refine lv_bipush (v := (-2 : Int32)) hx hb dX6_ifPassed_21 (by decide) ?_
          exact RET _ _ _ _ _ _ _ HX dX6_ifPassed_23 (⟨⟨(fun k hk => rfl), fun A d hok h7 hd hi hc => ⟨hi, fun ka e h1 h2 => ⟨fun y => (absurd (show a2 ≤ nI 2 by rw [y]; decide) c_18), fun y => (absurd (show a2 ≤ nI 2 by rw [y]; decide) c_18), fun y => (absurd (show a2 ≤ nI 2 by rw [y]; decide) c_18)⟩⟩⟩, hC, fa_fr.rf, (fun k hk => rfl)⟩)
