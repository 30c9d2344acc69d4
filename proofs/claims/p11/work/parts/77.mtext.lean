set_option maxHeartbeats 4000000 in
set_option maxRecDepth 100000 in
theorem r_isSign (l : Launch) (G : fa_G) (n : Nat) (hn : 406 ≤ n) (v : fa_V) (r : fa_R) (hM : fa_RM r) (n9 na no : Nat) (h9 : n9 ≤ 60) (hna : na ≤ n9) (hno : 2 * no ≤ na) (g9 : v 397 9 = nI n9) (gA : v 397 12 = nI na) (gO : v 397 11 = nI no) (a1 a2 : Int32) : fa_MI l G n yX7_isSign cX7_isSign 3 (some .boolean) 1 [.ref (fa_B G + (397)), .int (a1), .int (a2)] v r (fun x w => w = (v, r) ∧ (fa_bo x ∧ (¬ x = 0 → na < n9))) := by
  refine fa_startZ (by decide +kernel) (Nat.le_of_ble_eq_true rfl) (fun p e s m args below meth c ls Q CX hl HX RET => ?_)
  have hl : lv_has ls 3 [(0, .ref (fa_B G + (397))), (1, .int (a1)), (2, .int (a2))] := hl
  have hx := CX.1.1
  have hb := CX.1.2.1
  refine lv_aload_n hx hb dX7_isSign_0 rfl (lv_at hl 0 rfl) ?_
  refine fa_geti (k := 397) CX HX fl_X7_134 (by omega) rfl rfl dX7_isSign_1 ?_
  rw [show v 397 12 = nI (na) from gA]
  refine lv_aload_n hx hb dX7_isSign_4 rfl (lv_at hl 0 rfl) ?_
  refine fa_geti (k := 397) CX HX fl_X7_131 (by omega) rfl rfl dX7_isSign_5 ?_
  rw [show v 397 9 = nI (n9) from g9]
  refine lv_icmp_ge (tgt := 41) hx hb dX7_isSign_8 (by decide) (fun c_8 => ?_) (fun c_8 => ?_)
  · refine lv_iconst (v := nI (0)) hx hb dX7_isSign_41 (by decide) ?_
    exact RET _ _ _ _ _ _ _ HX dX7_isSign_42 (by decide) (⟨rfl, ⟨Or.inl rfl, fun z => absurd (by decide) z⟩⟩)
  · have hlt := fa_ltN (by omega) (by omega) c_8
    refine lv_aload_n hx hb dX7_isSign_11 rfl (lv_at hl 0 rfl) ?_
    refine fa_getr (k := 397) (j := 405) CX HX fl_X7_32 (by omega) rfl rfl hM.2.2.2.2.2.2.2 dX7_isSign_12 ?_
    refine lv_aload_n hx hb dX7_isSign_15 rfl (lv_at hl 0 rfl) ?_
    refine fa_geti (k := 397) CX HX fl_X7_134 (by omega) rfl rfl dX7_isSign_16 ?_
    rw [show v 397 12 = nI (na) from gA]
    refine fa_cald (k := 405) (j := na) CX HX (by omega) rfl (by omega) (by first | decide | assumption) dX7_isSign_19 ?_
    refine lv_iload_n hx hb dX7_isSign_20 rfl (lv_at hl 1 rfl) ?_
    refine lv_icmp_lt (tgt := 41) hx hb dX7_isSign_21 (by decide) (fun c_21 => ?_) (fun c_21 => ?_)
    · refine lv_iconst (v := nI (0)) hx hb dX7_isSign_41 (by decide) ?_
      exact RET _ _ _ _ _ _ _ HX dX7_isSign_42 (by decide) (⟨rfl, ⟨Or.inl rfl, fun z => absurd (by decide) z⟩⟩)
    · refine lv_aload_n hx hb dX7_isSign_24 rfl (lv_at hl 0 rfl) ?_
      refine fa_getr (k := 397) (j := 405) CX HX fl_X7_32 (by omega) rfl rfl hM.2.2.2.2.2.2.2 dX7_isSign_25 ?_
      refine lv_aload_n hx hb dX7_isSign_28 rfl (lv_at hl 0 rfl) ?_
      refine fa_geti (k := 397) CX HX fl_X7_134 (by omega) rfl rfl dX7_isSign_29 ?_
      rw [show v 397 12 = nI (na) from gA]
      refine fa_cald (k := 405) (j := na) CX HX (by omega) rfl (by omega) (by first | decide | assumption) dX7_isSign_32 ?_
      refine lv_iload_n hx hb dX7_isSign_33 rfl (lv_at hl 2 rfl) ?_
      refine lv_icmp_gt (tgt := 41) hx hb dX7_isSign_34 (by decide) (fun c_34 => ?_) (fun c_34 => ?_)
      · refine lv_iconst (v := nI (0)) hx hb dX7_isSign_41 (by decide) ?_
        exact RET _ _ _ _ _ _ _ HX dX7_isSign_42 (by decide) (⟨rfl, ⟨Or.inl rfl, fun z => absurd (by decide) z⟩⟩)
      · refine lv_iconst (v := nI (1)) hx hb dX7_isSign_37 (by decide) ?_
        refine lv_goto (tgt := 42) hx hb dX7_isSign_38 (by decide) ?_
        exact RET _ _ _ _ _ _ _ HX dX7_isSign_42 (by decide) (⟨rfl, ⟨Or.inr rfl, fun _ => hlt⟩⟩)
set_option maxHeartbeats 4000000 in
set_option maxRecDepth 100000 in
theorem r_accepts (l : Launch) (G : fa_G) (n : Nat) (hn : 406 ≤ n) (v : fa_V) (r : fa_R) (hM : fa_RM r) (n9 na no : Nat) (h9 : n9 ≤ 60) (hna : na ≤ n9) (hno : 2 * no ≤ na) (g9 : v 397 9 = nI n9) (gA : v 397 12 = nI na) (gO : v 397 11 = nI no) (a1 : Int32) : fa_MI l G n yX7_accepts cX7_accepts 3 (some .boolean) 2 [.ref (fa_B G + (397)), .int (a1)] v r (fa_voi r (fun x v1 => (fa_bo x ∧ ∃ m o, (na ≤ m ∧ m ≤ n9 ∧ 2 * o ≤ m ∧ (¬ x = 0 → na + 1 ≤ m) ∧ o = no) ∧ v1 397 12 = nI m ∧ v1 397 11 = nI o ∧ fa_f3 v v1) ∧ (fa_fr (397) (404) v v1))) := by
  refine fa_startZ (by decide +kernel) (Nat.le_of_ble_eq_true rfl) (fun p e s m args below meth c ls Q CX hl HX RET => ?_)
  have hl : lv_has ls 3 [(0, .ref (fa_B G + (397))), (1, .int (a1))] := hl
  have hx := CX.1.1
  have hb := CX.1.2.1
  refine lv_aload_n hx hb dX7_accepts_0 rfl (lv_at hl 0 rfl) ?_
  refine lv_iload_n hx hb dX7_accepts_1 rfl (lv_at hl 1 rfl) ?_
  refine lv_iload_n hx hb dX7_accepts_2 rfl (lv_at hl 1 rfl) ?_
  refine fa_callVip (As := [.int (a1), .int (a1)]) (rest := []) CX HX (r_isSign l G n hn v r hM (n9) (na) (no) (by omega) (by omega) (by omega) g9 gA gO (a1) (a1)) ln_X7_137 (by omega) rfl rfl rfl rfl (Nat.le_of_ble_eq_true rfl) hl.1 ⟨Nat.le_of_ble_eq_true rfl, Nat.le_of_ble_eq_true rfl⟩ ⟨Nat.le_refl _, Nat.le_refl _⟩ dX7_accepts_3 (fun x2125 H locs h2124 HX2126 => ?_)
  obtain ⟨hb_x2125, hs_x2125⟩ := h2124
  refine lv_istore_n (lv' := [(2, .int (x2125)), (0, .ref (fa_B G + (397))), (1, .int (a1))]) hx hb dX7_accepts_6 rfl hl (by decide) rfl (fun ls hl => ?_)
  refine lv_aload_n hx hb dX7_accepts_7 rfl (lv_at hl 1 rfl) ?_
  refine lv_dup hx hb dX7_accepts_8 rfl ?_
  refine fa_geti (k := 397) CX HX2126 fl_X7_134 (by omega) rfl rfl dX7_accepts_9 ?_
  rw [show v 397 12 = nI (na) from gA]
  refine lv_iload_n hx hb dX7_accepts_12 rfl (lv_at hl 0 rfl) ?_
  refine lv_if_eq (tgt := 20) hx hb dX7_accepts_13 (by decide) (fun c_13 => ?_) (fun c_13 => ?_)
  · refine lv_iconst (v := nI (0)) hx hb dX7_accepts_20 (by decide) ?_
    refine fa_iaddN hx hb dX7_accepts_21 ?_
    refine fa_puti (k := 397) CX HX2126 fl_X7_134 (by omega) rfl rfl rfl rfl dX7_accepts_22 (fun H locs v2127 e2128 HX2129 => ?_)
    refine lv_iload_n hx hb dX7_accepts_25 rfl (lv_at hl 0 rfl) ?_
    exact RET _ _ _ _ _ _ _ HX2129 dX7_accepts_26 hb_x2125.nar (⟨rfl, ⟨⟨hb_x2125, na + 0, no, ⟨by omega, by omega, by omega, fun z => (by first | (have := hs_x2125 z; omega) | exact absurd (by assumption) z), by omega⟩, (show v2127 397 12 = nI (na + 0) from (by rw [e2128, fa_u_s])), (show v2127 397 11 = nI (no) from (by rw [e2128, fa_u_n _ _ (by omega)]; exact gO)), (show fa_f3 v v2127 from (by rw [e2128]; exact fa_f3.w fa_f3.rf (by decide)))⟩, (by rw [e2128]; exact fa_fr.u fa_fr.rf (by omega))⟩⟩)
  · have hl_x2125 := hs_x2125 c_13
    refine lv_iconst (v := nI (1)) hx hb dX7_accepts_16 (by decide) ?_
    refine lv_goto (tgt := 21) hx hb dX7_accepts_17 (by decide) ?_
    refine fa_iaddN hx hb dX7_accepts_21 ?_
    refine fa_puti (k := 397) CX HX2126 fl_X7_134 (by omega) rfl rfl rfl rfl dX7_accepts_22 (fun H locs v2130 e2131 HX2132 => ?_)
    refine lv_iload_n hx hb dX7_accepts_25 rfl (lv_at hl 0 rfl) ?_
    exact RET _ _ _ _ _ _ _ HX2132 dX7_accepts_26 hb_x2125.nar (⟨rfl, ⟨⟨hb_x2125, na + 1, no, ⟨by omega, by omega, by omega, fun z => (by first | (have := hs_x2125 z; omega) | exact absurd (by assumption) z), by omega⟩, (show v2130 397 12 = nI (na + 1) from (by rw [e2131, fa_u_s])), (show v2130 397 11 = nI (no) from (by rw [e2131, fa_u_n _ _ (by omega)]; exact gO)), (show fa_f3 v v2130 from (by rw [e2131]; exact fa_f3.w fa_f3.rf (by decide)))⟩, (by rw [e2131]; exact fa_fr.u fa_fr.rf (by omega))⟩⟩)
set_option maxHeartbeats 4000000 in
set_option maxRecDepth 100000 in
theorem r_number (l : Launch) (G : fa_G) (n : Nat) (hn : 406 ≤ n) (v : fa_V) (r : fa_R) (hM : fa_RM r) (n9 na no : Nat) (h9 : n9 ≤ 60) (hna : na ≤ n9) (hno : 2 * no ≤ na) (g9 : v 397 9 = nI n9) (gA : v 397 12 = nI na) (gO : v 397 11 = nI no) (u : Nat) (a2 : Int32) (a3 : Int32) (hu : u < 4) : fa_MI l G n yX7_number cX7_number 6 (some .boolean) 3 [.ref (fa_B G + (397)), .int (nI (u)), .int (a2), .int (a3)] v r (fa_voi r (fun x v1 => (fa_bo x ∧ ∃ m o, (na ≤ m ∧ m ≤ n9 ∧ 2 * o ≤ m ∧ (¬ x = 0 → na + 1 ≤ m) ∧ o = no) ∧ v1 397 12 = nI m ∧ v1 397 11 = nI o ∧ fa_f3 v v1) ∧ (fa_fr (397) (404) v v1))) := by
  refine fa_startZ (by decide +kernel) (Nat.le_of_ble_eq_true rfl) (fun p e s m args below meth c ls Q CX hl HX RET => ?_)
  have hl : lv_has ls 6 [(0, .ref (fa_B G + (397))), (1, .int (nI (u))), (2, .int (a2)), (3, .int (a3))] := hl
  have hx := CX.1.1
  have hb := CX.1.2.1
  refine lv_iconst (v := nI (4)) hx hb dX7_number_0 (by decide) ?_
  refine lv_aload_n hx hb dX7_number_1 rfl (lv_at hl 0 rfl) ?_
  refine fa_geti (k := 397) CX HX fl_X7_141 (by omega) rfl rfl dX7_number_2 ?_
  rw [show v 397 11 = nI (no) from gO]
  refine fa_imulN hx hb dX7_number_5 ?_
  refine lv_iload_n hx hb dX7_number_6 rfl (lv_at hl 1 rfl) ?_
  refine fa_iaddN hx hb dX7_number_7 ?_
  refine lv_istore (lv' := [(4, .int (nI (4 * no + u))), (0, .ref (fa_B G + (397))), (1, .int (nI (u))), (2, .int (a2)), (3, .int (a3))]) hx hb dX7_number_8 hl (by decide) rfl (fun ls hl => ?_)
  refine lv_aload_n hx hb dX7_number_10 rfl (lv_at hl 1 rfl) ?_
  refine lv_iload_n hx hb dX7_number_11 rfl (lv_at hl 3 rfl) ?_
  refine lv_if_ne (tgt := 20) hx hb dX7_number_12 (by decide) (fun c_12 => ?_) (fun c_12 => ?_)
  · refine lv_bipush (v := nI (49)) hx hb dX7_number_20 (by decide) ?_
    refine lv_bipush (v := nI (57)) hx hb dX7_number_22 (by decide) ?_
    refine fa_callVip (As := [.int (nI (49)), .int (nI (57))]) (rest := []) CX HX (r_isSign l G n hn v r hM (n9) (na) (no) (by omega) (by omega) (by omega) g9 gA gO (nI (49)) (nI (57))) ln_X7_137 (by omega) rfl rfl rfl rfl (Nat.le_of_ble_eq_true rfl) hl.1 ⟨Nat.le_of_ble_eq_true rfl, Nat.le_of_ble_eq_true rfl⟩ ⟨Nat.le_refl _, Nat.le_refl _⟩ dX7_number_24 (fun x2134 H locs h2133 HX2135 => ?_)
    obtain ⟨hb_x2134, hs_x2134⟩ := h2133
    refine lv_if_ne (tgt := 32) hx hb dX7_number_27 (by decide) (fun c_27 => ?_) (fun c_27 => ?_)
    · have hl_x2134 := hs_x2134 c_27
      refine lv_aload_n hx hb dX7_number_32 rfl (lv_at hl 1 rfl) ?_
      refine fa_getr (k := 397) (j := 403) CX HX2135 fl_X7_26 (by omega) rfl rfl hM.2.2.2.2.2.1 dX7_number_33 ?_
      refine lv_iload hx hb dX7_number_36 (lv_at hl 0 rfl) ?_
      refine lv_aload_n hx hb dX7_number_38 rfl (lv_at hl 1 rfl) ?_
      refine fa_getr (k := 397) (j := 405) CX HX2135 fl_X7_32 (by omega) rfl rfl hM.2.2.2.2.2.2.2 dX7_number_39 ?_
      refine lv_aload_n hx hb dX7_number_42 rfl (lv_at hl 1 rfl) ?_
      refine fa_geti (k := 397) CX HX2135 fl_X7_134 (by omega) rfl rfl dX7_number_43 ?_
      rw [show v 397 12 = nI (na) from gA]
      refine fa_cald (k := 405) (j := na) CX HX2135 (by omega) rfl (by omega) (by first | decide | assumption) dX7_number_46 ?_
      refine lv_bipush (v := nI (48)) hx hb dX7_number_47 (by decide) ?_
      refine lv_isub hx hb dX7_number_49 ?_
      refine fa_iast (k := 403) (j := 4 * no + u) CX HX2135 (by omega) rfl (by omega) (by first | decide | assumption) dX7_number_50 (fun H locs v2136 e2137 HX2138 => ?_)
      refine lv_aload_n hx hb dX7_number_51 rfl (lv_at hl 1 rfl) ?_
      refine fa_getr (k := 397) (j := 403) CX HX2138 fl_X7_26 (by omega) rfl rfl hM.2.2.2.2.2.1 dX7_number_52 ?_
      refine lv_iload hx hb dX7_number_55 (lv_at hl 0 rfl) ?_
      refine fa_iald (k := 403) (j := 4 * no + u) CX HX2138 (by omega) rfl (by omega) (by first | decide | assumption) dX7_number_57 ?_
      refine lv_iload_n hx hb dX7_number_58 rfl (lv_at hl 4 rfl) ?_
      refine lv_icmp_gt (tgt := 66) hx hb dX7_number_59 (by decide) (fun c_59 => ?_) (fun c_59 => ?_)
      · refine lv_iconst (v := nI (0)) hx hb dX7_number_66 (by decide) ?_
        refine lv_istore (lv' := [(5, .int (nI (0))), (4, .int (nI (4 * no + u))), (0, .ref (fa_B G + (397))), (1, .int (nI (u))), (2, .int (a2)), (3, .int (a3))]) hx hb dX7_number_67 hl (by decide) rfl (fun ls hl => ?_)
        refine lv_aload_n hx hb dX7_number_69 rfl (lv_at hl 2 rfl) ?_
        refine lv_dup hx hb dX7_number_70 rfl ?_
        refine fa_geti (k := 397) CX HX2138 fl_X7_134 (by omega) rfl rfl dX7_number_71 ?_
        rw [show v2136 397 12 = nI (na) from (by rw [e2137, fa_u_n _ _ (by omega)]; exact gA)]
        refine lv_iload hx hb dX7_number_74 (lv_at hl 0 rfl) ?_
        refine lv_if_eq (tgt := 83) hx hb dX7_number_76 (by decide) (fun c_76 => ?_) (fun c_76 => ?_)
        · refine lv_iconst (v := nI (0)) hx hb dX7_number_83 (by decide) ?_
          refine fa_iaddN hx hb dX7_number_84 ?_
          refine fa_puti (k := 397) CX HX2138 fl_X7_134 (by omega) rfl rfl rfl rfl dX7_number_85 (fun H locs v2139 e2140 HX2141 => ?_)
          have LOOP_88 : ∀ (fu : Nat) (mt : Nat) (ok : Int32) (v2142 : fa_V) (H : Heap) (locs : List Loc) (ls : Array Slot), 61 - mt < fu → ((na ≤ mt ∧ mt ≤ n9) ∧ fa_bo ok ∧ (¬ ok = 0 → na + 1 ≤ mt) ∧ v2142 397 12 = nI mt ∧ v2142 397 11 = nI no ∧ fa_f3 v v2142) → lv_has ls 6 [(0, .ref (fa_B G + (397))), (1, .int (nI (u))), (2, .int (a2)), (3, .int (a3)), (4, .int (nI (4 * no + u))), (5, .int (ok))] → fa_HX G (n) v2142 r s H locs → W p l e (fa_rm 3) s m args below meth c H locs (0) (0) Q (F0 m 88 ls []) := by
            intro fu
            induction fu with
            | zero => intro mt ok v2142 H locs ls hk; exact absurd hk (Nat.not_lt_zero _)
            | succ fu ih_88 =>
              intro mt ok v2142 H locs ls hk_88 hi_88 hl HX2143
              refine lv_iload hx hb dX7_number_88 (lv_at hl 5 rfl) ?_
              refine lv_if_eq (tgt := 184) hx hb dX7_number_90 (by decide) (fun c_90 => ?_) (fun c_90 => ?_)
              · refine lv_iload hx hb dX7_number_184 (lv_at hl 5 rfl) ?_
                exact RET _ _ _ _ _ _ _ HX2143 dX7_number_186 hi_88.2.1.nar (⟨rfl, ⟨⟨hi_88.2.1, mt, no, ⟨by omega, by omega, by omega, fun z => (by first | (have := hi_88.2.2.1 z; omega) | exact absurd (by assumption) z), by omega⟩, (show v2142 397 12 = nI (mt) from hi_88.2.2.2.1), (show v2142 397 11 = nI (no) from hi_88.2.2.2.2.1), (show fa_f3 v v2142 from (fa_f3.tr fa_f3.rf hi_88.2.2.2.2.2))⟩, (fa_fr.tr fa_fr.rf (fa_fr.wide (fa_f3.fr hi_88.2.2.2.2.2) (by omega) (by omega)))⟩⟩)
              · have hl_ok := hi_88.2.2.1 c_90
                refine lv_aload_n hx hb dX7_number_93 rfl (lv_at hl 0 rfl) ?_
                refine fa_getr (k := 397) (j := 403) CX HX2143 fl_X7_26 (by omega) rfl rfl hM.2.2.2.2.2.1 dX7_number_94 ?_
                refine lv_iload hx hb dX7_number_97 (lv_at hl 4 rfl) ?_
                refine fa_iald (k := 403) (j := 4 * no + u) CX HX2143 (by omega) rfl (by omega) (by first | decide | assumption) dX7_number_99 ?_
                refine lv_if_le (tgt := 184) hx hb dX7_number_100 (by decide) (fun c_100 => ?_) (fun c_100 => ?_)
                · refine lv_iload hx hb dX7_number_184 (lv_at hl 5 rfl) ?_
                  exact RET _ _ _ _ _ _ _ HX2143 dX7_number_186 hi_88.2.1.nar (⟨rfl, ⟨⟨hi_88.2.1, mt, no, ⟨by omega, by omega, by omega, fun z => (by first | (have := hi_88.2.2.1 z; omega) | exact absurd (by assumption) z), by omega⟩, (show v2142 397 12 = nI (mt) from hi_88.2.2.2.1), (show v2142 397 11 = nI (no) from hi_88.2.2.2.2.1), (show fa_f3 v v2142 from (fa_f3.tr fa_f3.rf hi_88.2.2.2.2.2))⟩, (fa_fr.tr fa_fr.rf (fa_fr.wide (fa_f3.fr hi_88.2.2.2.2.2) (by omega) (by omega)))⟩⟩)
                · refine lv_aload_n hx hb dX7_number_103 rfl (lv_at hl 0 rfl) ?_
                  refine lv_bipush (v := nI (48)) hx hb dX7_number_104 (by decide) ?_
                  refine lv_bipush (v := nI (57)) hx hb dX7_number_106 (by decide) ?_
                  refine fa_callVip (As := [.int (nI (48)), .int (nI (57))]) (rest := []) CX HX2143 (r_isSign l G n hn v2142 r hM (n9) (mt) (no) (by omega) (by omega) (by omega) ((hi_88.2.2.2.2.2.2 9 (by decide) (by decide)).trans g9) hi_88.2.2.2.1 hi_88.2.2.2.2.1 (nI (48)) (nI (57))) ln_X7_137 (by omega) rfl rfl rfl rfl (Nat.le_of_ble_eq_true rfl) hl.1 ⟨Nat.le_of_ble_eq_true rfl, Nat.le_of_ble_eq_true rfl⟩ ⟨Nat.le_refl _, Nat.le_refl _⟩ dX7_number_108 (fun x2145 H locs h2144 HX2146 => ?_)
                  obtain ⟨hb_x2145, hs_x2145⟩ := h2144
                  refine lv_if_eq (tgt := 184) hx hb dX7_number_111 (by decide) (fun c_111 => ?_) (fun c_111 => ?_)
                  · refine lv_iload hx hb dX7_number_184 (lv_at hl 5 rfl) ?_
                    exact RET _ _ _ _ _ _ _ HX2146 dX7_number_186 hi_88.2.1.nar (⟨rfl, ⟨⟨hi_88.2.1, mt, no, ⟨by omega, by omega, by omega, fun z => (by first | (have := hi_88.2.2.1 z; omega) | exact absurd (by assumption) z), by omega⟩, (show v2142 397 12 = nI (mt) from hi_88.2.2.2.1), (show v2142 397 11 = nI (no) from hi_88.2.2.2.2.1), (show fa_f3 v v2142 from (fa_f3.tr fa_f3.rf hi_88.2.2.2.2.2))⟩, (fa_fr.tr fa_fr.rf (fa_fr.wide (fa_f3.fr hi_88.2.2.2.2.2) (by omega) (by omega)))⟩⟩)
                  · have hl_x2145 := hs_x2145 c_111
                    refine lv_bipush (v := nI (10)) hx hb dX7_number_114 (by decide) ?_
                    refine lv_aload_n hx hb dX7_number_116 rfl (lv_at hl 0 rfl) ?_
                    refine fa_getr (k := 397) (j := 403) CX HX2146 fl_X7_26 (by omega) rfl rfl hM.2.2.2.2.2.1 dX7_number_117 ?_
                    refine lv_iload hx hb dX7_number_120 (lv_at hl 4 rfl) ?_
                    refine fa_iald (k := 403) (j := 4 * no + u) CX HX2146 (by omega) rfl (by omega) (by first | decide | assumption) dX7_number_122 ?_
                    refine lv_imul hx hb dX7_number_123 ?_
                    refine lv_aload_n hx hb dX7_number_124 rfl (lv_at hl 0 rfl) ?_
                    refine fa_getr (k := 397) (j := 405) CX HX2146 fl_X7_32 (by omega) rfl rfl hM.2.2.2.2.2.2.2 dX7_number_125 ?_
                    refine lv_aload_n hx hb dX7_number_128 rfl (lv_at hl 0 rfl) ?_
                    refine fa_geti (k := 397) CX HX2146 fl_X7_134 (by omega) rfl rfl dX7_number_129 ?_
                    rw [show v2142 397 12 = nI (mt) from hi_88.2.2.2.1]
                    refine fa_cald (k := 405) (j := mt) CX HX2146 (by omega) rfl (by omega) (by first | decide | assumption) dX7_number_132 ?_
                    refine lv_iadd hx hb dX7_number_133 ?_
                    refine lv_bipush (v := nI (48)) hx hb dX7_number_134 (by decide) ?_
                    refine lv_isub hx hb dX7_number_136 ?_
                    refine lv_iload_n hx hb dX7_number_137 rfl (lv_at hl 3 rfl) ?_
                    refine lv_icmp_gt (tgt := 184) hx hb dX7_number_138 (by decide) (fun c_138 => ?_) (fun c_138 => ?_)
                    · refine lv_iload hx hb dX7_number_184 (lv_at hl 5 rfl) ?_
                      exact RET _ _ _ _ _ _ _ HX2146 dX7_number_186 hi_88.2.1.nar (⟨rfl, ⟨⟨hi_88.2.1, mt, no, ⟨by omega, by omega, by omega, fun z => (by first | (have := hi_88.2.2.1 z; omega) | exact absurd (by assumption) z), by omega⟩, (show v2142 397 12 = nI (mt) from hi_88.2.2.2.1), (show v2142 397 11 = nI (no) from hi_88.2.2.2.2.1), (show fa_f3 v v2142 from (fa_f3.tr fa_f3.rf hi_88.2.2.2.2.2))⟩, (fa_fr.tr fa_fr.rf (fa_fr.wide (fa_f3.fr hi_88.2.2.2.2.2) (by omega) (by omega)))⟩⟩)
                    · refine lv_aload_n hx hb dX7_number_141 rfl (lv_at hl 0 rfl) ?_
                      refine fa_getr (k := 397) (j := 403) CX HX2146 fl_X7_26 (by omega) rfl rfl hM.2.2.2.2.2.1 dX7_number_142 ?_
                      refine lv_iload hx hb dX7_number_145 (lv_at hl 4 rfl) ?_
                      refine lv_bipush (v := nI (10)) hx hb dX7_number_147 (by decide) ?_
                      refine lv_aload_n hx hb dX7_number_149 rfl (lv_at hl 0 rfl) ?_
                      refine fa_getr (k := 397) (j := 403) CX HX2146 fl_X7_26 (by omega) rfl rfl hM.2.2.2.2.2.1 dX7_number_150 ?_
                      refine lv_iload hx hb dX7_number_153 (lv_at hl 4 rfl) ?_
                      refine fa_iald (k := 403) (j := 4 * no + u) CX HX2146 (by omega) rfl (by omega) (by first | decide | assumption) dX7_number_155 ?_
                      refine lv_imul hx hb dX7_number_156 ?_
                      refine lv_aload_n hx hb dX7_number_157 rfl (lv_at hl 0 rfl) ?_
                      refine fa_getr (k := 397) (j := 405) CX HX2146 fl_X7_32 (by omega) rfl rfl hM.2.2.2.2.2.2.2 dX7_number_158 ?_
                      refine lv_aload_n hx hb dX7_number_161 rfl (lv_at hl 0 rfl) ?_
                      refine fa_geti (k := 397) CX HX2146 fl_X7_134 (by omega) rfl rfl dX7_number_162 ?_
                      rw [show v2142 397 12 = nI (mt) from hi_88.2.2.2.1]
                      refine fa_cald (k := 405) (j := mt) CX HX2146 (by omega) rfl (by omega) (by first | decide | assumption) dX7_number_165 ?_
                      refine lv_iadd hx hb dX7_number_166 ?_
                      refine lv_bipush (v := nI (48)) hx hb dX7_number_167 (by decide) ?_
                      refine lv_isub hx hb dX7_number_169 ?_
                      refine fa_iast (k := 403) (j := 4 * no + u) CX HX2146 (by omega) rfl (by omega) (by first | decide | assumption) dX7_number_170 (fun H locs v2147 e2148 HX2149 => ?_)
                      refine lv_aload_n hx hb dX7_number_171 rfl (lv_at hl 0 rfl) ?_
                      refine lv_dup hx hb dX7_number_172 rfl ?_
                      refine fa_geti (k := 397) CX HX2149 fl_X7_134 (by omega) rfl rfl dX7_number_173 ?_
                      rw [show v2147 397 12 = nI (mt) from (by rw [e2148, fa_u_n _ _ (by omega)]; exact hi_88.2.2.2.1)]
                      refine lv_iconst (v := nI (1)) hx hb dX7_number_176 (by decide) ?_
                      refine fa_iaddN hx hb dX7_number_177 ?_
                      refine fa_puti (k := 397) CX HX2149 fl_X7_134 (by omega) rfl rfl rfl rfl dX7_number_178 (fun H locs v2150 e2151 HX2152 => ?_)
                      refine lv_goto (tgt := 88) hx hb dX7_number_181 (by decide) ?_
                      exact ih_88 (mt + 1) (ok) v2150 _ _ _ (by omega) (⟨⟨by omega, by omega⟩, hi_88.2.1, fun _ => by omega, (by rw [e2151, fa_u_s]), (by rw [e2151, fa_u_n _ _ (by omega)]; exact (by rw [e2148, fa_u_n _ _ (by omega)]; exact hi_88.2.2.2.2.1)), (by rw [e2151]; exact fa_f3.w (by rw [e2148]; exact fa_f3.u (fa_f3.tr fa_f3.rf hi_88.2.2.2.2.2)) (by decide))⟩) (lv_sub hl [0, 1, 2, 3, 4, 5] rfl) HX2152
          exact LOOP_88 (61 - (na + 0) + 1) (na + 0) (nI (0)) v2139 _ _ _ (Nat.lt_succ_self _) (⟨⟨by omega, by omega⟩, Or.inl rfl, fun z => absurd (by decide) z, (by rw [e2140, fa_u_s]), (by rw [e2140, fa_u_n _ _ (by omega)]; exact (by rw [e2137, fa_u_n _ _ (by omega)]; exact gO)), (by rw [e2140]; exact fa_f3.w (by rw [e2137]; exact fa_f3.u fa_f3.rf) (by decide))⟩) (lv_sub hl [2, 3, 4, 5, 1, 0] rfl) HX2141
        · exact absurd (by try decide) c_76
      · refine lv_iconst (v := nI (1)) hx hb dX7_number_62 (by decide) ?_
        refine lv_goto (tgt := 67) hx hb dX7_number_63 (by decide) ?_
        refine lv_istore (lv' := [(5, .int (nI (1))), (4, .int (nI (4 * no + u))), (0, .ref (fa_B G + (397))), (1, .int (nI (u))), (2, .int (a2)), (3, .int (a3))]) hx hb dX7_number_67 hl (by decide) rfl (fun ls hl => ?_)
        refine lv_aload_n hx hb dX7_number_69 rfl (lv_at hl 2 rfl) ?_
        refine lv_dup hx hb dX7_number_70 rfl ?_
        refine fa_geti (k := 397) CX HX2138 fl_X7_134 (by omega) rfl rfl dX7_number_71 ?_
        rw [show v2136 397 12 = nI (na) from (by rw [e2137, fa_u_n _ _ (by omega)]; exact gA)]
        refine lv_iload hx hb dX7_number_74 (lv_at hl 0 rfl) ?_
        refine lv_if_eq (tgt := 83) hx hb dX7_number_76 (by decide) (fun c_76 => ?_) (fun c_76 => ?_)
        · exact absurd c_76 (by try decide)
        · refine lv_iconst (v := nI (1)) hx hb dX7_number_79 (by decide) ?_
          refine lv_goto (tgt := 84) hx hb dX7_number_80 (by decide) ?_
          refine fa_iaddN hx hb dX7_number_84 ?_
          refine fa_puti (k := 397) CX HX2138 fl_X7_134 (by omega) rfl rfl rfl rfl dX7_number_85 (fun H locs v2153 e2154 HX2155 => ?_)
          have LOOP_88 : ∀ (fu : Nat) (mt : Nat) (ok : Int32) (v2156 : fa_V) (H : Heap) (locs : List Loc) (ls : Array Slot), 61 - mt < fu → ((na ≤ mt ∧ mt ≤ n9) ∧ fa_bo ok ∧ (¬ ok = 0 → na + 1 ≤ mt) ∧ v2156 397 12 = nI mt ∧ v2156 397 11 = nI no ∧ fa_f3 v v2156) → lv_has ls 6 [(0, .ref (fa_B G + (397))), (1, .int (nI (u))), (2, .int (a2)), (3, .int (a3)), (4, .int (nI (4 * no + u))), (5, .int (ok))] → fa_HX G (n) v2156 r s H locs → W p l e (fa_rm 3) s m args below meth c H locs (0) (0) Q (F0 m 88 ls []) := by
            intro fu
            induction fu with
            | zero => intro mt ok v2156 H locs ls hk; exact absurd hk (Nat.not_lt_zero _)
            | succ fu ih_88 =>
              intro mt ok v2156 H locs ls hk_88 hi_88 hl HX2157
              refine lv_iload hx hb dX7_number_88 (lv_at hl 5 rfl) ?_
              refine lv_if_eq (tgt := 184) hx hb dX7_number_90 (by decide) (fun c_90 => ?_) (fun c_90 => ?_)
              · refine lv_iload hx hb dX7_number_184 (lv_at hl 5 rfl) ?_
                exact RET _ _ _ _ _ _ _ HX2157 dX7_number_186 hi_88.2.1.nar (⟨rfl, ⟨⟨hi_88.2.1, mt, no, ⟨by omega, by omega, by omega, fun z => (by first | (have := hi_88.2.2.1 z; omega) | exact absurd (by assumption) z), by omega⟩, (show v2156 397 12 = nI (mt) from hi_88.2.2.2.1), (show v2156 397 11 = nI (no) from hi_88.2.2.2.2.1), (show fa_f3 v v2156 from (fa_f3.tr fa_f3.rf hi_88.2.2.2.2.2))⟩, (fa_fr.tr fa_fr.rf (fa_fr.wide (fa_f3.fr hi_88.2.2.2.2.2) (by omega) (by omega)))⟩⟩)
              · have hl_ok := hi_88.2.2.1 c_90
                refine lv_aload_n hx hb dX7_number_93 rfl (lv_at hl 0 rfl) ?_
                refine fa_getr (k := 397) (j := 403) CX HX2157 fl_X7_26 (by omega) rfl rfl hM.2.2.2.2.2.1 dX7_number_94 ?_
                refine lv_iload hx hb dX7_number_97 (lv_at hl 4 rfl) ?_
                refine fa_iald (k := 403) (j := 4 * no + u) CX HX2157 (by omega) rfl (by omega) (by first | decide | assumption) dX7_number_99 ?_
                refine lv_if_le (tgt := 184) hx hb dX7_number_100 (by decide) (fun c_100 => ?_) (fun c_100 => ?_)
                · refine lv_iload hx hb dX7_number_184 (lv_at hl 5 rfl) ?_
                  exact RET _ _ _ _ _ _ _ HX2157 dX7_number_186 hi_88.2.1.nar (⟨rfl, ⟨⟨hi_88.2.1, mt, no, ⟨by omega, by omega, by omega, fun z => (by first | (have := hi_88.2.2.1 z; omega) | exact absurd (by assumption) z), by omega⟩, (show v2156 397 12 = nI (mt) from hi_88.2.2.2.1), (show v2156 397 11 = nI (no) from hi_88.2.2.2.2.1), (show fa_f3 v v2156 from (fa_f3.tr fa_f3.rf hi_88.2.2.2.2.2))⟩, (fa_fr.tr fa_fr.rf (fa_fr.wide (fa_f3.fr hi_88.2.2.2.2.2) (by omega) (by omega)))⟩⟩)
                · refine lv_aload_n hx hb dX7_number_103 rfl (lv_at hl 0 rfl) ?_
                  refine lv_bipush (v := nI (48)) hx hb dX7_number_104 (by decide) ?_
                  refine lv_bipush (v := nI (57)) hx hb dX7_number_106 (by decide) ?_
                  refine fa_callVip (As := [.int (nI (48)), .int (nI (57))]) (rest := []) CX HX2157 (r_isSign l G n hn v2156 r hM (n9) (mt) (no) (by omega) (by omega) (by omega) ((hi_88.2.2.2.2.2.2 9 (by decide) (by decide)).trans g9) hi_88.2.2.2.1 hi_88.2.2.2.2.1 (nI (48)) (nI (57))) ln_X7_137 (by omega) rfl rfl rfl rfl (Nat.le_of_ble_eq_true rfl) hl.1 ⟨Nat.le_of_ble_eq_true rfl, Nat.le_of_ble_eq_true rfl⟩ ⟨Nat.le_refl _, Nat.le_refl _⟩ dX7_number_108 (fun x2159 H locs h2158 HX2160 => ?_)
                  obtain ⟨hb_x2159, hs_x2159⟩ := h2158
                  refine lv_if_eq (tgt := 184) hx hb dX7_number_111 (by decide) (fun c_111 => ?_) (fun c_111 => ?_)
                  · refine lv_iload hx hb dX7_number_184 (lv_at hl 5 rfl) ?_
                    exact RET _ _ _ _ _ _ _ HX2160 dX7_number_186 hi_88.2.1.nar (⟨rfl, ⟨⟨hi_88.2.1, mt, no, ⟨by omega, by omega, by omega, fun z => (by first | (have := hi_88.2.2.1 z; omega) | exact absurd (by assumption) z), by omega⟩, (show v2156 397 12 = nI (mt) from hi_88.2.2.2.1), (show v2156 397 11 = nI (no) from hi_88.2.2.2.2.1), (show fa_f3 v v2156 from (fa_f3.tr fa_f3.rf hi_88.2.2.2.2.2))⟩, (fa_fr.tr fa_fr.rf (fa_fr.wide (fa_f3.fr hi_88.2.2.2.2.2) (by omega) (by omega)))⟩⟩)
                  · have hl_x2159 := hs_x2159 c_111
                    refine lv_bipush (v := nI (10)) hx hb dX7_number_114 (by decide) ?_
                    refine lv_aload_n hx hb dX7_number_116 rfl (lv_at hl 0 rfl) ?_
                    refine fa_getr (k := 397) (j := 403) CX HX2160 fl_X7_26 (by omega) rfl rfl hM.2.2.2.2.2.1 dX7_number_117 ?_
                    refine lv_iload hx hb dX7_number_120 (lv_at hl 4 rfl) ?_
                    refine fa_iald (k := 403) (j := 4 * no + u) CX HX2160 (by omega) rfl (by omega) (by first | decide | assumption) dX7_number_122 ?_
                    refine lv_imul hx hb dX7_number_123 ?_
                    refine lv_aload_n hx hb dX7_number_124 rfl (lv_at hl 0 rfl) ?_
                    refine fa_getr (k := 397) (j := 405) CX HX2160 fl_X7_32 (by omega) rfl rfl hM.2.2.2.2.2.2.2 dX7_number_125 ?_
                    refine lv_aload_n hx hb dX7_number_128 rfl (lv_at hl 0 rfl) ?_
                    refine fa_geti (k := 397) CX HX2160 fl_X7_134 (by omega) rfl rfl dX7_number_129 ?_
                    rw [show v2156 397 12 = nI (mt) from hi_88.2.2.2.1]
                    refine fa_cald (k := 405) (j := mt) CX HX2160 (by omega) rfl (by omega) (by first | decide | assumption) dX7_number_132 ?_
                    refine lv_iadd hx hb dX7_number_133 ?_
                    refine lv_bipush (v := nI (48)) hx hb dX7_number_134 (by decide) ?_
                    refine lv_isub hx hb dX7_number_136 ?_
                    refine lv_iload_n hx hb dX7_number_137 rfl (lv_at hl 3 rfl) ?_
                    refine lv_icmp_gt (tgt := 184) hx hb dX7_number_138 (by decide) (fun c_138 => ?_) (fun c_138 => ?_)
                    · refine lv_iload hx hb dX7_number_184 (lv_at hl 5 rfl) ?_
                      exact RET _ _ _ _ _ _ _ HX2160 dX7_number_186 hi_88.2.1.nar (⟨rfl, ⟨⟨hi_88.2.1, mt, no, ⟨by omega, by omega, by omega, fun z => (by first | (have := hi_88.2.2.1 z; omega) | exact absurd (by assumption) z), by omega⟩, (show v2156 397 12 = nI (mt) from hi_88.2.2.2.1), (show v2156 397 11 = nI (no) from hi_88.2.2.2.2.1), (show fa_f3 v v2156 from (fa_f3.tr fa_f3.rf hi_88.2.2.2.2.2))⟩, (fa_fr.tr fa_fr.rf (fa_fr.wide (fa_f3.fr hi_88.2.2.2.2.2) (by omega) (by omega)))⟩⟩)
                    · refine lv_aload_n hx hb dX7_number_141 rfl (lv_at hl 0 rfl) ?_
                      refine fa_getr (k := 397) (j := 403) CX HX2160 fl_X7_26 (by omega) rfl rfl hM.2.2.2.2.2.1 dX7_number_142 ?_
                      refine lv_iload hx hb dX7_number_145 (lv_at hl 4 rfl) ?_
                      refine lv_bipush (v := nI (10)) hx hb dX7_number_147 (by decide) ?_
                      refine lv_aload_n hx hb dX7_number_149 rfl (lv_at hl 0 rfl) ?_
                      refine fa_getr (k := 397) (j := 403) CX HX2160 fl_X7_26 (by omega) rfl rfl hM.2.2.2.2.2.1 dX7_number_150 ?_
                      refine lv_iload hx hb dX7_number_153 (lv_at hl 4 rfl) ?_
                      refine fa_iald (k := 403) (j := 4 * no + u) CX HX2160 (by omega) rfl (by omega) (by first | decide | assumption) dX7_number_155 ?_
                      refine lv_imul hx hb dX7_number_156 ?_
                      refine lv_aload_n hx hb dX7_number_157 rfl (lv_at hl 0 rfl) ?_
                      refine fa_getr (k := 397) (j := 405) CX HX2160 fl_X7_32 (by omega) rfl rfl hM.2.2.2.2.2.2.2 dX7_number_158 ?_
                      refine lv_aload_n hx hb dX7_number_161 rfl (lv_at hl 0 rfl) ?_
                      refine fa_geti (k := 397) CX HX2160 fl_X7_134 (by omega) rfl rfl dX7_number_162 ?_
                      rw [show v2156 397 12 = nI (mt) from hi_88.2.2.2.1]
                      refine fa_cald (k := 405) (j := mt) CX HX2160 (by omega) rfl (by omega) (by first | decide | assumption) dX7_number_165 ?_
                      refine lv_iadd hx hb dX7_number_166 ?_
                      refine lv_bipush (v := nI (48)) hx hb dX7_number_167 (by decide) ?_
                      refine lv_isub hx hb dX7_number_169 ?_
                      refine fa_iast (k := 403) (j := 4 * no + u) CX HX2160 (by omega) rfl (by omega) (by first | decide | assumption) dX7_number_170 (fun H locs v2161 e2162 HX2163 => ?_)
                      refine lv_aload_n hx hb dX7_number_171 rfl (lv_at hl 0 rfl) ?_
                      refine lv_dup hx hb dX7_number_172 rfl ?_
                      refine fa_geti (k := 397) CX HX2163 fl_X7_134 (by omega) rfl rfl dX7_number_173 ?_
                      rw [show v2161 397 12 = nI (mt) from (by rw [e2162, fa_u_n _ _ (by omega)]; exact hi_88.2.2.2.1)]
                      refine lv_iconst (v := nI (1)) hx hb dX7_number_176 (by decide) ?_
                      refine fa_iaddN hx hb dX7_number_177 ?_
                      refine fa_puti (k := 397) CX HX2163 fl_X7_134 (by omega) rfl rfl rfl rfl dX7_number_178 (fun H locs v2164 e2165 HX2166 => ?_)
                      refine lv_goto (tgt := 88) hx hb dX7_number_181 (by decide) ?_
                      exact ih_88 (mt + 1) (ok) v2164 _ _ _ (by omega) (⟨⟨by omega, by omega⟩, hi_88.2.1, fun _ => by omega, (by rw [e2165, fa_u_s]), (by rw [e2165, fa_u_n _ _ (by omega)]; exact (by rw [e2162, fa_u_n _ _ (by omega)]; exact hi_88.2.2.2.2.1)), (by rw [e2165]; exact fa_f3.w (by rw [e2162]; exact fa_f3.u (fa_f3.tr fa_f3.rf hi_88.2.2.2.2.2)) (by decide))⟩) (lv_sub hl [0, 1, 2, 3, 4, 5] rfl) HX2166
          exact LOOP_88 (61 - (na + 1) + 1) (na + 1) (nI (1)) v2153 _ _ _ (Nat.lt_succ_self _) (⟨⟨by omega, by omega⟩, Or.inr rfl, fun _ => by omega, (by rw [e2154, fa_u_s]), (by rw [e2154, fa_u_n _ _ (by omega)]; exact (by rw [e2137, fa_u_n _ _ (by omega)]; exact gO)), (by rw [e2154]; exact fa_f3.w (by rw [e2137]; exact fa_f3.u fa_f3.rf) (by decide))⟩) (lv_sub hl [2, 3, 4, 5, 1, 0] rfl) HX2155
    · refine lv_iconst (v := nI (0)) hx hb dX7_number_30 (by decide) ?_
      exact RET _ _ _ _ _ _ _ HX2135 dX7_number_31 (by decide) (⟨rfl, ⟨⟨(Or.inl rfl), na, no, ⟨by omega, by omega, by omega, fun z => absurd (by decide) z, by omega⟩, (show v 397 12 = nI (na) from gA), (show v 397 11 = nI (no) from gO), (show fa_f3 v v from fa_f3.rf)⟩, fa_fr.rf⟩⟩)
  · refine lv_bipush (v := nI (48)) hx hb dX7_number_15 (by decide) ?_
    refine lv_goto (tgt := 22) hx hb dX7_number_17 (by decide) ?_
    refine lv_bipush (v := nI (57)) hx hb dX7_number_22 (by decide) ?_
    refine fa_callVip (As := [.int (nI (48)), .int (nI (57))]) (rest := []) CX HX (r_isSign l G n hn v r hM (n9) (na) (no) (by omega) (by omega) (by omega) g9 gA gO (nI (48)) (nI (57))) ln_X7_137 (by omega) rfl rfl rfl rfl (Nat.le_of_ble_eq_true rfl) hl.1 ⟨Nat.le_of_ble_eq_true rfl, Nat.le_of_ble_eq_true rfl⟩ ⟨Nat.le_refl _, Nat.le_refl _⟩ dX7_number_24 (fun x2168 H locs h2167 HX2169 => ?_)
    obtain ⟨hb_x2168, hs_x2168⟩ := h2167
    refine lv_if_ne (tgt := 32) hx hb dX7_number_27 (by decide) (fun c_27 => ?_) (fun c_27 => ?_)
    · have hl_x2168 := hs_x2168 c_27
      refine lv_aload_n hx hb dX7_number_32 rfl (lv_at hl 1 rfl) ?_
      refine fa_getr (k := 397) (j := 403) CX HX2169 fl_X7_26 (by omega) rfl rfl hM.2.2.2.2.2.1 dX7_number_33 ?_
      refine lv_iload hx hb dX7_number_36 (lv_at hl 0 rfl) ?_
      refine lv_aload_n hx hb dX7_number_38 rfl (lv_at hl 1 rfl) ?_
      refine fa_getr (k := 397) (j := 405) CX HX2169 fl_X7_32 (by omega) rfl rfl hM.2.2.2.2.2.2.2 dX7_number_39 ?_
      refine lv_aload_n hx hb dX7_number_42 rfl (lv_at hl 1 rfl) ?_
      refine fa_geti (k := 397) CX HX2169 fl_X7_134 (by omega) rfl rfl dX7_number_43 ?_
      rw [show v 397 12 = nI (na) from gA]
      refine fa_cald (k := 405) (j := na) CX HX2169 (by omega) rfl (by omega) (by first | decide | assumption) dX7_number_46 ?_
      refine lv_bipush (v := nI (48)) hx hb dX7_number_47 (by decide) ?_
      refine lv_isub hx hb dX7_number_49 ?_
      refine fa_iast (k := 403) (j := 4 * no + u) CX HX2169 (by omega) rfl (by omega) (by first | decide | assumption) dX7_number_50 (fun H locs v2170 e2171 HX2172 => ?_)
      refine lv_aload_n hx hb dX7_number_51 rfl (lv_at hl 1 rfl) ?_
      refine fa_getr (k := 397) (j := 403) CX HX2172 fl_X7_26 (by omega) rfl rfl hM.2.2.2.2.2.1 dX7_number_52 ?_
      refine lv_iload hx hb dX7_number_55 (lv_at hl 0 rfl) ?_
      refine fa_iald (k := 403) (j := 4 * no + u) CX HX2172 (by omega) rfl (by omega) (by first | decide | assumption) dX7_number_57 ?_
      refine lv_iload_n hx hb dX7_number_58 rfl (lv_at hl 4 rfl) ?_
      refine lv_icmp_gt (tgt := 66) hx hb dX7_number_59 (by decide) (fun c_59 => ?_) (fun c_59 => ?_)
      · refine lv_iconst (v := nI (0)) hx hb dX7_number_66 (by decide) ?_
        refine lv_istore (lv' := [(5, .int (nI (0))), (4, .int (nI (4 * no + u))), (0, .ref (fa_B G + (397))), (1, .int (nI (u))), (2, .int (a2)), (3, .int (a3))]) hx hb dX7_number_67 hl (by decide) rfl (fun ls hl => ?_)
        refine lv_aload_n hx hb dX7_number_69 rfl (lv_at hl 2 rfl) ?_
        refine lv_dup hx hb dX7_number_70 rfl ?_
        refine fa_geti (k := 397) CX HX2172 fl_X7_134 (by omega) rfl rfl dX7_number_71 ?_
        rw [show v2170 397 12 = nI (na) from (by rw [e2171, fa_u_n _ _ (by omega)]; exact gA)]
        refine lv_iload hx hb dX7_number_74 (lv_at hl 0 rfl) ?_
        refine lv_if_eq (tgt := 83) hx hb dX7_number_76 (by decide) (fun c_76 => ?_) (fun c_76 => ?_)
        · refine lv_iconst (v := nI (0)) hx hb dX7_number_83 (by decide) ?_
          refine fa_iaddN hx hb dX7_number_84 ?_
          refine fa_puti (k := 397) CX HX2172 fl_X7_134 (by omega) rfl rfl rfl rfl dX7_number_85 (fun H locs v2173 e2174 HX2175 => ?_)
          have LOOP_88 : ∀ (fu : Nat) (mt : Nat) (ok : Int32) (v2176 : fa_V) (H : Heap) (locs : List Loc) (ls : Array Slot), 61 - mt < fu → ((na ≤ mt ∧ mt ≤ n9) ∧ fa_bo ok ∧ (¬ ok = 0 → na + 1 ≤ mt) ∧ v2176 397 12 = nI mt ∧ v2176 397 11 = nI no ∧ fa_f3 v v2176) → lv_has ls 6 [(0, .ref (fa_B G + (397))), (1, .int (nI (u))), (2, .int (a2)), (3, .int (a3)), (4, .int (nI (4 * no + u))), (5, .int (ok))] → fa_HX G (n) v2176 r s H locs → W p l e (fa_rm 3) s m args below meth c H locs (0) (0) Q (F0 m 88 ls []) := by
            intro fu
            induction fu with
            | zero => intro mt ok v2176 H locs ls hk; exact absurd hk (Nat.not_lt_zero _)
            | succ fu ih_88 =>
              intro mt ok v2176 H locs ls hk_88 hi_88 hl HX2177
              refine lv_iload hx hb dX7_number_88 (lv_at hl 5 rfl) ?_
              refine lv_if_eq (tgt := 184) hx hb dX7_number_90 (by decide) (fun c_90 => ?_) (fun c_90 => ?_)
              · refine lv_iload hx hb dX7_number_184 (lv_at hl 5 rfl) ?_
                exact RET _ _ _ _ _ _ _ HX2177 dX7_number_186 hi_88.2.1.nar (⟨rfl, ⟨⟨hi_88.2.1, mt, no, ⟨by omega, by omega, by omega, fun z => (by first | (have := hi_88.2.2.1 z; omega) | exact absurd (by assumption) z), by omega⟩, (show v2176 397 12 = nI (mt) from hi_88.2.2.2.1), (show v2176 397 11 = nI (no) from hi_88.2.2.2.2.1), (show fa_f3 v v2176 from (fa_f3.tr fa_f3.rf hi_88.2.2.2.2.2))⟩, (fa_fr.tr fa_fr.rf (fa_fr.wide (fa_f3.fr hi_88.2.2.2.2.2) (by omega) (by omega)))⟩⟩)
              · have hl_ok := hi_88.2.2.1 c_90
                refine lv_aload_n hx hb dX7_number_93 rfl (lv_at hl 0 rfl) ?_
                refine fa_getr (k := 397) (j := 403) CX HX2177 fl_X7_26 (by omega) rfl rfl hM.2.2.2.2.2.1 dX7_number_94 ?_
                refine lv_iload hx hb dX7_number_97 (lv_at hl 4 rfl) ?_
                refine fa_iald (k := 403) (j := 4 * no + u) CX HX2177 (by omega) rfl (by omega) (by first | decide | assumption) dX7_number_99 ?_
                refine lv_if_le (tgt := 184) hx hb dX7_number_100 (by decide) (fun c_100 => ?_) (fun c_100 => ?_)
                · refine lv_iload hx hb dX7_number_184 (lv_at hl 5 rfl) ?_
                  exact RET _ _ _ _ _ _ _ HX2177 dX7_number_186 hi_88.2.1.nar (⟨rfl, ⟨⟨hi_88.2.1, mt, no, ⟨by omega, by omega, by omega, fun z => (by first | (have := hi_88.2.2.1 z; omega) | exact absurd (by assumption) z), by omega⟩, (show v2176 397 12 = nI (mt) from hi_88.2.2.2.1), (show v2176 397 11 = nI (no) from hi_88.2.2.2.2.1), (show fa_f3 v v2176 from (fa_f3.tr fa_f3.rf hi_88.2.2.2.2.2))⟩, (fa_fr.tr fa_fr.rf (fa_fr.wide (fa_f3.fr hi_88.2.2.2.2.2) (by omega) (by omega)))⟩⟩)
                · refine lv_aload_n hx hb dX7_number_103 rfl (lv_at hl 0 rfl) ?_
                  refine lv_bipush (v := nI (48)) hx hb dX7_number_104 (by decide) ?_
                  refine lv_bipush (v := nI (57)) hx hb dX7_number_106 (by decide) ?_
                  refine fa_callVip (As := [.int (nI (48)), .int (nI (57))]) (rest := []) CX HX2177 (r_isSign l G n hn v2176 r hM (n9) (mt) (no) (by omega) (by omega) (by omega) ((hi_88.2.2.2.2.2.2 9 (by decide) (by decide)).trans g9) hi_88.2.2.2.1 hi_88.2.2.2.2.1 (nI (48)) (nI (57))) ln_X7_137 (by omega) rfl rfl rfl rfl (Nat.le_of_ble_eq_true rfl) hl.1 ⟨Nat.le_of_ble_eq_true rfl, Nat.le_of_ble_eq_true rfl⟩ ⟨Nat.le_refl _, Nat.le_refl _⟩ dX7_number_108 (fun x2179 H locs h2178 HX2180 => ?_)
                  obtain ⟨hb_x2179, hs_x2179⟩ := h2178
                  refine lv_if_eq (tgt := 184) hx hb dX7_number_111 (by decide) (fun c_111 => ?_) (fun c_111 => ?_)
                  · refine lv_iload hx hb dX7_number_184 (lv_at hl 5 rfl) ?_
                    exact RET _ _ _ _ _ _ _ HX2180 dX7_number_186 hi_88.2.1.nar (⟨rfl, ⟨⟨hi_88.2.1, mt, no, ⟨by omega, by omega, by omega, fun z => (by first | (have := hi_88.2.2.1 z; omega) | exact absurd (by assumption) z), by omega⟩, (show v2176 397 12 = nI (mt) from hi_88.2.2.2.1), (show v2176 397 11 = nI (no) from hi_88.2.2.2.2.1), (show fa_f3 v v2176 from (fa_f3.tr fa_f3.rf hi_88.2.2.2.2.2))⟩, (fa_fr.tr fa_fr.rf (fa_fr.wide (fa_f3.fr hi_88.2.2.2.2.2) (by omega) (by omega)))⟩⟩)
                  · have hl_x2179 := hs_x2179 c_111
                    refine lv_bipush (v := nI (10)) hx hb dX7_number_114 (by decide) ?_
                    refine lv_aload_n hx hb dX7_number_116 rfl (lv_at hl 0 rfl) ?_
                    refine fa_getr (k := 397) (j := 403) CX HX2180 fl_X7_26 (by omega) rfl rfl hM.2.2.2.2.2.1 dX7_number_117 ?_
                    refine lv_iload hx hb dX7_number_120 (lv_at hl 4 rfl) ?_
                    refine fa_iald (k := 403) (j := 4 * no + u) CX HX2180 (by omega) rfl (by omega) (by first | decide | assumption) dX7_number_122 ?_
                    refine lv_imul hx hb dX7_number_123 ?_
                    refine lv_aload_n hx hb dX7_number_124 rfl (lv_at hl 0 rfl) ?_
                    refine fa_getr (k := 397) (j := 405) CX HX2180 fl_X7_32 (by omega) rfl rfl hM.2.2.2.2.2.2.2 dX7_number_125 ?_
                    refine lv_aload_n hx hb dX7_number_128 rfl (lv_at hl 0 rfl) ?_
                    refine fa_geti (k := 397) CX HX2180 fl_X7_134 (by omega) rfl rfl dX7_number_129 ?_
                    rw [show v2176 397 12 = nI (mt) from hi_88.2.2.2.1]
                    refine fa_cald (k := 405) (j := mt) CX HX2180 (by omega) rfl (by omega) (by first | decide | assumption) dX7_number_132 ?_
                    refine lv_iadd hx hb dX7_number_133 ?_
                    refine lv_bipush (v := nI (48)) hx hb dX7_number_134 (by decide) ?_
                    refine lv_isub hx hb dX7_number_136 ?_
                    refine lv_iload_n hx hb dX7_number_137 rfl (lv_at hl 3 rfl) ?_
                    refine lv_icmp_gt (tgt := 184) hx hb dX7_number_138 (by decide) (fun c_138 => ?_) (fun c_138 => ?_)
                    · refine lv_iload hx hb dX7_number_184 (lv_at hl 5 rfl) ?_
                      exact RET _ _ _ _ _ _ _ HX2180 dX7_number_186 hi_88.2.1.nar (⟨rfl, ⟨⟨hi_88.2.1, mt, no, ⟨by omega, by omega, by omega, fun z => (by first | (have := hi_88.2.2.1 z; omega) | exact absurd (by assumption) z), by omega⟩, (show v2176 397 12 = nI (mt) from hi_88.2.2.2.1), (show v2176 397 11 = nI (no) from hi_88.2.2.2.2.1), (show fa_f3 v v2176 from (fa_f3.tr fa_f3.rf hi_88.2.2.2.2.2))⟩, (fa_fr.tr fa_fr.rf (fa_fr.wide (fa_f3.fr hi_88.2.2.2.2.2) (by omega) (by omega)))⟩⟩)
                    · refine lv_aload_n hx hb dX7_number_141 rfl (lv_at hl 0 rfl) ?_
                      refine fa_getr (k := 397) (j := 403) CX HX2180 fl_X7_26 (by omega) rfl rfl hM.2.2.2.2.2.1 dX7_number_142 ?_
                      refine lv_iload hx hb dX7_number_145 (lv_at hl 4 rfl) ?_
                      refine lv_bipush (v := nI (10)) hx hb dX7_number_147 (by decide) ?_
                      refine lv_aload_n hx hb dX7_number_149 rfl (lv_at hl 0 rfl) ?_
                      refine fa_getr (k := 397) (j := 403) CX HX2180 fl_X7_26 (by omega) rfl rfl hM.2.2.2.2.2.1 dX7_number_150 ?_
                      refine lv_iload hx hb dX7_number_153 (lv_at hl 4 rfl) ?_
                      refine fa_iald (k := 403) (j := 4 * no + u) CX HX2180 (by omega) rfl (by omega) (by first | decide | assumption) dX7_number_155 ?_
                      refine lv_imul hx hb dX7_number_156 ?_
                      refine lv_aload_n hx hb dX7_number_157 rfl (lv_at hl 0 rfl) ?_
                      refine fa_getr (k := 397) (j := 405) CX HX2180 fl_X7_32 (by omega) rfl rfl hM.2.2.2.2.2.2.2 dX7_number_158 ?_
                      refine lv_aload_n hx hb dX7_number_161 rfl (lv_at hl 0 rfl) ?_
                      refine fa_geti (k := 397) CX HX2180 fl_X7_134 (by omega) rfl rfl dX7_number_162 ?_
                      rw [show v2176 397 12 = nI (mt) from hi_88.2.2.2.1]
                      refine fa_cald (k := 405) (j := mt) CX HX2180 (by omega) rfl (by omega) (by first | decide | assumption) dX7_number_165 ?_
                      refine lv_iadd hx hb dX7_number_166 ?_
                      refine lv_bipush (v := nI (48)) hx hb dX7_number_167 (by decide) ?_
                      refine lv_isub hx hb dX7_number_169 ?_
                      refine fa_iast (k := 403) (j := 4 * no + u) CX HX2180 (by omega) rfl (by omega) (by first | decide | assumption) dX7_number_170 (fun H locs v2181 e2182 HX2183 => ?_)
                      refine lv_aload_n hx hb dX7_number_171 rfl (lv_at hl 0 rfl) ?_
                      refine lv_dup hx hb dX7_number_172 rfl ?_
                      refine fa_geti (k := 397) CX HX2183 fl_X7_134 (by omega) rfl rfl dX7_number_173 ?_
                      rw [show v2181 397 12 = nI (mt) from (by rw [e2182, fa_u_n _ _ (by omega)]; exact hi_88.2.2.2.1)]
                      refine lv_iconst (v := nI (1)) hx hb dX7_number_176 (by decide) ?_
                      refine fa_iaddN hx hb dX7_number_177 ?_
                      refine fa_puti (k := 397) CX HX2183 fl_X7_134 (by omega) rfl rfl rfl rfl dX7_number_178 (fun H locs v2184 e2185 HX2186 => ?_)
                      refine lv_goto (tgt := 88) hx hb dX7_number_181 (by decide) ?_
                      exact ih_88 (mt + 1) (ok) v2184 _ _ _ (by omega) (⟨⟨by omega, by omega⟩, hi_88.2.1, fun _ => by omega, (by rw [e2185, fa_u_s]), (by rw [e2185, fa_u_n _ _ (by omega)]; exact (by rw [e2182, fa_u_n _ _ (by omega)]; exact hi_88.2.2.2.2.1)), (by rw [e2185]; exact fa_f3.w (by rw [e2182]; exact fa_f3.u (fa_f3.tr fa_f3.rf hi_88.2.2.2.2.2)) (by decide))⟩) (lv_sub hl [0, 1, 2, 3, 4, 5] rfl) HX2186
          exact LOOP_88 (61 - (na + 0) + 1) (na + 0) (nI (0)) v2173 _ _ _ (Nat.lt_succ_self _) (⟨⟨by omega, by omega⟩, Or.inl rfl, fun z => absurd (by decide) z, (by rw [e2174, fa_u_s]), (by rw [e2174, fa_u_n _ _ (by omega)]; exact (by rw [e2171, fa_u_n _ _ (by omega)]; exact gO)), (by rw [e2174]; exact fa_f3.w (by rw [e2171]; exact fa_f3.u fa_f3.rf) (by decide))⟩) (lv_sub hl [2, 3, 4, 5, 1, 0] rfl) HX2175
        · exact absurd (by try decide) c_76
      · refine lv_iconst (v := nI (1)) hx hb dX7_number_62 (by decide) ?_
        refine lv_goto (tgt := 67) hx hb dX7_number_63 (by decide) ?_
        refine lv_istore (lv' := [(5, .int (nI (1))), (4, .int (nI (4 * no + u))), (0, .ref (fa_B G + (397))), (1, .int (nI (u))), (2, .int (a2)), (3, .int (a3))]) hx hb dX7_number_67 hl (by decide) rfl (fun ls hl => ?_)
        refine lv_aload_n hx hb dX7_number_69 rfl (lv_at hl 2 rfl) ?_
        refine lv_dup hx hb dX7_number_70 rfl ?_
        refine fa_geti (k := 397) CX HX2172 fl_X7_134 (by omega) rfl rfl dX7_number_71 ?_
        rw [show v2170 397 12 = nI (na) from (by rw [e2171, fa_u_n _ _ (by omega)]; exact gA)]
        refine lv_iload hx hb dX7_number_74 (lv_at hl 0 rfl) ?_
        refine lv_if_eq (tgt := 83) hx hb dX7_number_76 (by decide) (fun c_76 => ?_) (fun c_76 => ?_)
        · exact absurd c_76 (by try decide)
        · refine lv_iconst (v := nI (1)) hx hb dX7_number_79 (by decide) ?_
          refine lv_goto (tgt := 84) hx hb dX7_number_80 (by decide) ?_
          refine fa_iaddN hx hb dX7_number_84 ?_
          refine fa_puti (k := 397) CX HX2172 fl_X7_134 (by omega) rfl rfl rfl rfl dX7_number_85 (fun H locs v2187 e2188 HX2189 => ?_)
          have LOOP_88 : ∀ (fu : Nat) (mt : Nat) (ok : Int32) (v2190 : fa_V) (H : Heap) (locs : List Loc) (ls : Array Slot), 61 - mt < fu → ((na ≤ mt ∧ mt ≤ n9) ∧ fa_bo ok ∧ (¬ ok = 0 → na + 1 ≤ mt) ∧ v2190 397 12 = nI mt ∧ v2190 397 11 = nI no ∧ fa_f3 v v2190) → lv_has ls 6 [(0, .ref (fa_B G + (397))), (1, .int (nI (u))), (2, .int (a2)), (3, .int (a3)), (4, .int (nI (4 * no + u))), (5, .int (ok))] → fa_HX G (n) v2190 r s H locs → W p l e (fa_rm 3) s m args below meth c H locs (0) (0) Q (F0 m 88 ls []) := by
            intro fu
            induction fu with
            | zero => intro mt ok v2190 H locs ls hk; exact absurd hk (Nat.not_lt_zero _)
            | succ fu ih_88 =>
              intro mt ok v2190 H locs ls hk_88 hi_88 hl HX2191
              refine lv_iload hx hb dX7_number_88 (lv_at hl 5 rfl) ?_
              refine lv_if_eq (tgt := 184) hx hb dX7_number_90 (by decide) (fun c_90 => ?_) (fun c_90 => ?_)
              · refine lv_iload hx hb dX7_number_184 (lv_at hl 5 rfl) ?_
                exact RET _ _ _ _ _ _ _ HX2191 dX7_number_186 hi_88.2.1.nar (⟨rfl, ⟨⟨hi_88.2.1, mt, no, ⟨by omega, by omega, by omega, fun z => (by first | (have := hi_88.2.2.1 z; omega) | exact absurd (by assumption) z), by omega⟩, (show v2190 397 12 = nI (mt) from hi_88.2.2.2.1), (show v2190 397 11 = nI (no) from hi_88.2.2.2.2.1), (show fa_f3 v v2190 from (fa_f3.tr fa_f3.rf hi_88.2.2.2.2.2))⟩, (fa_fr.tr fa_fr.rf (fa_fr.wide (fa_f3.fr hi_88.2.2.2.2.2) (by omega) (by omega)))⟩⟩)
              · have hl_ok := hi_88.2.2.1 c_90
                refine lv_aload_n hx hb dX7_number_93 rfl (lv_at hl 0 rfl) ?_
                refine fa_getr (k := 397) (j := 403) CX HX2191 fl_X7_26 (by omega) rfl rfl hM.2.2.2.2.2.1 dX7_number_94 ?_
                refine lv_iload hx hb dX7_number_97 (lv_at hl 4 rfl) ?_
                refine fa_iald (k := 403) (j := 4 * no + u) CX HX2191 (by omega) rfl (by omega) (by first | decide | assumption) dX7_number_99 ?_
                refine lv_if_le (tgt := 184) hx hb dX7_number_100 (by decide) (fun c_100 => ?_) (fun c_100 => ?_)
                · refine lv_iload hx hb dX7_number_184 (lv_at hl 5 rfl) ?_
                  exact RET _ _ _ _ _ _ _ HX2191 dX7_number_186 hi_88.2.1.nar (⟨rfl, ⟨⟨hi_88.2.1, mt, no, ⟨by omega, by omega, by omega, fun z => (by first | (have := hi_88.2.2.1 z; omega) | exact absurd (by assumption) z), by omega⟩, (show v2190 397 12 = nI (mt) from hi_88.2.2.2.1), (show v2190 397 11 = nI (no) from hi_88.2.2.2.2.1), (show fa_f3 v v2190 from (fa_f3.tr fa_f3.rf hi_88.2.2.2.2.2))⟩, (fa_fr.tr fa_fr.rf (fa_fr.wide (fa_f3.fr hi_88.2.2.2.2.2) (by omega) (by omega)))⟩⟩)
                · refine lv_aload_n hx hb dX7_number_103 rfl (lv_at hl 0 rfl) ?_
                  refine lv_bipush (v := nI (48)) hx hb dX7_number_104 (by decide) ?_
                  refine lv_bipush (v := nI (57)) hx hb dX7_number_106 (by decide) ?_
                  refine fa_callVip (As := [.int (nI (48)), .int (nI (57))]) (rest := []) CX HX2191 (r_isSign l G n hn v2190 r hM (n9) (mt) (no) (by omega) (by omega) (by omega) ((hi_88.2.2.2.2.2.2 9 (by decide) (by decide)).trans g9) hi_88.2.2.2.1 hi_88.2.2.2.2.1 (nI (48)) (nI (57))) ln_X7_137 (by omega) rfl rfl rfl rfl (Nat.le_of_ble_eq_true rfl) hl.1 ⟨Nat.le_of_ble_eq_true rfl, Nat.le_of_ble_eq_true rfl⟩ ⟨Nat.le_refl _, Nat.le_refl _⟩ dX7_number_108 (fun x2193 H locs h2192 HX2194 => ?_)
                  obtain ⟨hb_x2193, hs_x2193⟩ := h2192
                  refine lv_if_eq (tgt := 184) hx hb dX7_number_111 (by decide) (fun c_111 => ?_) (fun c_111 => ?_)
                  · refine lv_iload hx hb dX7_number_184 (lv_at hl 5 rfl) ?_
                    exact RET _ _ _ _ _ _ _ HX2194 dX7_number_186 hi_88.2.1.nar (⟨rfl, ⟨⟨hi_88.2.1, mt, no, ⟨by omega, by omega, by omega, fun z => (by first | (have := hi_88.2.2.1 z; omega) | exact absurd (by assumption) z), by omega⟩, (show v2190 397 12 = nI (mt) from hi_88.2.2.2.1), (show v2190 397 11 = nI (no) from hi_88.2.2.2.2.1), (show fa_f3 v v2190 from (fa_f3.tr fa_f3.rf hi_88.2.2.2.2.2))⟩, (fa_fr.tr fa_fr.rf (fa_fr.wide (fa_f3.fr hi_88.2.2.2.2.2) (by omega) (by omega)))⟩⟩)
                  · have hl_x2193 := hs_x2193 c_111
                    refine lv_bipush (v := nI (10)) hx hb dX7_number_114 (by decide) ?_
                    refine lv_aload_n hx hb dX7_number_116 rfl (lv_at hl 0 rfl) ?_
                    refine fa_getr (k := 397) (j := 403) CX HX2194 fl_X7_26 (by omega) rfl rfl hM.2.2.2.2.2.1 dX7_number_117 ?_
                    refine lv_iload hx hb dX7_number_120 (lv_at hl 4 rfl) ?_
                    refine fa_iald (k := 403) (j := 4 * no + u) CX HX2194 (by omega) rfl (by omega) (by first | decide | assumption) dX7_number_122 ?_
                    refine lv_imul hx hb dX7_number_123 ?_
                    refine lv_aload_n hx hb dX7_number_124 rfl (lv_at hl 0 rfl) ?_
                    refine fa_getr (k := 397) (j := 405) CX HX2194 fl_X7_32 (by omega) rfl rfl hM.2.2.2.2.2.2.2 dX7_number_125 ?_
                    refine lv_aload_n hx hb dX7_number_128 rfl (lv_at hl 0 rfl) ?_
                    refine fa_geti (k := 397) CX HX2194 fl_X7_134 (by omega) rfl rfl dX7_number_129 ?_
                    rw [show v2190 397 12 = nI (mt) from hi_88.2.2.2.1]
                    refine fa_cald (k := 405) (j := mt) CX HX2194 (by omega) rfl (by omega) (by first | decide | assumption) dX7_number_132 ?_
                    refine lv_iadd hx hb dX7_number_133 ?_
                    refine lv_bipush (v := nI (48)) hx hb dX7_number_134 (by decide) ?_
                    refine lv_isub hx hb dX7_number_136 ?_
                    refine lv_iload_n hx hb dX7_number_137 rfl (lv_at hl 3 rfl) ?_
                    refine lv_icmp_gt (tgt := 184) hx hb dX7_number_138 (by decide) (fun c_138 => ?_) (fun c_138 => ?_)
                    · refine lv_iload hx hb dX7_number_184 (lv_at hl 5 rfl) ?_
                      exact RET _ _ _ _ _ _ _ HX2194 dX7_number_186 hi_88.2.1.nar (⟨rfl, ⟨⟨hi_88.2.1, mt, no, ⟨by omega, by omega, by omega, fun z => (by first | (have := hi_88.2.2.1 z; omega) | exact absurd (by assumption) z), by omega⟩, (show v2190 397 12 = nI (mt) from hi_88.2.2.2.1), (show v2190 397 11 = nI (no) from hi_88.2.2.2.2.1), (show fa_f3 v v2190 from (fa_f3.tr fa_f3.rf hi_88.2.2.2.2.2))⟩, (fa_fr.tr fa_fr.rf (fa_fr.wide (fa_f3.fr hi_88.2.2.2.2.2) (by omega) (by omega)))⟩⟩)
                    · refine lv_aload_n hx hb dX7_number_141 rfl (lv_at hl 0 rfl) ?_
                      refine fa_getr (k := 397) (j := 403) CX HX2194 fl_X7_26 (by omega) rfl rfl hM.2.2.2.2.2.1 dX7_number_142 ?_
                      refine lv_iload hx hb dX7_number_145 (lv_at hl 4 rfl) ?_
                      refine lv_bipush (v := nI (10)) hx hb dX7_number_147 (by decide) ?_
                      refine lv_aload_n hx hb dX7_number_149 rfl (lv_at hl 0 rfl) ?_
                      refine fa_getr (k := 397) (j := 403) CX HX2194 fl_X7_26 (by omega) rfl rfl hM.2.2.2.2.2.1 dX7_number_150 ?_
                      refine lv_iload hx hb dX7_number_153 (lv_at hl 4 rfl) ?_
                      refine fa_iald (k := 403) (j := 4 * no + u) CX HX2194 (by omega) rfl (by omega) (by first | decide | assumption) dX7_number_155 ?_
                      refine lv_imul hx hb dX7_number_156 ?_
                      refine lv_aload_n hx hb dX7_number_157 rfl (lv_at hl 0 rfl) ?_
                      refine fa_getr (k := 397) (j := 405) CX HX2194 fl_X7_32 (by omega) rfl rfl hM.2.2.2.2.2.2.2 dX7_number_158 ?_
                      refine lv_aload_n hx hb dX7_number_161 rfl (lv_at hl 0 rfl) ?_
                      refine fa_geti (k := 397) CX HX2194 fl_X7_134 (by omega) rfl rfl dX7_number_162 ?_
                      rw [show v2190 397 12 = nI (mt) from hi_88.2.2.2.1]
                      refine fa_cald (k := 405) (j := mt) CX HX2194 (by omega) rfl (by omega) (by first | decide | assumption) dX7_number_165 ?_
                      refine lv_iadd hx hb dX7_number_166 ?_
                      refine lv_bipush (v := nI (48)) hx hb dX7_number_167 (by decide) ?_
                      refine lv_isub hx hb dX7_number_169 ?_
                      refine fa_iast (k := 403) (j := 4 * no + u) CX HX2194 (by omega) rfl (by omega) (by first | decide | assumption) dX7_number_170 (fun H locs v2195 e2196 HX2197 => ?_)
                      refine lv_aload_n hx hb dX7_number_171 rfl (lv_at hl 0 rfl) ?_
                      refine lv_dup hx hb dX7_number_172 rfl ?_
                      refine fa_geti (k := 397) CX HX2197 fl_X7_134 (by omega) rfl rfl dX7_number_173 ?_
                      rw [show v2195 397 12 = nI (mt) from (by rw [e2196, fa_u_n _ _ (by omega)]; exact hi_88.2.2.2.1)]
                      refine lv_iconst (v := nI (1)) hx hb dX7_number_176 (by decide) ?_
                      refine fa_iaddN hx hb dX7_number_177 ?_
                      refine fa_puti (k := 397) CX HX2197 fl_X7_134 (by omega) rfl rfl rfl rfl dX7_number_178 (fun H locs v2198 e2199 HX2200 => ?_)
                      refine lv_goto (tgt := 88) hx hb dX7_number_181 (by decide) ?_
                      exact ih_88 (mt + 1) (ok) v2198 _ _ _ (by omega) (⟨⟨by omega, by omega⟩, hi_88.2.1, fun _ => by omega, (by rw [e2199, fa_u_s]), (by rw [e2199, fa_u_n _ _ (by omega)]; exact (by rw [e2196, fa_u_n _ _ (by omega)]; exact hi_88.2.2.2.2.1)), (by rw [e2199]; exact fa_f3.w (by rw [e2196]; exact fa_f3.u (fa_f3.tr fa_f3.rf hi_88.2.2.2.2.2)) (by decide))⟩) (lv_sub hl [0, 1, 2, 3, 4, 5] rfl) HX2200
          exact LOOP_88 (61 - (na + 1) + 1) (na + 1) (nI (1)) v2187 _ _ _ (Nat.lt_succ_self _) (⟨⟨by omega, by omega⟩, Or.inr rfl, fun _ => by omega, (by rw [e2188, fa_u_s]), (by rw [e2188, fa_u_n _ _ (by omega)]; exact (by rw [e2171, fa_u_n _ _ (by omega)]; exact gO)), (by rw [e2188]; exact fa_f3.w (by rw [e2171]; exact fa_f3.u fa_f3.rf) (by decide))⟩) (lv_sub hl [2, 3, 4, 5, 1, 0] rfl) HX2189
    · refine lv_iconst (v := nI (0)) hx hb dX7_number_30 (by decide) ?_
      exact RET _ _ _ _ _ _ _ HX2169 dX7_number_31 (by decide) (⟨rfl, ⟨⟨(Or.inl rfl), na, no, ⟨by omega, by omega, by omega, fun z => absurd (by decide) z, by omega⟩, (show v 397 12 = nI (na) from gA), (show v 397 11 = nI (no) from gO), (show fa_f3 v v from fa_f3.rf)⟩, fa_fr.rf⟩⟩)
set_option maxHeartbeats 4000000 in
set_option maxRecDepth 100000 in
theorem r_readsOrder (l : Launch) (G : fa_G) (n : Nat) (hn : 406 ≤ n) (v : fa_V) (r : fa_R) (hM : fa_RM r) (n9 na no : Nat) (h9 : n9 ≤ 60) (hna : na ≤ n9) (hno : 2 * no ≤ na) (g9 : v 397 9 = nI n9) (gA : v 397 12 = nI na) (gO : v 397 11 = nI no) : fa_MI l G n yX7_readsOrder cX7_readsOrder 2 (some .boolean) 4 [.ref (fa_B G + (397))] v r (fa_voi r (fun x v1 => (fa_bo x ∧ ∃ m o, (na ≤ m ∧ m ≤ n9 ∧ 2 * o ≤ m ∧ (¬ x = 0 → na + 1 ≤ m)) ∧ v1 397 12 = nI m ∧ v1 397 11 = nI o ∧ fa_f3 v v1) ∧ (fa_fr (397) (404) v v1))) := by
  refine fa_startZ (by decide +kernel) (Nat.le_of_ble_eq_true rfl) (fun p e s m args below meth c ls Q CX hl HX RET => ?_)
  have hl : lv_has ls 2 [(0, .ref (fa_B G + (397)))] := hl
  have hx := CX.1.1
  have hb := CX.1.2.1
  refine lv_aload_n hx hb dX7_readsOrder_0 rfl (lv_at hl 0 rfl) ?_
  refine fa_getr (k := 397) (j := 403) CX HX fl_X7_26 (by omega) rfl rfl hM.2.2.2.2.2.1 dX7_readsOrder_1 ?_
  refine lv_iconst (v := nI (4)) hx hb dX7_readsOrder_4 (by decide) ?_
  refine lv_aload_n hx hb dX7_readsOrder_5 rfl (lv_at hl 0 rfl) ?_
  refine fa_geti (k := 397) CX HX fl_X7_141 (by omega) rfl rfl dX7_readsOrder_6 ?_
  rw [show v 397 11 = nI (no) from gO]
  refine fa_imulN hx hb dX7_readsOrder_9 ?_
  refine lv_aload_n hx hb dX7_readsOrder_10 rfl (lv_at hl 0 rfl) ?_
  refine fa_geti (k := 397) CX HX fl_X7_134 (by omega) rfl rfl dX7_readsOrder_11 ?_
  rw [show v 397 12 = nI (na) from gA]
  refine fa_iast (k := 403) (j := 4 * no) CX HX (by omega) rfl (by omega) (by first | decide | assumption) dX7_readsOrder_14 (fun H locs v2201 e2202 HX2203 => ?_)
  refine lv_aload_n hx hb dX7_readsOrder_15 rfl (lv_at hl 0 rfl) ?_
  refine fa_getr (k := 397) (j := 403) CX HX2203 fl_X7_26 (by omega) rfl rfl hM.2.2.2.2.2.1 dX7_readsOrder_16 ?_
  refine lv_iconst (v := nI (4)) hx hb dX7_readsOrder_19 (by decide) ?_
  refine lv_aload_n hx hb dX7_readsOrder_20 rfl (lv_at hl 0 rfl) ?_
  refine fa_geti (k := 397) CX HX2203 fl_X7_141 (by omega) rfl rfl dX7_readsOrder_21 ?_
  rw [show v2201 397 11 = nI (no) from (by rw [e2202, fa_u_n _ _ (by omega)]; exact gO)]
  refine fa_imulN hx hb dX7_readsOrder_24 ?_
  refine lv_iconst (v := nI (1)) hx hb dX7_readsOrder_25 (by decide) ?_
  refine fa_iaddN hx hb dX7_readsOrder_26 ?_
  refine lv_aload_n hx hb dX7_readsOrder_27 rfl (lv_at hl 0 rfl) ?_
  refine fa_geti (k := 397) CX HX2203 fl_X7_134 (by omega) rfl rfl dX7_readsOrder_28 ?_
  rw [show v2201 397 12 = nI (na) from (by rw [e2202, fa_u_n _ _ (by omega)]; exact gA)]
  refine lv_aload_n hx hb dX7_readsOrder_31 rfl (lv_at hl 0 rfl) ?_
  refine fa_geti (k := 397) CX HX2203 fl_X7_131 (by omega) rfl rfl dX7_readsOrder_32 ?_
  rw [show v2201 397 9 = nI (n9) from (by rw [e2202, fa_u_n _ _ (by omega)]; exact g9)]
  refine lv_icmp_ge (tgt := 50) hx hb dX7_readsOrder_35 (by decide) (fun c_35 => ?_) (fun c_35 => ?_)
  · refine lv_iconst (v := nI (0)) hx hb dX7_readsOrder_50 (by decide) ?_
    refine fa_iast (k := 403) (j := 4 * no + 1) CX HX2203 (by omega) rfl (by omega) (by first | decide | assumption) dX7_readsOrder_51 (fun H locs v2204 e2205 HX2206 => ?_)
    refine lv_aload_n hx hb dX7_readsOrder_52 rfl (lv_at hl 0 rfl) ?_
    refine lv_bipush (v := nI (110)) hx hb dX7_readsOrder_53 (by decide) ?_
    refine fa_callViu (As := [.int (nI (110))]) (rest := []) CX HX2206 (r_accepts l G n hn v2204 r hM (n9) (na) (no) (by omega) (by omega) (by omega) (by rw [e2205, fa_u_n _ _ (by omega)]; exact (by rw [e2202, fa_u_n _ _ (by omega)]; exact g9)) (by rw [e2205, fa_u_n _ _ (by omega)]; exact (by rw [e2202, fa_u_n _ _ (by omega)]; exact gA)) (by rw [e2205, fa_u_n _ _ (by omega)]; exact (by rw [e2202, fa_u_n _ _ (by omega)]; exact gO)) (nI (110))) ln_X7_144 (by omega) rfl rfl rfl rfl (Nat.le_of_ble_eq_true rfl) hl.1 ⟨Nat.le_of_ble_eq_true rfl, Nat.le_of_ble_eq_true rfl⟩ ⟨Nat.le_refl _, Nat.le_refl _⟩ dX7_readsOrder_55 (fun x2208 v2209 H locs h2207 HX2210 => ?_)
    obtain ⟨hb_x2208, m_x2208, o_x2208, ⟨ha_x2208, hc_x2208, hd_x2208, hs_x2208, hx_x2208⟩, gm_x2208, go_x2208, hf_x2208⟩ := h2207.1
    refine lv_if_eq (tgt := 100) hx hb dX7_readsOrder_58 (by decide) (fun c_58 => ?_) (fun c_58 => ?_)
    · refine lv_aload_n hx hb dX7_readsOrder_100 rfl (lv_at hl 0 rfl) ?_
      refine lv_bipush (v := nI (97)) hx hb dX7_readsOrder_101 (by decide) ?_
      refine fa_callViu (As := [.int (nI (97))]) (rest := []) CX HX2210 (r_accepts l G n hn v2209 r hM (n9) (m_x2208) (o_x2208) (by omega) (by omega) (by omega) ((hf_x2208.2 9 (by decide) (by decide)).trans (by rw [e2205, fa_u_n _ _ (by omega)]; exact (by rw [e2202, fa_u_n _ _ (by omega)]; exact g9))) gm_x2208 go_x2208 (nI (97))) ln_X7_144 (by omega) rfl rfl rfl rfl (Nat.le_of_ble_eq_true rfl) hl.1 ⟨Nat.le_of_ble_eq_true rfl, Nat.le_of_ble_eq_true rfl⟩ ⟨Nat.le_refl _, Nat.le_refl _⟩ dX7_readsOrder_103 (fun x2212 v2213 H locs h2211 HX2214 => ?_)
      obtain ⟨hb_x2212, m_x2212, o_x2212, ⟨ha_x2212, hc_x2212, hd_x2212, hs_x2212, hx_x2212⟩, gm_x2212, go_x2212, hf_x2212⟩ := h2211.1
      refine lv_if_eq (tgt := 122) hx hb dX7_readsOrder_106 (by decide) (fun c_106 => ?_) (fun c_106 => ?_)
      · refine lv_aload_n hx hb dX7_readsOrder_122 rfl (lv_at hl 0 rfl) ?_
        refine lv_bipush (v := nI (115)) hx hb dX7_readsOrder_123 (by decide) ?_
        refine fa_callViu (As := [.int (nI (115))]) (rest := []) CX HX2214 (r_accepts l G n hn v2213 r hM (n9) (m_x2212) (o_x2212) (by omega) (by omega) (by omega) ((hf_x2212.2 9 (by decide) (by decide)).trans ((hf_x2208.2 9 (by decide) (by decide)).trans (by rw [e2205, fa_u_n _ _ (by omega)]; exact (by rw [e2202, fa_u_n _ _ (by omega)]; exact g9)))) gm_x2212 go_x2212 (nI (115))) ln_X7_144 (by omega) rfl rfl rfl rfl (Nat.le_of_ble_eq_true rfl) hl.1 ⟨Nat.le_of_ble_eq_true rfl, Nat.le_of_ble_eq_true rfl⟩ ⟨Nat.le_refl _, Nat.le_refl _⟩ dX7_readsOrder_125 (fun x2216 v2217 H locs h2215 HX2218 => ?_)
        obtain ⟨hb_x2216, m_x2216, o_x2216, ⟨ha_x2216, hc_x2216, hd_x2216, hs_x2216, hx_x2216⟩, gm_x2216, go_x2216, hf_x2216⟩ := h2215.1
        refine lv_if_ne (tgt := 140) hx hb dX7_readsOrder_128 (by decide) (fun c_128 => ?_) (fun c_128 => ?_)
        · have hl_x2216 := hs_x2216 c_128
          refine lv_aload_n hx hb dX7_readsOrder_140 rfl (lv_at hl 0 rfl) ?_
          refine lv_iconst (v := nI (2)) hx hb dX7_readsOrder_141 (by decide) ?_
          refine lv_iconst (v := nI (0)) hx hb dX7_readsOrder_142 (by decide) ?_
          refine lv_bipush (v := nI (7)) hx hb dX7_readsOrder_143 (by decide) ?_
          refine fa_callViu (As := [.int (nI (2)), .int (nI (0)), .int (nI (7))]) (rest := []) CX HX2218 (r_number l G n hn v2217 r hM (n9) (m_x2216) (o_x2216) (by omega) (by omega) (by omega) ((hf_x2216.2 9 (by decide) (by decide)).trans ((hf_x2212.2 9 (by decide) (by decide)).trans ((hf_x2208.2 9 (by decide) (by decide)).trans (by rw [e2205, fa_u_n _ _ (by omega)]; exact (by rw [e2202, fa_u_n _ _ (by omega)]; exact g9))))) gm_x2216 go_x2216 (2) (nI (0)) (nI (7)) (by omega)) ln_X7_148 (by omega) rfl rfl rfl rfl (Nat.le_of_ble_eq_true rfl) hl.1 ⟨Nat.le_of_ble_eq_true rfl, Nat.le_of_ble_eq_true rfl⟩ ⟨Nat.le_refl _, Nat.le_refl _⟩ dX7_readsOrder_145 (fun x2220 v2221 H locs h2219 HX2222 => ?_)
          obtain ⟨hb_x2220, m_x2220, o_x2220, ⟨ha_x2220, hc_x2220, hd_x2220, hs_x2220, hx_x2220⟩, gm_x2220, go_x2220, hf_x2220⟩ := h2219.1
          refine lv_if_eq (tgt := 176) hx hb dX7_readsOrder_148 (by decide) (fun c_148 => ?_) (fun c_148 => ?_)
          · refine lv_iconst (v := nI (0)) hx hb dX7_readsOrder_176 (by decide) ?_
            refine lv_istore_n (lv' := [(1, .int (nI (0))), (0, .ref (fa_B G + (397)))]) hx hb dX7_readsOrder_177 rfl hl (by decide) rfl (fun ls hl => ?_)
            refine lv_goto (tgt := 259) hx hb dX7_readsOrder_178 (by decide) ?_
            refine lv_aload_n hx hb dX7_readsOrder_259 rfl (lv_at hl 1 rfl) ?_
            refine lv_dup hx hb dX7_readsOrder_260 rfl ?_
            refine fa_geti (k := 397) CX HX2222 fl_X7_141 (by omega) rfl rfl dX7_readsOrder_261 ?_
            rw [show v2221 397 11 = nI (o_x2220) from go_x2220]
            refine lv_iload_n hx hb dX7_readsOrder_264 rfl (lv_at hl 0 rfl) ?_
            refine lv_if_eq (tgt := 272) hx hb dX7_readsOrder_265 (by decide) (fun c_265 => ?_) (fun c_265 => ?_)
            · refine lv_iconst (v := nI (0)) hx hb dX7_readsOrder_272 (by decide) ?_
              refine fa_iaddN hx hb dX7_readsOrder_273 ?_
              refine fa_puti (k := 397) CX HX2222 fl_X7_141 (by omega) rfl rfl rfl rfl dX7_readsOrder_274 (fun H locs v2223 e2224 HX2225 => ?_)
              refine lv_iload_n hx hb dX7_readsOrder_277 rfl (lv_at hl 0 rfl) ?_
              exact RET _ _ _ _ _ _ _ HX2225 dX7_readsOrder_278 (by decide) (⟨rfl, ⟨⟨(Or.inl rfl), m_x2220, o_x2220 + 0, ⟨by omega, by omega, by omega, fun z => absurd (by decide) z⟩, (show v2223 397 12 = nI (m_x2220) from (by rw [e2224, fa_u_n _ _ (by omega)]; exact gm_x2220)), (show v2223 397 11 = nI (o_x2220 + 0) from (by rw [e2224, fa_u_s])), (show fa_f3 v v2223 from (by rw [e2224]; exact fa_f3.w (fa_f3.tr (fa_f3.tr (fa_f3.tr (fa_f3.tr (by rw [e2205]; exact fa_f3.u (by rw [e2202]; exact fa_f3.u fa_f3.rf)) hf_x2208) hf_x2212) hf_x2216) hf_x2220) (by decide)))⟩, (by rw [e2224]; exact fa_fr.u (fa_fr.tr (fa_fr.tr (fa_fr.tr (fa_fr.tr (by rw [e2205]; exact fa_fr.u (by rw [e2202]; exact fa_fr.u fa_fr.rf (by omega)) (by omega)) (fa_fr.wide h2207.2 (by omega) (by omega))) (fa_fr.wide h2211.2 (by omega) (by omega))) (fa_fr.wide h2215.2 (by omega) (by omega))) (fa_fr.wide h2219.2 (by omega) (by omega))) (by omega))⟩⟩)
            · exact absurd (by try decide) c_265
          · have hl_x2220 := hs_x2220 c_148
            refine lv_aload_n hx hb dX7_readsOrder_151 rfl (lv_at hl 0 rfl) ?_
            refine lv_bipush (v := nI (44)) hx hb dX7_readsOrder_152 (by decide) ?_
            refine fa_callViu (As := [.int (nI (44))]) (rest := []) CX HX2222 (r_accepts l G n hn v2221 r hM (n9) (m_x2220) (o_x2220) (by omega) (by omega) (by omega) ((hf_x2220.2 9 (by decide) (by decide)).trans ((hf_x2216.2 9 (by decide) (by decide)).trans ((hf_x2212.2 9 (by decide) (by decide)).trans ((hf_x2208.2 9 (by decide) (by decide)).trans (by rw [e2205, fa_u_n _ _ (by omega)]; exact (by rw [e2202, fa_u_n _ _ (by omega)]; exact g9)))))) gm_x2220 go_x2220 (nI (44))) ln_X7_144 (by omega) rfl rfl rfl rfl (Nat.le_of_ble_eq_true rfl) hl.1 ⟨Nat.le_of_ble_eq_true rfl, Nat.le_of_ble_eq_true rfl⟩ ⟨Nat.le_refl _, Nat.le_refl _⟩ dX7_readsOrder_154 (fun x2227 v2228 H locs h2226 HX2229 => ?_)
            obtain ⟨hb_x2227, m_x2227, o_x2227, ⟨ha_x2227, hc_x2227, hd_x2227, hs_x2227, hx_x2227⟩, gm_x2227, go_x2227, hf_x2227⟩ := h2226.1
            refine lv_if_eq (tgt := 176) hx hb dX7_readsOrder_157 (by decide) (fun c_157 => ?_) (fun c_157 => ?_)
            · refine lv_iconst (v := nI (0)) hx hb dX7_readsOrder_176 (by decide) ?_
              refine lv_istore_n (lv' := [(1, .int (nI (0))), (0, .ref (fa_B G + (397)))]) hx hb dX7_readsOrder_177 rfl hl (by decide) rfl (fun ls hl => ?_)
              refine lv_goto (tgt := 259) hx hb dX7_readsOrder_178 (by decide) ?_
              refine lv_aload_n hx hb dX7_readsOrder_259 rfl (lv_at hl 1 rfl) ?_
              refine lv_dup hx hb dX7_readsOrder_260 rfl ?_
              refine fa_geti (k := 397) CX HX2229 fl_X7_141 (by omega) rfl rfl dX7_readsOrder_261 ?_
              rw [show v2228 397 11 = nI (o_x2227) from go_x2227]
              refine lv_iload_n hx hb dX7_readsOrder_264 rfl (lv_at hl 0 rfl) ?_
              refine lv_if_eq (tgt := 272) hx hb dX7_readsOrder_265 (by decide) (fun c_265 => ?_) (fun c_265 => ?_)
              · refine lv_iconst (v := nI (0)) hx hb dX7_readsOrder_272 (by decide) ?_
                refine fa_iaddN hx hb dX7_readsOrder_273 ?_
                refine fa_puti (k := 397) CX HX2229 fl_X7_141 (by omega) rfl rfl rfl rfl dX7_readsOrder_274 (fun H locs v2230 e2231 HX2232 => ?_)
                refine lv_iload_n hx hb dX7_readsOrder_277 rfl (lv_at hl 0 rfl) ?_
                exact RET _ _ _ _ _ _ _ HX2232 dX7_readsOrder_278 (by decide) (⟨rfl, ⟨⟨(Or.inl rfl), m_x2227, o_x2227 + 0, ⟨by omega, by omega, by omega, fun z => absurd (by decide) z⟩, (show v2230 397 12 = nI (m_x2227) from (by rw [e2231, fa_u_n _ _ (by omega)]; exact gm_x2227)), (show v2230 397 11 = nI (o_x2227 + 0) from (by rw [e2231, fa_u_s])), (show fa_f3 v v2230 from (by rw [e2231]; exact fa_f3.w (fa_f3.tr (fa_f3.tr (fa_f3.tr (fa_f3.tr (fa_f3.tr (by rw [e2205]; exact fa_f3.u (by rw [e2202]; exact fa_f3.u fa_f3.rf)) hf_x2208) hf_x2212) hf_x2216) hf_x2220) hf_x2227) (by decide)))⟩, (by rw [e2231]; exact fa_fr.u (fa_fr.tr (fa_fr.tr (fa_fr.tr (fa_fr.tr (fa_fr.tr (by rw [e2205]; exact fa_fr.u (by rw [e2202]; exact fa_fr.u fa_fr.rf (by omega)) (by omega)) (fa_fr.wide h2207.2 (by omega) (by omega))) (fa_fr.wide h2211.2 (by omega) (by omega))) (fa_fr.wide h2215.2 (by omega) (by omega))) (fa_fr.wide h2219.2 (by omega) (by omega))) (fa_fr.wide h2226.2 (by omega) (by omega))) (by omega))⟩⟩)
              · exact absurd (by try decide) c_265
            · have hl_x2227 := hs_x2227 c_157
              refine lv_aload_n hx hb dX7_readsOrder_160 rfl (lv_at hl 0 rfl) ?_
              refine lv_iconst (v := nI (3)) hx hb dX7_readsOrder_161 (by decide) ?_
              refine lv_iconst (v := nI (0)) hx hb dX7_readsOrder_162 (by decide) ?_
              refine lv_sipush (v := nI (199)) hx hb dX7_readsOrder_163 (by decide) ?_
              refine fa_callViu (As := [.int (nI (3)), .int (nI (0)), .int (nI (199))]) (rest := []) CX HX2229 (r_number l G n hn v2228 r hM (n9) (m_x2227) (o_x2227) (by omega) (by omega) (by omega) ((hf_x2227.2 9 (by decide) (by decide)).trans ((hf_x2220.2 9 (by decide) (by decide)).trans ((hf_x2216.2 9 (by decide) (by decide)).trans ((hf_x2212.2 9 (by decide) (by decide)).trans ((hf_x2208.2 9 (by decide) (by decide)).trans (by rw [e2205, fa_u_n _ _ (by omega)]; exact (by rw [e2202, fa_u_n _ _ (by omega)]; exact g9))))))) gm_x2227 go_x2227 (3) (nI (0)) (nI (199)) (by omega)) ln_X7_148 (by omega) rfl rfl rfl rfl (Nat.le_of_ble_eq_true rfl) hl.1 ⟨Nat.le_of_ble_eq_true rfl, Nat.le_of_ble_eq_true rfl⟩ ⟨Nat.le_refl _, Nat.le_refl _⟩ dX7_readsOrder_166 (fun x2234 v2235 H locs h2233 HX2236 => ?_)
              obtain ⟨hb_x2234, m_x2234, o_x2234, ⟨ha_x2234, hc_x2234, hd_x2234, hs_x2234, hx_x2234⟩, gm_x2234, go_x2234, hf_x2234⟩ := h2233.1
              refine lv_if_eq (tgt := 176) hx hb dX7_readsOrder_169 (by decide) (fun c_169 => ?_) (fun c_169 => ?_)
              · refine lv_iconst (v := nI (0)) hx hb dX7_readsOrder_176 (by decide) ?_
                refine lv_istore_n (lv' := [(1, .int (nI (0))), (0, .ref (fa_B G + (397)))]) hx hb dX7_readsOrder_177 rfl hl (by decide) rfl (fun ls hl => ?_)
                refine lv_goto (tgt := 259) hx hb dX7_readsOrder_178 (by decide) ?_
                refine lv_aload_n hx hb dX7_readsOrder_259 rfl (lv_at hl 1 rfl) ?_
                refine lv_dup hx hb dX7_readsOrder_260 rfl ?_
                refine fa_geti (k := 397) CX HX2236 fl_X7_141 (by omega) rfl rfl dX7_readsOrder_261 ?_
                rw [show v2235 397 11 = nI (o_x2234) from go_x2234]
                refine lv_iload_n hx hb dX7_readsOrder_264 rfl (lv_at hl 0 rfl) ?_
                refine lv_if_eq (tgt := 272) hx hb dX7_readsOrder_265 (by decide) (fun c_265 => ?_) (fun c_265 => ?_)
                · refine lv_iconst (v := nI (0)) hx hb dX7_readsOrder_272 (by decide) ?_
                  refine fa_iaddN hx hb dX7_readsOrder_273 ?_
                  refine fa_puti (k := 397) CX HX2236 fl_X7_141 (by omega) rfl rfl rfl rfl dX7_readsOrder_274 (fun H locs v2237 e2238 HX2239 => ?_)
                  refine lv_iload_n hx hb dX7_readsOrder_277 rfl (lv_at hl 0 rfl) ?_
                  exact RET _ _ _ _ _ _ _ HX2239 dX7_readsOrder_278 (by decide) (⟨rfl, ⟨⟨(Or.inl rfl), m_x2234, o_x2234 + 0, ⟨by omega, by omega, by omega, fun z => absurd (by decide) z⟩, (show v2237 397 12 = nI (m_x2234) from (by rw [e2238, fa_u_n _ _ (by omega)]; exact gm_x2234)), (show v2237 397 11 = nI (o_x2234 + 0) from (by rw [e2238, fa_u_s])), (show fa_f3 v v2237 from (by rw [e2238]; exact fa_f3.w (fa_f3.tr (fa_f3.tr (fa_f3.tr (fa_f3.tr (fa_f3.tr (fa_f3.tr (by rw [e2205]; exact fa_f3.u (by rw [e2202]; exact fa_f3.u fa_f3.rf)) hf_x2208) hf_x2212) hf_x2216) hf_x2220) hf_x2227) hf_x2234) (by decide)))⟩, (by rw [e2238]; exact fa_fr.u (fa_fr.tr (fa_fr.tr (fa_fr.tr (fa_fr.tr (fa_fr.tr (fa_fr.tr (by rw [e2205]; exact fa_fr.u (by rw [e2202]; exact fa_fr.u fa_fr.rf (by omega)) (by omega)) (fa_fr.wide h2207.2 (by omega) (by omega))) (fa_fr.wide h2211.2 (by omega) (by omega))) (fa_fr.wide h2215.2 (by omega) (by omega))) (fa_fr.wide h2219.2 (by omega) (by omega))) (fa_fr.wide h2226.2 (by omega) (by omega))) (fa_fr.wide h2233.2 (by omega) (by omega))) (by omega))⟩⟩)
                · exact absurd (by try decide) c_265
              · have hl_x2234 := hs_x2234 c_169
                refine lv_iconst (v := nI (1)) hx hb dX7_readsOrder_172 (by decide) ?_
                refine lv_goto (tgt := 177) hx hb dX7_readsOrder_173 (by decide) ?_
                refine lv_istore_n (lv' := [(1, .int (nI (1))), (0, .ref (fa_B G + (397)))]) hx hb dX7_readsOrder_177 rfl hl (by decide) rfl (fun ls hl => ?_)
                refine lv_goto (tgt := 259) hx hb dX7_readsOrder_178 (by decide) ?_
                refine lv_aload_n hx hb dX7_readsOrder_259 rfl (lv_at hl 1 rfl) ?_
                refine lv_dup hx hb dX7_readsOrder_260 rfl ?_
                refine fa_geti (k := 397) CX HX2236 fl_X7_141 (by omega) rfl rfl dX7_readsOrder_261 ?_
                rw [show v2235 397 11 = nI (o_x2234) from go_x2234]
                refine lv_iload_n hx hb dX7_readsOrder_264 rfl (lv_at hl 0 rfl) ?_
                refine lv_if_eq (tgt := 272) hx hb dX7_readsOrder_265 (by decide) (fun c_265 => ?_) (fun c_265 => ?_)
                · exact absurd c_265 (by try decide)
                · refine lv_iconst (v := nI (1)) hx hb dX7_readsOrder_268 (by decide) ?_
                  refine lv_goto (tgt := 273) hx hb dX7_readsOrder_269 (by decide) ?_
                  refine fa_iaddN hx hb dX7_readsOrder_273 ?_
                  refine fa_puti (k := 397) CX HX2236 fl_X7_141 (by omega) rfl rfl rfl rfl dX7_readsOrder_274 (fun H locs v2240 e2241 HX2242 => ?_)
                  refine lv_iload_n hx hb dX7_readsOrder_277 rfl (lv_at hl 0 rfl) ?_
                  exact RET _ _ _ _ _ _ _ HX2242 dX7_readsOrder_278 (by decide) (⟨rfl, ⟨⟨(Or.inr rfl), m_x2234, o_x2234 + 1, ⟨by omega, by omega, by omega, fun _ => by omega⟩, (show v2240 397 12 = nI (m_x2234) from (by rw [e2241, fa_u_n _ _ (by omega)]; exact gm_x2234)), (show v2240 397 11 = nI (o_x2234 + 1) from (by rw [e2241, fa_u_s])), (show fa_f3 v v2240 from (by rw [e2241]; exact fa_f3.w (fa_f3.tr (fa_f3.tr (fa_f3.tr (fa_f3.tr (fa_f3.tr (fa_f3.tr (by rw [e2205]; exact fa_f3.u (by rw [e2202]; exact fa_f3.u fa_f3.rf)) hf_x2208) hf_x2212) hf_x2216) hf_x2220) hf_x2227) hf_x2234) (by decide)))⟩, (by rw [e2241]; exact fa_fr.u (fa_fr.tr (fa_fr.tr (fa_fr.tr (fa_fr.tr (fa_fr.tr (fa_fr.tr (by rw [e2205]; exact fa_fr.u (by rw [e2202]; exact fa_fr.u fa_fr.rf (by omega)) (by omega)) (fa_fr.wide h2207.2 (by omega) (by omega))) (fa_fr.wide h2211.2 (by omega) (by omega))) (fa_fr.wide h2215.2 (by omega) (by omega))) (fa_fr.wide h2219.2 (by omega) (by omega))) (fa_fr.wide h2226.2 (by omega) (by omega))) (fa_fr.wide h2233.2 (by omega) (by omega))) (by omega))⟩⟩)
        · refine lv_aload_n hx hb dX7_readsOrder_131 rfl (lv_at hl 0 rfl) ?_
          refine lv_bipush (v := nI (108)) hx hb dX7_readsOrder_132 (by decide) ?_
          refine fa_callViu (As := [.int (nI (108))]) (rest := []) CX HX2218 (r_accepts l G n hn v2217 r hM (n9) (m_x2216) (o_x2216) (by omega) (by omega) (by omega) ((hf_x2216.2 9 (by decide) (by decide)).trans ((hf_x2212.2 9 (by decide) (by decide)).trans ((hf_x2208.2 9 (by decide) (by decide)).trans (by rw [e2205, fa_u_n _ _ (by omega)]; exact (by rw [e2202, fa_u_n _ _ (by omega)]; exact g9))))) gm_x2216 go_x2216 (nI (108))) ln_X7_144 (by omega) rfl rfl rfl rfl (Nat.le_of_ble_eq_true rfl) hl.1 ⟨Nat.le_of_ble_eq_true rfl, Nat.le_of_ble_eq_true rfl⟩ ⟨Nat.le_refl _, Nat.le_refl _⟩ dX7_readsOrder_134 (fun x2244 v2245 H locs h2243 HX2246 => ?_)
          obtain ⟨hb_x2244, m_x2244, o_x2244, ⟨ha_x2244, hc_x2244, hd_x2244, hs_x2244, hx_x2244⟩, gm_x2244, go_x2244, hf_x2244⟩ := h2243.1
          refine lv_if_eq (tgt := 181) hx hb dX7_readsOrder_137 (by decide) (fun c_137 => ?_) (fun c_137 => ?_)
          · refine lv_aload_n hx hb dX7_readsOrder_181 rfl (lv_at hl 0 rfl) ?_
            refine lv_bipush (v := nI (102)) hx hb dX7_readsOrder_182 (by decide) ?_
            refine fa_callViu (As := [.int (nI (102))]) (rest := []) CX HX2246 (r_accepts l G n hn v2245 r hM (n9) (m_x2244) (o_x2244) (by omega) (by omega) (by omega) ((hf_x2244.2 9 (by decide) (by decide)).trans ((hf_x2216.2 9 (by decide) (by decide)).trans ((hf_x2212.2 9 (by decide) (by decide)).trans ((hf_x2208.2 9 (by decide) (by decide)).trans (by rw [e2205, fa_u_n _ _ (by omega)]; exact (by rw [e2202, fa_u_n _ _ (by omega)]; exact g9)))))) gm_x2244 go_x2244 (nI (102))) ln_X7_144 (by omega) rfl rfl rfl rfl (Nat.le_of_ble_eq_true rfl) hl.1 ⟨Nat.le_of_ble_eq_true rfl, Nat.le_of_ble_eq_true rfl⟩ ⟨Nat.le_refl _, Nat.le_refl _⟩ dX7_readsOrder_184 (fun x2248 v2249 H locs h2247 HX2250 => ?_)
            obtain ⟨hb_x2248, m_x2248, o_x2248, ⟨ha_x2248, hc_x2248, hd_x2248, hs_x2248, hx_x2248⟩, gm_x2248, go_x2248, hf_x2248⟩ := h2247.1
            refine lv_if_eq (tgt := 232) hx hb dX7_readsOrder_187 (by decide) (fun c_187 => ?_) (fun c_187 => ?_)
            · refine lv_aload_n hx hb dX7_readsOrder_232 rfl (lv_at hl 0 rfl) ?_
              refine lv_bipush (v := nI (100)) hx hb dX7_readsOrder_233 (by decide) ?_
              refine fa_callViu (As := [.int (nI (100))]) (rest := []) CX HX2250 (r_accepts l G n hn v2249 r hM (n9) (m_x2248) (o_x2248) (by omega) (by omega) (by omega) ((hf_x2248.2 9 (by decide) (by decide)).trans ((hf_x2244.2 9 (by decide) (by decide)).trans ((hf_x2216.2 9 (by decide) (by decide)).trans ((hf_x2212.2 9 (by decide) (by decide)).trans ((hf_x2208.2 9 (by decide) (by decide)).trans (by rw [e2205, fa_u_n _ _ (by omega)]; exact (by rw [e2202, fa_u_n _ _ (by omega)]; exact g9))))))) gm_x2248 go_x2248 (nI (100))) ln_X7_144 (by omega) rfl rfl rfl rfl (Nat.le_of_ble_eq_true rfl) hl.1 ⟨Nat.le_of_ble_eq_true rfl, Nat.le_of_ble_eq_true rfl⟩ ⟨Nat.le_refl _, Nat.le_refl _⟩ dX7_readsOrder_235 (fun x2252 v2253 H locs h2251 HX2254 => ?_)
              obtain ⟨hb_x2252, m_x2252, o_x2252, ⟨ha_x2252, hc_x2252, hd_x2252, hs_x2252, hx_x2252⟩, gm_x2252, go_x2252, hf_x2252⟩ := h2251.1
              refine lv_if_eq (tgt := 257) hx hb dX7_readsOrder_238 (by decide) (fun c_238 => ?_) (fun c_238 => ?_)
              · refine lv_iconst (v := nI (0)) hx hb dX7_readsOrder_257 (by decide) ?_
                refine lv_istore_n (lv' := [(1, .int (nI (0))), (0, .ref (fa_B G + (397)))]) hx hb dX7_readsOrder_258 rfl hl (by decide) rfl (fun ls hl => ?_)
                refine lv_aload_n hx hb dX7_readsOrder_259 rfl (lv_at hl 1 rfl) ?_
                refine lv_dup hx hb dX7_readsOrder_260 rfl ?_
                refine fa_geti (k := 397) CX HX2254 fl_X7_141 (by omega) rfl rfl dX7_readsOrder_261 ?_
                rw [show v2253 397 11 = nI (o_x2252) from go_x2252]
                refine lv_iload_n hx hb dX7_readsOrder_264 rfl (lv_at hl 0 rfl) ?_
                refine lv_if_eq (tgt := 272) hx hb dX7_readsOrder_265 (by decide) (fun c_265 => ?_) (fun c_265 => ?_)
                · refine lv_iconst (v := nI (0)) hx hb dX7_readsOrder_272 (by decide) ?_
                  refine fa_iaddN hx hb dX7_readsOrder_273 ?_
                  refine fa_puti (k := 397) CX HX2254 fl_X7_141 (by omega) rfl rfl rfl rfl dX7_readsOrder_274 (fun H locs v2255 e2256 HX2257 => ?_)
                  refine lv_iload_n hx hb dX7_readsOrder_277 rfl (lv_at hl 0 rfl) ?_
                  exact RET _ _ _ _ _ _ _ HX2257 dX7_readsOrder_278 (by decide) (⟨rfl, ⟨⟨(Or.inl rfl), m_x2252, o_x2252 + 0, ⟨by omega, by omega, by omega, fun z => absurd (by decide) z⟩, (show v2255 397 12 = nI (m_x2252) from (by rw [e2256, fa_u_n _ _ (by omega)]; exact gm_x2252)), (show v2255 397 11 = nI (o_x2252 + 0) from (by rw [e2256, fa_u_s])), (show fa_f3 v v2255 from (by rw [e2256]; exact fa_f3.w (fa_f3.tr (fa_f3.tr (fa_f3.tr (fa_f3.tr (fa_f3.tr (fa_f3.tr (by rw [e2205]; exact fa_f3.u (by rw [e2202]; exact fa_f3.u fa_f3.rf)) hf_x2208) hf_x2212) hf_x2216) hf_x2244) hf_x2248) hf_x2252) (by decide)))⟩, (by rw [e2256]; exact fa_fr.u (fa_fr.tr (fa_fr.tr (fa_fr.tr (fa_fr.tr (fa_fr.tr (fa_fr.tr (by rw [e2205]; exact fa_fr.u (by rw [e2202]; exact fa_fr.u fa_fr.rf (by omega)) (by omega)) (fa_fr.wide h2207.2 (by omega) (by omega))) (fa_fr.wide h2211.2 (by omega) (by omega))) (fa_fr.wide h2215.2 (by omega) (by omega))) (fa_fr.wide h2243.2 (by omega) (by omega))) (fa_fr.wide h2247.2 (by omega) (by omega))) (fa_fr.wide h2251.2 (by omega) (by omega))) (by omega))⟩⟩)
                · exact absurd (by try decide) c_265
              · have hl_x2252 := hs_x2252 c_238
                refine lv_aload_n hx hb dX7_readsOrder_241 rfl (lv_at hl 0 rfl) ?_
                refine lv_iconst (v := nI (2)) hx hb dX7_readsOrder_242 (by decide) ?_
                refine lv_iconst (v := nI (1)) hx hb dX7_readsOrder_243 (by decide) ?_
                refine lv_sipush (v := nI (400)) hx hb dX7_readsOrder_244 (by decide) ?_
                refine fa_callViu (As := [.int (nI (2)), .int (nI (1)), .int (nI (400))]) (rest := []) CX HX2254 (r_number l G n hn v2253 r hM (n9) (m_x2252) (o_x2252) (by omega) (by omega) (by omega) ((hf_x2252.2 9 (by decide) (by decide)).trans ((hf_x2248.2 9 (by decide) (by decide)).trans ((hf_x2244.2 9 (by decide) (by decide)).trans ((hf_x2216.2 9 (by decide) (by decide)).trans ((hf_x2212.2 9 (by decide) (by decide)).trans ((hf_x2208.2 9 (by decide) (by decide)).trans (by rw [e2205, fa_u_n _ _ (by omega)]; exact (by rw [e2202, fa_u_n _ _ (by omega)]; exact g9)))))))) gm_x2252 go_x2252 (2) (nI (1)) (nI (400)) (by omega)) ln_X7_148 (by omega) rfl rfl rfl rfl (Nat.le_of_ble_eq_true rfl) hl.1 ⟨Nat.le_of_ble_eq_true rfl, Nat.le_of_ble_eq_true rfl⟩ ⟨Nat.le_refl _, Nat.le_refl _⟩ dX7_readsOrder_247 (fun x2259 v2260 H locs h2258 HX2261 => ?_)
                obtain ⟨hb_x2259, m_x2259, o_x2259, ⟨ha_x2259, hc_x2259, hd_x2259, hs_x2259, hx_x2259⟩, gm_x2259, go_x2259, hf_x2259⟩ := h2258.1
                refine lv_if_eq (tgt := 257) hx hb dX7_readsOrder_250 (by decide) (fun c_250 => ?_) (fun c_250 => ?_)
                · refine lv_iconst (v := nI (0)) hx hb dX7_readsOrder_257 (by decide) ?_
                  refine lv_istore_n (lv' := [(1, .int (nI (0))), (0, .ref (fa_B G + (397)))]) hx hb dX7_readsOrder_258 rfl hl (by decide) rfl (fun ls hl => ?_)
                  refine lv_aload_n hx hb dX7_readsOrder_259 rfl (lv_at hl 1 rfl) ?_
                  refine lv_dup hx hb dX7_readsOrder_260 rfl ?_
                  refine fa_geti (k := 397) CX HX2261 fl_X7_141 (by omega) rfl rfl dX7_readsOrder_261 ?_
                  rw [show v2260 397 11 = nI (o_x2259) from go_x2259]
                  refine lv_iload_n hx hb dX7_readsOrder_264 rfl (lv_at hl 0 rfl) ?_
                  refine lv_if_eq (tgt := 272) hx hb dX7_readsOrder_265 (by decide) (fun c_265 => ?_) (fun c_265 => ?_)
                  · refine lv_iconst (v := nI (0)) hx hb dX7_readsOrder_272 (by decide) ?_
                    refine fa_iaddN hx hb dX7_readsOrder_273 ?_
                    refine fa_puti (k := 397) CX HX2261 fl_X7_141 (by omega) rfl rfl rfl rfl dX7_readsOrder_274 (fun H locs v2262 e2263 HX2264 => ?_)
                    refine lv_iload_n hx hb dX7_readsOrder_277 rfl (lv_at hl 0 rfl) ?_
                    exact RET _ _ _ _ _ _ _ HX2264 dX7_readsOrder_278 (by decide) (⟨rfl, ⟨⟨(Or.inl rfl), m_x2259, o_x2259 + 0, ⟨by omega, by omega, by omega, fun z => absurd (by decide) z⟩, (show v2262 397 12 = nI (m_x2259) from (by rw [e2263, fa_u_n _ _ (by omega)]; exact gm_x2259)), (show v2262 397 11 = nI (o_x2259 + 0) from (by rw [e2263, fa_u_s])), (show fa_f3 v v2262 from (by rw [e2263]; exact fa_f3.w (fa_f3.tr (fa_f3.tr (fa_f3.tr (fa_f3.tr (fa_f3.tr (fa_f3.tr (fa_f3.tr (by rw [e2205]; exact fa_f3.u (by rw [e2202]; exact fa_f3.u fa_f3.rf)) hf_x2208) hf_x2212) hf_x2216) hf_x2244) hf_x2248) hf_x2252) hf_x2259) (by decide)))⟩, (by rw [e2263]; exact fa_fr.u (fa_fr.tr (fa_fr.tr (fa_fr.tr (fa_fr.tr (fa_fr.tr (fa_fr.tr (fa_fr.tr (by rw [e2205]; exact fa_fr.u (by rw [e2202]; exact fa_fr.u fa_fr.rf (by omega)) (by omega)) (fa_fr.wide h2207.2 (by omega) (by omega))) (fa_fr.wide h2211.2 (by omega) (by omega))) (fa_fr.wide h2215.2 (by omega) (by omega))) (fa_fr.wide h2243.2 (by omega) (by omega))) (fa_fr.wide h2247.2 (by omega) (by omega))) (fa_fr.wide h2251.2 (by omega) (by omega))) (fa_fr.wide h2258.2 (by omega) (by omega))) (by omega))⟩⟩)
                  · exact absurd (by try decide) c_265
                · have hl_x2259 := hs_x2259 c_250
                  refine lv_iconst (v := nI (1)) hx hb dX7_readsOrder_253 (by decide) ?_
                  refine lv_goto (tgt := 258) hx hb dX7_readsOrder_254 (by decide) ?_
                  refine lv_istore_n (lv' := [(1, .int (nI (1))), (0, .ref (fa_B G + (397)))]) hx hb dX7_readsOrder_258 rfl hl (by decide) rfl (fun ls hl => ?_)
                  refine lv_aload_n hx hb dX7_readsOrder_259 rfl (lv_at hl 1 rfl) ?_
                  refine lv_dup hx hb dX7_readsOrder_260 rfl ?_
                  refine fa_geti (k := 397) CX HX2261 fl_X7_141 (by omega) rfl rfl dX7_readsOrder_261 ?_
                  rw [show v2260 397 11 = nI (o_x2259) from go_x2259]
                  refine lv_iload_n hx hb dX7_readsOrder_264 rfl (lv_at hl 0 rfl) ?_
                  refine lv_if_eq (tgt := 272) hx hb dX7_readsOrder_265 (by decide) (fun c_265 => ?_) (fun c_265 => ?_)
                  · exact absurd c_265 (by try decide)
                  · refine lv_iconst (v := nI (1)) hx hb dX7_readsOrder_268 (by decide) ?_
                    refine lv_goto (tgt := 273) hx hb dX7_readsOrder_269 (by decide) ?_
                    refine fa_iaddN hx hb dX7_readsOrder_273 ?_
                    refine fa_puti (k := 397) CX HX2261 fl_X7_141 (by omega) rfl rfl rfl rfl dX7_readsOrder_274 (fun H locs v2265 e2266 HX2267 => ?_)
                    refine lv_iload_n hx hb dX7_readsOrder_277 rfl (lv_at hl 0 rfl) ?_
                    exact RET _ _ _ _ _ _ _ HX2267 dX7_readsOrder_278 (by decide) (⟨rfl, ⟨⟨(Or.inr rfl), m_x2259, o_x2259 + 1, ⟨by omega, by omega, by omega, fun _ => by omega⟩, (show v2265 397 12 = nI (m_x2259) from (by rw [e2266, fa_u_n _ _ (by omega)]; exact gm_x2259)), (show v2265 397 11 = nI (o_x2259 + 1) from (by rw [e2266, fa_u_s])), (show fa_f3 v v2265 from (by rw [e2266]; exact fa_f3.w (fa_f3.tr (fa_f3.tr (fa_f3.tr (fa_f3.tr (fa_f3.tr (fa_f3.tr (fa_f3.tr (by rw [e2205]; exact fa_f3.u (by rw [e2202]; exact fa_f3.u fa_f3.rf)) hf_x2208) hf_x2212) hf_x2216) hf_x2244) hf_x2248) hf_x2252) hf_x2259) (by decide)))⟩, (by rw [e2266]; exact fa_fr.u (fa_fr.tr (fa_fr.tr (fa_fr.tr (fa_fr.tr (fa_fr.tr (fa_fr.tr (fa_fr.tr (by rw [e2205]; exact fa_fr.u (by rw [e2202]; exact fa_fr.u fa_fr.rf (by omega)) (by omega)) (fa_fr.wide h2207.2 (by omega) (by omega))) (fa_fr.wide h2211.2 (by omega) (by omega))) (fa_fr.wide h2215.2 (by omega) (by omega))) (fa_fr.wide h2243.2 (by omega) (by omega))) (fa_fr.wide h2247.2 (by omega) (by omega))) (fa_fr.wide h2251.2 (by omega) (by omega))) (fa_fr.wide h2258.2 (by omega) (by omega))) (by omega))⟩⟩)
            · have hl_x2248 := hs_x2248 c_187
              refine lv_aload_n hx hb dX7_readsOrder_190 rfl (lv_at hl 0 rfl) ?_
              refine lv_iconst (v := nI (2)) hx hb dX7_readsOrder_191 (by decide) ?_
              refine lv_iconst (v := nI (0)) hx hb dX7_readsOrder_192 (by decide) ?_
              refine lv_sipush (v := nI (199)) hx hb dX7_readsOrder_193 (by decide) ?_
              refine fa_callViu (As := [.int (nI (2)), .int (nI (0)), .int (nI (199))]) (rest := []) CX HX2250 (r_number l G n hn v2249 r hM (n9) (m_x2248) (o_x2248) (by omega) (by omega) (by omega) ((hf_x2248.2 9 (by decide) (by decide)).trans ((hf_x2244.2 9 (by decide) (by decide)).trans ((hf_x2216.2 9 (by decide) (by decide)).trans ((hf_x2212.2 9 (by decide) (by decide)).trans ((hf_x2208.2 9 (by decide) (by decide)).trans (by rw [e2205, fa_u_n _ _ (by omega)]; exact (by rw [e2202, fa_u_n _ _ (by omega)]; exact g9))))))) gm_x2248 go_x2248 (2) (nI (0)) (nI (199)) (by omega)) ln_X7_148 (by omega) rfl rfl rfl rfl (Nat.le_of_ble_eq_true rfl) hl.1 ⟨Nat.le_of_ble_eq_true rfl, Nat.le_of_ble_eq_true rfl⟩ ⟨Nat.le_refl _, Nat.le_refl _⟩ dX7_readsOrder_196 (fun x2269 v2270 H locs h2268 HX2271 => ?_)
              obtain ⟨hb_x2269, m_x2269, o_x2269, ⟨ha_x2269, hc_x2269, hd_x2269, hs_x2269, hx_x2269⟩, gm_x2269, go_x2269, hf_x2269⟩ := h2268.1
              refine lv_if_eq (tgt := 227) hx hb dX7_readsOrder_199 (by decide) (fun c_199 => ?_) (fun c_199 => ?_)
              · refine lv_iconst (v := nI (0)) hx hb dX7_readsOrder_227 (by decide) ?_
                refine lv_istore_n (lv' := [(1, .int (nI (0))), (0, .ref (fa_B G + (397)))]) hx hb dX7_readsOrder_228 rfl hl (by decide) rfl (fun ls hl => ?_)
                refine lv_goto (tgt := 259) hx hb dX7_readsOrder_229 (by decide) ?_
                refine lv_aload_n hx hb dX7_readsOrder_259 rfl (lv_at hl 1 rfl) ?_
                refine lv_dup hx hb dX7_readsOrder_260 rfl ?_
                refine fa_geti (k := 397) CX HX2271 fl_X7_141 (by omega) rfl rfl dX7_readsOrder_261 ?_
                rw [show v2270 397 11 = nI (o_x2269) from go_x2269]
                refine lv_iload_n hx hb dX7_readsOrder_264 rfl (lv_at hl 0 rfl) ?_
                refine lv_if_eq (tgt := 272) hx hb dX7_readsOrder_265 (by decide) (fun c_265 => ?_) (fun c_265 => ?_)
                · refine lv_iconst (v := nI (0)) hx hb dX7_readsOrder_272 (by decide) ?_
                  refine fa_iaddN hx hb dX7_readsOrder_273 ?_
                  refine fa_puti (k := 397) CX HX2271 fl_X7_141 (by omega) rfl rfl rfl rfl dX7_readsOrder_274 (fun H locs v2272 e2273 HX2274 => ?_)
                  refine lv_iload_n hx hb dX7_readsOrder_277 rfl (lv_at hl 0 rfl) ?_
                  exact RET _ _ _ _ _ _ _ HX2274 dX7_readsOrder_278 (by decide) (⟨rfl, ⟨⟨(Or.inl rfl), m_x2269, o_x2269 + 0, ⟨by omega, by omega, by omega, fun z => absurd (by decide) z⟩, (show v2272 397 12 = nI (m_x2269) from (by rw [e2273, fa_u_n _ _ (by omega)]; exact gm_x2269)), (show v2272 397 11 = nI (o_x2269 + 0) from (by rw [e2273, fa_u_s])), (show fa_f3 v v2272 from (by rw [e2273]; exact fa_f3.w (fa_f3.tr (fa_f3.tr (fa_f3.tr (fa_f3.tr (fa_f3.tr (fa_f3.tr (by rw [e2205]; exact fa_f3.u (by rw [e2202]; exact fa_f3.u fa_f3.rf)) hf_x2208) hf_x2212) hf_x2216) hf_x2244) hf_x2248) hf_x2269) (by decide)))⟩, (by rw [e2273]; exact fa_fr.u (fa_fr.tr (fa_fr.tr (fa_fr.tr (fa_fr.tr (fa_fr.tr (fa_fr.tr (by rw [e2205]; exact fa_fr.u (by rw [e2202]; exact fa_fr.u fa_fr.rf (by omega)) (by omega)) (fa_fr.wide h2207.2 (by omega) (by omega))) (fa_fr.wide h2211.2 (by omega) (by omega))) (fa_fr.wide h2215.2 (by omega) (by omega))) (fa_fr.wide h2243.2 (by omega) (by omega))) (fa_fr.wide h2247.2 (by omega) (by omega))) (fa_fr.wide h2268.2 (by omega) (by omega))) (by omega))⟩⟩)
                · exact absurd (by try decide) c_265
              · have hl_x2269 := hs_x2269 c_199
                refine lv_aload_n hx hb dX7_readsOrder_202 rfl (lv_at hl 0 rfl) ?_
                refine lv_bipush (v := nI (44)) hx hb dX7_readsOrder_203 (by decide) ?_
                refine fa_callViu (As := [.int (nI (44))]) (rest := []) CX HX2271 (r_accepts l G n hn v2270 r hM (n9) (m_x2269) (o_x2269) (by omega) (by omega) (by omega) ((hf_x2269.2 9 (by decide) (by decide)).trans ((hf_x2248.2 9 (by decide) (by decide)).trans ((hf_x2244.2 9 (by decide) (by decide)).trans ((hf_x2216.2 9 (by decide) (by decide)).trans ((hf_x2212.2 9 (by decide) (by decide)).trans ((hf_x2208.2 9 (by decide) (by decide)).trans (by rw [e2205, fa_u_n _ _ (by omega)]; exact (by rw [e2202, fa_u_n _ _ (by omega)]; exact g9)))))))) gm_x2269 go_x2269 (nI (44))) ln_X7_144 (by omega) rfl rfl rfl rfl (Nat.le_of_ble_eq_true rfl) hl.1 ⟨Nat.le_of_ble_eq_true rfl, Nat.le_of_ble_eq_true rfl⟩ ⟨Nat.le_refl _, Nat.le_refl _⟩ dX7_readsOrder_205 (fun x2276 v2277 H locs h2275 HX2278 => ?_)
                obtain ⟨hb_x2276, m_x2276, o_x2276, ⟨ha_x2276, hc_x2276, hd_x2276, hs_x2276, hx_x2276⟩, gm_x2276, go_x2276, hf_x2276⟩ := h2275.1
                refine lv_if_eq (tgt := 227) hx hb dX7_readsOrder_208 (by decide) (fun c_208 => ?_) (fun c_208 => ?_)
                · refine lv_iconst (v := nI (0)) hx hb dX7_readsOrder_227 (by decide) ?_
                  refine lv_istore_n (lv' := [(1, .int (nI (0))), (0, .ref (fa_B G + (397)))]) hx hb dX7_readsOrder_228 rfl hl (by decide) rfl (fun ls hl => ?_)
                  refine lv_goto (tgt := 259) hx hb dX7_readsOrder_229 (by decide) ?_
                  refine lv_aload_n hx hb dX7_readsOrder_259 rfl (lv_at hl 1 rfl) ?_
                  refine lv_dup hx hb dX7_readsOrder_260 rfl ?_
                  refine fa_geti (k := 397) CX HX2278 fl_X7_141 (by omega) rfl rfl dX7_readsOrder_261 ?_
                  rw [show v2277 397 11 = nI (o_x2276) from go_x2276]
                  refine lv_iload_n hx hb dX7_readsOrder_264 rfl (lv_at hl 0 rfl) ?_
                  refine lv_if_eq (tgt := 272) hx hb dX7_readsOrder_265 (by decide) (fun c_265 => ?_) (fun c_265 => ?_)
                  · refine lv_iconst (v := nI (0)) hx hb dX7_readsOrder_272 (by decide) ?_
                    refine fa_iaddN hx hb dX7_readsOrder_273 ?_
                    refine fa_puti (k := 397) CX HX2278 fl_X7_141 (by omega) rfl rfl rfl rfl dX7_readsOrder_274 (fun H locs v2279 e2280 HX2281 => ?_)
                    refine lv_iload_n hx hb dX7_readsOrder_277 rfl (lv_at hl 0 rfl) ?_
                    exact RET _ _ _ _ _ _ _ HX2281 dX7_readsOrder_278 (by decide) (⟨rfl, ⟨⟨(Or.inl rfl), m_x2276, o_x2276 + 0, ⟨by omega, by omega, by omega, fun z => absurd (by decide) z⟩, (show v2279 397 12 = nI (m_x2276) from (by rw [e2280, fa_u_n _ _ (by omega)]; exact gm_x2276)), (show v2279 397 11 = nI (o_x2276 + 0) from (by rw [e2280, fa_u_s])), (show fa_f3 v v2279 from (by rw [e2280]; exact fa_f3.w (fa_f3.tr (fa_f3.tr (fa_f3.tr (fa_f3.tr (fa_f3.tr (fa_f3.tr (fa_f3.tr (by rw [e2205]; exact fa_f3.u (by rw [e2202]; exact fa_f3.u fa_f3.rf)) hf_x2208) hf_x2212) hf_x2216) hf_x2244) hf_x2248) hf_x2269) hf_x2276) (by decide)))⟩, (by rw [e2280]; exact fa_fr.u (fa_fr.tr (fa_fr.tr (fa_fr.tr (fa_fr.tr (fa_fr.tr (fa_fr.tr (fa_fr.tr (by rw [e2205]; exact fa_fr.u (by rw [e2202]; exact fa_fr.u fa_fr.rf (by omega)) (by omega)) (fa_fr.wide h2207.2 (by omega) (by omega))) (fa_fr.wide h2211.2 (by omega) (by omega))) (fa_fr.wide h2215.2 (by omega) (by omega))) (fa_fr.wide h2243.2 (by omega) (by omega))) (fa_fr.wide h2247.2 (by omega) (by omega))) (fa_fr.wide h2268.2 (by omega) (by omega))) (fa_fr.wide h2275.2 (by omega) (by omega))) (by omega))⟩⟩)
                  · exact absurd (by try decide) c_265
                · have hl_x2276 := hs_x2276 c_208
                  refine lv_aload_n hx hb dX7_readsOrder_211 rfl (lv_at hl 0 rfl) ?_
                  refine lv_iconst (v := nI (3)) hx hb dX7_readsOrder_212 (by decide) ?_
                  refine lv_iconst (v := nI (0)) hx hb dX7_readsOrder_213 (by decide) ?_
                  refine lv_sipush (v := nI (199)) hx hb dX7_readsOrder_214 (by decide) ?_
                  refine fa_callViu (As := [.int (nI (3)), .int (nI (0)), .int (nI (199))]) (rest := []) CX HX2278 (r_number l G n hn v2277 r hM (n9) (m_x2276) (o_x2276) (by omega) (by omega) (by omega) ((hf_x2276.2 9 (by decide) (by decide)).trans ((hf_x2269.2 9 (by decide) (by decide)).trans ((hf_x2248.2 9 (by decide) (by decide)).trans ((hf_x2244.2 9 (by decide) (by decide)).trans ((hf_x2216.2 9 (by decide) (by decide)).trans ((hf_x2212.2 9 (by decide) (by decide)).trans ((hf_x2208.2 9 (by decide) (by decide)).trans (by rw [e2205, fa_u_n _ _ (by omega)]; exact (by rw [e2202, fa_u_n _ _ (by omega)]; exact g9))))))))) gm_x2276 go_x2276 (3) (nI (0)) (nI (199)) (by omega)) ln_X7_148 (by omega) rfl rfl rfl rfl (Nat.le_of_ble_eq_true rfl) hl.1 ⟨Nat.le_of_ble_eq_true rfl, Nat.le_of_ble_eq_true rfl⟩ ⟨Nat.le_refl _, Nat.le_refl _⟩ dX7_readsOrder_217 (fun x2283 v2284 H locs h2282 HX2285 => ?_)
                  obtain ⟨hb_x2283, m_x2283, o_x2283, ⟨ha_x2283, hc_x2283, hd_x2283, hs_x2283, hx_x2283⟩, gm_x2283, go_x2283, hf_x2283⟩ := h2282.1
                  refine lv_if_eq (tgt := 227) hx hb dX7_readsOrder_220 (by decide) (fun c_220 => ?_) (fun c_220 => ?_)
                  · refine lv_iconst (v := nI (0)) hx hb dX7_readsOrder_227 (by decide) ?_
                    refine lv_istore_n (lv' := [(1, .int (nI (0))), (0, .ref (fa_B G + (397)))]) hx hb dX7_readsOrder_228 rfl hl (by decide) rfl (fun ls hl => ?_)
                    refine lv_goto (tgt := 259) hx hb dX7_readsOrder_229 (by decide) ?_
                    refine lv_aload_n hx hb dX7_readsOrder_259 rfl (lv_at hl 1 rfl) ?_
                    refine lv_dup hx hb dX7_readsOrder_260 rfl ?_
                    refine fa_geti (k := 397) CX HX2285 fl_X7_141 (by omega) rfl rfl dX7_readsOrder_261 ?_
                    rw [show v2284 397 11 = nI (o_x2283) from go_x2283]
                    refine lv_iload_n hx hb dX7_readsOrder_264 rfl (lv_at hl 0 rfl) ?_
                    refine lv_if_eq (tgt := 272) hx hb dX7_readsOrder_265 (by decide) (fun c_265 => ?_) (fun c_265 => ?_)
                    · refine lv_iconst (v := nI (0)) hx hb dX7_readsOrder_272 (by decide) ?_
                      refine fa_iaddN hx hb dX7_readsOrder_273 ?_
                      refine fa_puti (k := 397) CX HX2285 fl_X7_141 (by omega) rfl rfl rfl rfl dX7_readsOrder_274 (fun H locs v2286 e2287 HX2288 => ?_)
                      refine lv_iload_n hx hb dX7_readsOrder_277 rfl (lv_at hl 0 rfl) ?_
                      exact RET _ _ _ _ _ _ _ HX2288 dX7_readsOrder_278 (by decide) (⟨rfl, ⟨⟨(Or.inl rfl), m_x2283, o_x2283 + 0, ⟨by omega, by omega, by omega, fun z => absurd (by decide) z⟩, (show v2286 397 12 = nI (m_x2283) from (by rw [e2287, fa_u_n _ _ (by omega)]; exact gm_x2283)), (show v2286 397 11 = nI (o_x2283 + 0) from (by rw [e2287, fa_u_s])), (show fa_f3 v v2286 from (by rw [e2287]; exact fa_f3.w (fa_f3.tr (fa_f3.tr (fa_f3.tr (fa_f3.tr (fa_f3.tr (fa_f3.tr (fa_f3.tr (fa_f3.tr (by rw [e2205]; exact fa_f3.u (by rw [e2202]; exact fa_f3.u fa_f3.rf)) hf_x2208) hf_x2212) hf_x2216) hf_x2244) hf_x2248) hf_x2269) hf_x2276) hf_x2283) (by decide)))⟩, (by rw [e2287]; exact fa_fr.u (fa_fr.tr (fa_fr.tr (fa_fr.tr (fa_fr.tr (fa_fr.tr (fa_fr.tr (fa_fr.tr (fa_fr.tr (by rw [e2205]; exact fa_fr.u (by rw [e2202]; exact fa_fr.u fa_fr.rf (by omega)) (by omega)) (fa_fr.wide h2207.2 (by omega) (by omega))) (fa_fr.wide h2211.2 (by omega) (by omega))) (fa_fr.wide h2215.2 (by omega) (by omega))) (fa_fr.wide h2243.2 (by omega) (by omega))) (fa_fr.wide h2247.2 (by omega) (by omega))) (fa_fr.wide h2268.2 (by omega) (by omega))) (fa_fr.wide h2275.2 (by omega) (by omega))) (fa_fr.wide h2282.2 (by omega) (by omega))) (by omega))⟩⟩)
                    · exact absurd (by try decide) c_265
                  · have hl_x2283 := hs_x2283 c_220
                    refine lv_iconst (v := nI (1)) hx hb dX7_readsOrder_223 (by decide) ?_
                    refine lv_goto (tgt := 228) hx hb dX7_readsOrder_224 (by decide) ?_
                    refine lv_istore_n (lv' := [(1, .int (nI (1))), (0, .ref (fa_B G + (397)))]) hx hb dX7_readsOrder_228 rfl hl (by decide) rfl (fun ls hl => ?_)
                    refine lv_goto (tgt := 259) hx hb dX7_readsOrder_229 (by decide) ?_
                    refine lv_aload_n hx hb dX7_readsOrder_259 rfl (lv_at hl 1 rfl) ?_
                    refine lv_dup hx hb dX7_readsOrder_260 rfl ?_
                    refine fa_geti (k := 397) CX HX2285 fl_X7_141 (by omega) rfl rfl dX7_readsOrder_261 ?_
                    rw [show v2284 397 11 = nI (o_x2283) from go_x2283]
                    refine lv_iload_n hx hb dX7_readsOrder_264 rfl (lv_at hl 0 rfl) ?_
                    refine lv_if_eq (tgt := 272) hx hb dX7_readsOrder_265 (by decide) (fun c_265 => ?_) (fun c_265 => ?_)
                    · exact absurd c_265 (by try decide)
                    · refine lv_iconst (v := nI (1)) hx hb dX7_readsOrder_268 (by decide) ?_
                      refine lv_goto (tgt := 273) hx hb dX7_readsOrder_269 (by decide) ?_
                      refine fa_iaddN hx hb dX7_readsOrder_273 ?_
                      refine fa_puti (k := 397) CX HX2285 fl_X7_141 (by omega) rfl rfl rfl rfl dX7_readsOrder_274 (fun H locs v2289 e2290 HX2291 => ?_)
                      refine lv_iload_n hx hb dX7_readsOrder_277 rfl (lv_at hl 0 rfl) ?_
                      exact RET _ _ _ _ _ _ _ HX2291 dX7_readsOrder_278 (by decide) (⟨rfl, ⟨⟨(Or.inr rfl), m_x2283, o_x2283 + 1, ⟨by omega, by omega, by omega, fun _ => by omega⟩, (show v2289 397 12 = nI (m_x2283) from (by rw [e2290, fa_u_n _ _ (by omega)]; exact gm_x2283)), (show v2289 397 11 = nI (o_x2283 + 1) from (by rw [e2290, fa_u_s])), (show fa_f3 v v2289 from (by rw [e2290]; exact fa_f3.w (fa_f3.tr (fa_f3.tr (fa_f3.tr (fa_f3.tr (fa_f3.tr (fa_f3.tr (fa_f3.tr (fa_f3.tr (by rw [e2205]; exact fa_f3.u (by rw [e2202]; exact fa_f3.u fa_f3.rf)) hf_x2208) hf_x2212) hf_x2216) hf_x2244) hf_x2248) hf_x2269) hf_x2276) hf_x2283) (by decide)))⟩, (by rw [e2290]; exact fa_fr.u (fa_fr.tr (fa_fr.tr (fa_fr.tr (fa_fr.tr (fa_fr.tr (fa_fr.tr (fa_fr.tr (fa_fr.tr (by rw [e2205]; exact fa_fr.u (by rw [e2202]; exact fa_fr.u fa_fr.rf (by omega)) (by omega)) (fa_fr.wide h2207.2 (by omega) (by omega))) (fa_fr.wide h2211.2 (by omega) (by omega))) (fa_fr.wide h2215.2 (by omega) (by omega))) (fa_fr.wide h2243.2 (by omega) (by omega))) (fa_fr.wide h2247.2 (by omega) (by omega))) (fa_fr.wide h2268.2 (by omega) (by omega))) (fa_fr.wide h2275.2 (by omega) (by omega))) (fa_fr.wide h2282.2 (by omega) (by omega))) (by omega))⟩⟩)
          · have hl_x2244 := hs_x2244 c_137
            refine lv_aload_n hx hb dX7_readsOrder_140 rfl (lv_at hl 0 rfl) ?_
            refine lv_iconst (v := nI (2)) hx hb dX7_readsOrder_141 (by decide) ?_
            refine lv_iconst (v := nI (0)) hx hb dX7_readsOrder_142 (by decide) ?_
            refine lv_bipush (v := nI (7)) hx hb dX7_readsOrder_143 (by decide) ?_
            refine fa_callViu (As := [.int (nI (2)), .int (nI (0)), .int (nI (7))]) (rest := []) CX HX2246 (r_number l G n hn v2245 r hM (n9) (m_x2244) (o_x2244) (by omega) (by omega) (by omega) ((hf_x2244.2 9 (by decide) (by decide)).trans ((hf_x2216.2 9 (by decide) (by decide)).trans ((hf_x2212.2 9 (by decide) (by decide)).trans ((hf_x2208.2 9 (by decide) (by decide)).trans (by rw [e2205, fa_u_n _ _ (by omega)]; exact (by rw [e2202, fa_u_n _ _ (by omega)]; exact g9)))))) gm_x2244 go_x2244 (2) (nI (0)) (nI (7)) (by omega)) ln_X7_148 (by omega) rfl rfl rfl rfl (Nat.le_of_ble_eq_true rfl) hl.1 ⟨Nat.le_of_ble_eq_true rfl, Nat.le_of_ble_eq_true rfl⟩ ⟨Nat.le_refl _, Nat.le_refl _⟩ dX7_readsOrder_145 (fun x2293 v2294 H locs h2292 HX2295 => ?_)
            obtain ⟨hb_x2293, m_x2293, o_x2293, ⟨ha_x2293, hc_x2293, hd_x2293, hs_x2293, hx_x2293⟩, gm_x2293, go_x2293, hf_x2293⟩ := h2292.1
            refine lv_if_eq (tgt := 176) hx hb dX7_readsOrder_148 (by decide) (fun c_148 => ?_) (fun c_148 => ?_)
            · refine lv_iconst (v := nI (0)) hx hb dX7_readsOrder_176 (by decide) ?_
              refine lv_istore_n (lv' := [(1, .int (nI (0))), (0, .ref (fa_B G + (397)))]) hx hb dX7_readsOrder_177 rfl hl (by decide) rfl (fun ls hl => ?_)
              refine lv_goto (tgt := 259) hx hb dX7_readsOrder_178 (by decide) ?_
              refine lv_aload_n hx hb dX7_readsOrder_259 rfl (lv_at hl 1 rfl) ?_
              refine lv_dup hx hb dX7_readsOrder_260 rfl ?_
              refine fa_geti (k := 397) CX HX2295 fl_X7_141 (by omega) rfl rfl dX7_readsOrder_261 ?_
              rw [show v2294 397 11 = nI (o_x2293) from go_x2293]
              refine lv_iload_n hx hb dX7_readsOrder_264 rfl (lv_at hl 0 rfl) ?_
              refine lv_if_eq (tgt := 272) hx hb dX7_readsOrder_265 (by decide) (fun c_265 => ?_) (fun c_265 => ?_)
              · refine lv_iconst (v := nI (0)) hx hb dX7_readsOrder_272 (by decide) ?_
                refine fa_iaddN hx hb dX7_readsOrder_273 ?_
                refine fa_puti (k := 397) CX HX2295 fl_X7_141 (by omega) rfl rfl rfl rfl dX7_readsOrder_274 (fun H locs v2296 e2297 HX2298 => ?_)
                refine lv_iload_n hx hb dX7_readsOrder_277 rfl (lv_at hl 0 rfl) ?_
                exact RET _ _ _ _ _ _ _ HX2298 dX7_readsOrder_278 (by decide) (⟨rfl, ⟨⟨(Or.inl rfl), m_x2293, o_x2293 + 0, ⟨by omega, by omega, by omega, fun z => absurd (by decide) z⟩, (show v2296 397 12 = nI (m_x2293) from (by rw [e2297, fa_u_n _ _ (by omega)]; exact gm_x2293)), (show v2296 397 11 = nI (o_x2293 + 0) from (by rw [e2297, fa_u_s])), (show fa_f3 v v2296 from (by rw [e2297]; exact fa_f3.w (fa_f3.tr (fa_f3.tr (fa_f3.tr (fa_f3.tr (fa_f3.tr (by rw [e2205]; exact fa_f3.u (by rw [e2202]; exact fa_f3.u fa_f3.rf)) hf_x2208) hf_x2212) hf_x2216) hf_x2244) hf_x2293) (by decide)))⟩, (by rw [e2297]; exact fa_fr.u (fa_fr.tr (fa_fr.tr (fa_fr.tr (fa_fr.tr (fa_fr.tr (by rw [e2205]; exact fa_fr.u (by rw [e2202]; exact fa_fr.u fa_fr.rf (by omega)) (by omega)) (fa_fr.wide h2207.2 (by omega) (by omega))) (fa_fr.wide h2211.2 (by omega) (by omega))) (fa_fr.wide h2215.2 (by omega) (by omega))) (fa_fr.wide h2243.2 (by omega) (by omega))) (fa_fr.wide h2292.2 (by omega) (by omega))) (by omega))⟩⟩)
              · exact absurd (by try decide) c_265
            · have hl_x2293 := hs_x2293 c_148
              refine lv_aload_n hx hb dX7_readsOrder_151 rfl (lv_at hl 0 rfl) ?_
              refine lv_bipush (v := nI (44)) hx hb dX7_readsOrder_152 (by decide) ?_
              refine fa_callViu (As := [.int (nI (44))]) (rest := []) CX HX2295 (r_accepts l G n hn v2294 r hM (n9) (m_x2293) (o_x2293) (by omega) (by omega) (by omega) ((hf_x2293.2 9 (by decide) (by decide)).trans ((hf_x2244.2 9 (by decide) (by decide)).trans ((hf_x2216.2 9 (by decide) (by decide)).trans ((hf_x2212.2 9 (by decide) (by decide)).trans ((hf_x2208.2 9 (by decide) (by decide)).trans (by rw [e2205, fa_u_n _ _ (by omega)]; exact (by rw [e2202, fa_u_n _ _ (by omega)]; exact g9))))))) gm_x2293 go_x2293 (nI (44))) ln_X7_144 (by omega) rfl rfl rfl rfl (Nat.le_of_ble_eq_true rfl) hl.1 ⟨Nat.le_of_ble_eq_true rfl, Nat.le_of_ble_eq_true rfl⟩ ⟨Nat.le_refl _, Nat.le_refl _⟩ dX7_readsOrder_154 (fun x2300 v2301 H locs h2299 HX2302 => ?_)
              obtain ⟨hb_x2300, m_x2300, o_x2300, ⟨ha_x2300, hc_x2300, hd_x2300, hs_x2300, hx_x2300⟩, gm_x2300, go_x2300, hf_x2300⟩ := h2299.1
              refine lv_if_eq (tgt := 176) hx hb dX7_readsOrder_157 (by decide) (fun c_157 => ?_) (fun c_157 => ?_)
              · refine lv_iconst (v := nI (0)) hx hb dX7_readsOrder_176 (by decide) ?_
                refine lv_istore_n (lv' := [(1, .int (nI (0))), (0, .ref (fa_B G + (397)))]) hx hb dX7_readsOrder_177 rfl hl (by decide) rfl (fun ls hl => ?_)
                refine lv_goto (tgt := 259) hx hb dX7_readsOrder_178 (by decide) ?_
                refine lv_aload_n hx hb dX7_readsOrder_259 rfl (lv_at hl 1 rfl) ?_
                refine lv_dup hx hb dX7_readsOrder_260 rfl ?_
                refine fa_geti (k := 397) CX HX2302 fl_X7_141 (by omega) rfl rfl dX7_readsOrder_261 ?_
                rw [show v2301 397 11 = nI (o_x2300) from go_x2300]
                refine lv_iload_n hx hb dX7_readsOrder_264 rfl (lv_at hl 0 rfl) ?_
                refine lv_if_eq (tgt := 272) hx hb dX7_readsOrder_265 (by decide) (fun c_265 => ?_) (fun c_265 => ?_)
                · refine lv_iconst (v := nI (0)) hx hb dX7_readsOrder_272 (by decide) ?_
                  refine fa_iaddN hx hb dX7_readsOrder_273 ?_
                  refine fa_puti (k := 397) CX HX2302 fl_X7_141 (by omega) rfl rfl rfl rfl dX7_readsOrder_274 (fun H locs v2303 e2304 HX2305 => ?_)
                  refine lv_iload_n hx hb dX7_readsOrder_277 rfl (lv_at hl 0 rfl) ?_
                  exact RET _ _ _ _ _ _ _ HX2305 dX7_readsOrder_278 (by decide) (⟨rfl, ⟨⟨(Or.inl rfl), m_x2300, o_x2300 + 0, ⟨by omega, by omega, by omega, fun z => absurd (by decide) z⟩, (show v2303 397 12 = nI (m_x2300) from (by rw [e2304, fa_u_n _ _ (by omega)]; exact gm_x2300)), (show v2303 397 11 = nI (o_x2300 + 0) from (by rw [e2304, fa_u_s])), (show fa_f3 v v2303 from (by rw [e2304]; exact fa_f3.w (fa_f3.tr (fa_f3.tr (fa_f3.tr (fa_f3.tr (fa_f3.tr (fa_f3.tr (by rw [e2205]; exact fa_f3.u (by rw [e2202]; exact fa_f3.u fa_f3.rf)) hf_x2208) hf_x2212) hf_x2216) hf_x2244) hf_x2293) hf_x2300) (by decide)))⟩, (by rw [e2304]; exact fa_fr.u (fa_fr.tr (fa_fr.tr (fa_fr.tr (fa_fr.tr (fa_fr.tr (fa_fr.tr (by rw [e2205]; exact fa_fr.u (by rw [e2202]; exact fa_fr.u fa_fr.rf (by omega)) (by omega)) (fa_fr.wide h2207.2 (by omega) (by omega))) (fa_fr.wide h2211.2 (by omega) (by omega))) (fa_fr.wide h2215.2 (by omega) (by omega))) (fa_fr.wide h2243.2 (by omega) (by omega))) (fa_fr.wide h2292.2 (by omega) (by omega))) (fa_fr.wide h2299.2 (by omega) (by omega))) (by omega))⟩⟩)
                · exact absurd (by try decide) c_265
              · have hl_x2300 := hs_x2300 c_157
                refine lv_aload_n hx hb dX7_readsOrder_160 rfl (lv_at hl 0 rfl) ?_
                refine lv_iconst (v := nI (3)) hx hb dX7_readsOrder_161 (by decide) ?_
                refine lv_iconst (v := nI (0)) hx hb dX7_readsOrder_162 (by decide) ?_
                refine lv_sipush (v := nI (199)) hx hb dX7_readsOrder_163 (by decide) ?_
                refine fa_callViu (As := [.int (nI (3)), .int (nI (0)), .int (nI (199))]) (rest := []) CX HX2302 (r_number l G n hn v2301 r hM (n9) (m_x2300) (o_x2300) (by omega) (by omega) (by omega) ((hf_x2300.2 9 (by decide) (by decide)).trans ((hf_x2293.2 9 (by decide) (by decide)).trans ((hf_x2244.2 9 (by decide) (by decide)).trans ((hf_x2216.2 9 (by decide) (by decide)).trans ((hf_x2212.2 9 (by decide) (by decide)).trans ((hf_x2208.2 9 (by decide) (by decide)).trans (by rw [e2205, fa_u_n _ _ (by omega)]; exact (by rw [e2202, fa_u_n _ _ (by omega)]; exact g9)))))))) gm_x2300 go_x2300 (3) (nI (0)) (nI (199)) (by omega)) ln_X7_148 (by omega) rfl rfl rfl rfl (Nat.le_of_ble_eq_true rfl) hl.1 ⟨Nat.le_of_ble_eq_true rfl, Nat.le_of_ble_eq_true rfl⟩ ⟨Nat.le_refl _, Nat.le_refl _⟩ dX7_readsOrder_166 (fun x2307 v2308 H locs h2306 HX2309 => ?_)
                obtain ⟨hb_x2307, m_x2307, o_x2307, ⟨ha_x2307, hc_x2307, hd_x2307, hs_x2307, hx_x2307⟩, gm_x2307, go_x2307, hf_x2307⟩ := h2306.1
                refine lv_if_eq (tgt := 176) hx hb dX7_readsOrder_169 (by decide) (fun c_169 => ?_) (fun c_169 => ?_)
                · refine lv_iconst (v := nI (0)) hx hb dX7_readsOrder_176 (by decide) ?_
                  refine lv_istore_n (lv' := [(1, .int (nI (0))), (0, .ref (fa_B G + (397)))]) hx hb dX7_readsOrder_177 rfl hl (by decide) rfl (fun ls hl => ?_)
                  refine lv_goto (tgt := 259) hx hb dX7_readsOrder_178 (by decide) ?_
                  refine lv_aload_n hx hb dX7_readsOrder_259 rfl (lv_at hl 1 rfl) ?_
                  refine lv_dup hx hb dX7_readsOrder_260 rfl ?_
                  refine fa_geti (k := 397) CX HX2309 fl_X7_141 (by omega) rfl rfl dX7_readsOrder_261 ?_
                  rw [show v2308 397 11 = nI (o_x2307) from go_x2307]
                  refine lv_iload_n hx hb dX7_readsOrder_264 rfl (lv_at hl 0 rfl) ?_
                  refine lv_if_eq (tgt := 272) hx hb dX7_readsOrder_265 (by decide) (fun c_265 => ?_) (fun c_265 => ?_)
                  · refine lv_iconst (v := nI (0)) hx hb dX7_readsOrder_272 (by decide) ?_
                    refine fa_iaddN hx hb dX7_readsOrder_273 ?_
                    refine fa_puti (k := 397) CX HX2309 fl_X7_141 (by omega) rfl rfl rfl rfl dX7_readsOrder_274 (fun H locs v2310 e2311 HX2312 => ?_)
                    refine lv_iload_n hx hb dX7_readsOrder_277 rfl (lv_at hl 0 rfl) ?_
                    exact RET _ _ _ _ _ _ _ HX2312 dX7_readsOrder_278 (by decide) (⟨rfl, ⟨⟨(Or.inl rfl), m_x2307, o_x2307 + 0, ⟨by omega, by omega, by omega, fun z => absurd (by decide) z⟩, (show v2310 397 12 = nI (m_x2307) from (by rw [e2311, fa_u_n _ _ (by omega)]; exact gm_x2307)), (show v2310 397 11 = nI (o_x2307 + 0) from (by rw [e2311, fa_u_s])), (show fa_f3 v v2310 from (by rw [e2311]; exact fa_f3.w (fa_f3.tr (fa_f3.tr (fa_f3.tr (fa_f3.tr (fa_f3.tr (fa_f3.tr (fa_f3.tr (by rw [e2205]; exact fa_f3.u (by rw [e2202]; exact fa_f3.u fa_f3.rf)) hf_x2208) hf_x2212) hf_x2216) hf_x2244) hf_x2293) hf_x2300) hf_x2307) (by decide)))⟩, (by rw [e2311]; exact fa_fr.u (fa_fr.tr (fa_fr.tr (fa_fr.tr (fa_fr.tr (fa_fr.tr (fa_fr.tr (fa_fr.tr (by rw [e2205]; exact fa_fr.u (by rw [e2202]; exact fa_fr.u fa_fr.rf (by omega)) (by omega)) (fa_fr.wide h2207.2 (by omega) (by omega))) (fa_fr.wide h2211.2 (by omega) (by omega))) (fa_fr.wide h2215.2 (by omega) (by omega))) (fa_fr.wide h2243.2 (by omega) (by omega))) (fa_fr.wide h2292.2 (by omega) (by omega))) (fa_fr.wide h2299.2 (by omega) (by omega))) (fa_fr.wide h2306.2 (by omega) (by omega))) (by omega))⟩⟩)
                  · exact absurd (by try decide) c_265
                · have hl_x2307 := hs_x2307 c_169
                  refine lv_iconst (v := nI (1)) hx hb dX7_readsOrder_172 (by decide) ?_
                  refine lv_goto (tgt := 177) hx hb dX7_readsOrder_173 (by decide) ?_
                  refine lv_istore_n (lv' := [(1, .int (nI (1))), (0, .ref (fa_B G + (397)))]) hx hb dX7_readsOrder_177 rfl hl (by decide) rfl (fun ls hl => ?_)
                  refine lv_goto (tgt := 259) hx hb dX7_readsOrder_178 (by decide) ?_
                  refine lv_aload_n hx hb dX7_readsOrder_259 rfl (lv_at hl 1 rfl) ?_
                  refine lv_dup hx hb dX7_readsOrder_260 rfl ?_
                  refine fa_geti (k := 397) CX HX2309 fl_X7_141 (by omega) rfl rfl dX7_readsOrder_261 ?_
                  rw [show v2308 397 11 = nI (o_x2307) from go_x2307]
                  refine lv_iload_n hx hb dX7_readsOrder_264 rfl (lv_at hl 0 rfl) ?_
                  refine lv_if_eq (tgt := 272) hx hb dX7_readsOrder_265 (by decide) (fun c_265 => ?_) (fun c_265 => ?_)
                  · exact absurd c_265 (by try decide)
                  · refine lv_iconst (v := nI (1)) hx hb dX7_readsOrder_268 (by decide) ?_
                    refine lv_goto (tgt := 273) hx hb dX7_readsOrder_269 (by decide) ?_
                    refine fa_iaddN hx hb dX7_readsOrder_273 ?_
                    refine fa_puti (k := 397) CX HX2309 fl_X7_141 (by omega) rfl rfl rfl rfl dX7_readsOrder_274 (fun H locs v2313 e2314 HX2315 => ?_)
                    refine lv_iload_n hx hb dX7_readsOrder_277 rfl (lv_at hl 0 rfl) ?_
                    exact RET _ _ _ _ _ _ _ HX2315 dX7_readsOrder_278 (by decide) (⟨rfl, ⟨⟨(Or.inr rfl), m_x2307, o_x2307 + 1, ⟨by omega, by omega, by omega, fun _ => by omega⟩, (show v2313 397 12 = nI (m_x2307) from (by rw [e2314, fa_u_n _ _ (by omega)]; exact gm_x2307)), (show v2313 397 11 = nI (o_x2307 + 1) from (by rw [e2314, fa_u_s])), (show fa_f3 v v2313 from (by rw [e2314]; exact fa_f3.w (fa_f3.tr (fa_f3.tr (fa_f3.tr (fa_f3.tr (fa_f3.tr (fa_f3.tr (fa_f3.tr (by rw [e2205]; exact fa_f3.u (by rw [e2202]; exact fa_f3.u fa_f3.rf)) hf_x2208) hf_x2212) hf_x2216) hf_x2244) hf_x2293) hf_x2300) hf_x2307) (by decide)))⟩, (by rw [e2314]; exact fa_fr.u (fa_fr.tr (fa_fr.tr (fa_fr.tr (fa_fr.tr (fa_fr.tr (fa_fr.tr (fa_fr.tr (by rw [e2205]; exact fa_fr.u (by rw [e2202]; exact fa_fr.u fa_fr.rf (by omega)) (by omega)) (fa_fr.wide h2207.2 (by omega) (by omega))) (fa_fr.wide h2211.2 (by omega) (by omega))) (fa_fr.wide h2215.2 (by omega) (by omega))) (fa_fr.wide h2243.2 (by omega) (by omega))) (fa_fr.wide h2292.2 (by omega) (by omega))) (fa_fr.wide h2299.2 (by omega) (by omega))) (fa_fr.wide h2306.2 (by omega) (by omega))) (by omega))⟩⟩)
      · have hl_x2212 := hs_x2212 c_106
        refine lv_aload_n hx hb dX7_readsOrder_109 rfl (lv_at hl 0 rfl) ?_
        refine lv_iconst (v := nI (2)) hx hb dX7_readsOrder_110 (by decide) ?_
        refine lv_iconst (v := nI (0)) hx hb dX7_readsOrder_111 (by decide) ?_
        refine lv_sipush (v := nI (199)) hx hb dX7_readsOrder_112 (by decide) ?_
        refine fa_callViu (As := [.int (nI (2)), .int (nI (0)), .int (nI (199))]) (rest := []) CX HX2214 (r_number l G n hn v2213 r hM (n9) (m_x2212) (o_x2212) (by omega) (by omega) (by omega) ((hf_x2212.2 9 (by decide) (by decide)).trans ((hf_x2208.2 9 (by decide) (by decide)).trans (by rw [e2205, fa_u_n _ _ (by omega)]; exact (by rw [e2202, fa_u_n _ _ (by omega)]; exact g9)))) gm_x2212 go_x2212 (2) (nI (0)) (nI (199)) (by omega)) ln_X7_148 (by omega) rfl rfl rfl rfl (Nat.le_of_ble_eq_true rfl) hl.1 ⟨Nat.le_of_ble_eq_true rfl, Nat.le_of_ble_eq_true rfl⟩ ⟨Nat.le_refl _, Nat.le_refl _⟩ dX7_readsOrder_115 (fun x2317 v2318 H locs h2316 HX2319 => ?_)
        obtain ⟨hb_x2317, m_x2317, o_x2317, ⟨ha_x2317, hc_x2317, hd_x2317, hs_x2317, hx_x2317⟩, gm_x2317, go_x2317, hf_x2317⟩ := h2316.1
        refine lv_istore_n (lv' := [(1, .int (x2317)), (0, .ref (fa_B G + (397)))]) hx hb dX7_readsOrder_118 rfl hl (by decide) rfl (fun ls hl => ?_)
        refine lv_goto (tgt := 259) hx hb dX7_readsOrder_119 (by decide) ?_
        refine lv_aload_n hx hb dX7_readsOrder_259 rfl (lv_at hl 1 rfl) ?_
        refine lv_dup hx hb dX7_readsOrder_260 rfl ?_
        refine fa_geti (k := 397) CX HX2319 fl_X7_141 (by omega) rfl rfl dX7_readsOrder_261 ?_
        rw [show v2318 397 11 = nI (o_x2317) from go_x2317]
        refine lv_iload_n hx hb dX7_readsOrder_264 rfl (lv_at hl 0 rfl) ?_
        refine lv_if_eq (tgt := 272) hx hb dX7_readsOrder_265 (by decide) (fun c_265 => ?_) (fun c_265 => ?_)
        · refine lv_iconst (v := nI (0)) hx hb dX7_readsOrder_272 (by decide) ?_
          refine fa_iaddN hx hb dX7_readsOrder_273 ?_
          refine fa_puti (k := 397) CX HX2319 fl_X7_141 (by omega) rfl rfl rfl rfl dX7_readsOrder_274 (fun H locs v2320 e2321 HX2322 => ?_)
          refine lv_iload_n hx hb dX7_readsOrder_277 rfl (lv_at hl 0 rfl) ?_
          exact RET _ _ _ _ _ _ _ HX2322 dX7_readsOrder_278 hb_x2317.nar (⟨rfl, ⟨⟨hb_x2317, m_x2317, o_x2317 + 0, ⟨by omega, by omega, by omega, fun z => (by first | (have := hs_x2317 z; omega) | exact absurd (by assumption) z)⟩, (show v2320 397 12 = nI (m_x2317) from (by rw [e2321, fa_u_n _ _ (by omega)]; exact gm_x2317)), (show v2320 397 11 = nI (o_x2317 + 0) from (by rw [e2321, fa_u_s])), (show fa_f3 v v2320 from (by rw [e2321]; exact fa_f3.w (fa_f3.tr (fa_f3.tr (fa_f3.tr (by rw [e2205]; exact fa_f3.u (by rw [e2202]; exact fa_f3.u fa_f3.rf)) hf_x2208) hf_x2212) hf_x2317) (by decide)))⟩, (by rw [e2321]; exact fa_fr.u (fa_fr.tr (fa_fr.tr (fa_fr.tr (by rw [e2205]; exact fa_fr.u (by rw [e2202]; exact fa_fr.u fa_fr.rf (by omega)) (by omega)) (fa_fr.wide h2207.2 (by omega) (by omega))) (fa_fr.wide h2211.2 (by omega) (by omega))) (fa_fr.wide h2316.2 (by omega) (by omega))) (by omega))⟩⟩)
        · have hl_x2317 := hs_x2317 c_265
          refine lv_iconst (v := nI (1)) hx hb dX7_readsOrder_268 (by decide) ?_
          refine lv_goto (tgt := 273) hx hb dX7_readsOrder_269 (by decide) ?_
          refine fa_iaddN hx hb dX7_readsOrder_273 ?_
          refine fa_puti (k := 397) CX HX2319 fl_X7_141 (by omega) rfl rfl rfl rfl dX7_readsOrder_274 (fun H locs v2323 e2324 HX2325 => ?_)
          refine lv_iload_n hx hb dX7_readsOrder_277 rfl (lv_at hl 0 rfl) ?_
          exact RET _ _ _ _ _ _ _ HX2325 dX7_readsOrder_278 hb_x2317.nar (⟨rfl, ⟨⟨hb_x2317, m_x2317, o_x2317 + 1, ⟨by omega, by omega, by omega, fun z => (by first | (have := hs_x2317 z; omega) | exact absurd (by assumption) z)⟩, (show v2323 397 12 = nI (m_x2317) from (by rw [e2324, fa_u_n _ _ (by omega)]; exact gm_x2317)), (show v2323 397 11 = nI (o_x2317 + 1) from (by rw [e2324, fa_u_s])), (show fa_f3 v v2323 from (by rw [e2324]; exact fa_f3.w (fa_f3.tr (fa_f3.tr (fa_f3.tr (by rw [e2205]; exact fa_f3.u (by rw [e2202]; exact fa_f3.u fa_f3.rf)) hf_x2208) hf_x2212) hf_x2317) (by decide)))⟩, (by rw [e2324]; exact fa_fr.u (fa_fr.tr (fa_fr.tr (fa_fr.tr (by rw [e2205]; exact fa_fr.u (by rw [e2202]; exact fa_fr.u fa_fr.rf (by omega)) (by omega)) (fa_fr.wide h2207.2 (by omega) (by omega))) (fa_fr.wide h2211.2 (by omega) (by omega))) (fa_fr.wide h2316.2 (by omega) (by omega))) (by omega))⟩⟩)
    · have hl_x2208 := hs_x2208 c_58
      refine lv_aload_n hx hb dX7_readsOrder_61 rfl (lv_at hl 0 rfl) ?_
      refine lv_iconst (v := nI (2)) hx hb dX7_readsOrder_62 (by decide) ?_
      refine lv_iconst (v := nI (0)) hx hb dX7_readsOrder_63 (by decide) ?_
      refine lv_iconst (v := nI (4)) hx hb dX7_readsOrder_64 (by decide) ?_
      refine fa_callViu (As := [.int (nI (2)), .int (nI (0)), .int (nI (4))]) (rest := []) CX HX2210 (r_number l G n hn v2209 r hM (n9) (m_x2208) (o_x2208) (by omega) (by omega) (by omega) ((hf_x2208.2 9 (by decide) (by decide)).trans (by rw [e2205, fa_u_n _ _ (by omega)]; exact (by rw [e2202, fa_u_n _ _ (by omega)]; exact g9))) gm_x2208 go_x2208 (2) (nI (0)) (nI (4)) (by omega)) ln_X7_148 (by omega) rfl rfl rfl rfl (Nat.le_of_ble_eq_true rfl) hl.1 ⟨Nat.le_of_ble_eq_true rfl, Nat.le_of_ble_eq_true rfl⟩ ⟨Nat.le_refl _, Nat.le_refl _⟩ dX7_readsOrder_65 (fun x2327 v2328 H locs h2326 HX2329 => ?_)
      obtain ⟨hb_x2327, m_x2327, o_x2327, ⟨ha_x2327, hc_x2327, hd_x2327, hs_x2327, hx_x2327⟩, gm_x2327, go_x2327, hf_x2327⟩ := h2326.1
      refine lv_if_eq (tgt := 95) hx hb dX7_readsOrder_68 (by decide) (fun c_68 => ?_) (fun c_68 => ?_)
      · refine lv_iconst (v := nI (0)) hx hb dX7_readsOrder_95 (by decide) ?_
        refine lv_istore_n (lv' := [(1, .int (nI (0))), (0, .ref (fa_B G + (397)))]) hx hb dX7_readsOrder_96 rfl hl (by decide) rfl (fun ls hl => ?_)
        refine lv_goto (tgt := 259) hx hb dX7_readsOrder_97 (by decide) ?_
        refine lv_aload_n hx hb dX7_readsOrder_259 rfl (lv_at hl 1 rfl) ?_
        refine lv_dup hx hb dX7_readsOrder_260 rfl ?_
        refine fa_geti (k := 397) CX HX2329 fl_X7_141 (by omega) rfl rfl dX7_readsOrder_261 ?_
        rw [show v2328 397 11 = nI (o_x2327) from go_x2327]
        refine lv_iload_n hx hb dX7_readsOrder_264 rfl (lv_at hl 0 rfl) ?_
        refine lv_if_eq (tgt := 272) hx hb dX7_readsOrder_265 (by decide) (fun c_265 => ?_) (fun c_265 => ?_)
        · refine lv_iconst (v := nI (0)) hx hb dX7_readsOrder_272 (by decide) ?_
          refine fa_iaddN hx hb dX7_readsOrder_273 ?_
          refine fa_puti (k := 397) CX HX2329 fl_X7_141 (by omega) rfl rfl rfl rfl dX7_readsOrder_274 (fun H locs v2330 e2331 HX2332 => ?_)
          refine lv_iload_n hx hb dX7_readsOrder_277 rfl (lv_at hl 0 rfl) ?_
          exact RET _ _ _ _ _ _ _ HX2332 dX7_readsOrder_278 (by decide) (⟨rfl, ⟨⟨(Or.inl rfl), m_x2327, o_x2327 + 0, ⟨by omega, by omega, by omega, fun z => absurd (by decide) z⟩, (show v2330 397 12 = nI (m_x2327) from (by rw [e2331, fa_u_n _ _ (by omega)]; exact gm_x2327)), (show v2330 397 11 = nI (o_x2327 + 0) from (by rw [e2331, fa_u_s])), (show fa_f3 v v2330 from (by rw [e2331]; exact fa_f3.w (fa_f3.tr (fa_f3.tr (by rw [e2205]; exact fa_f3.u (by rw [e2202]; exact fa_f3.u fa_f3.rf)) hf_x2208) hf_x2327) (by decide)))⟩, (by rw [e2331]; exact fa_fr.u (fa_fr.tr (fa_fr.tr (by rw [e2205]; exact fa_fr.u (by rw [e2202]; exact fa_fr.u fa_fr.rf (by omega)) (by omega)) (fa_fr.wide h2207.2 (by omega) (by omega))) (fa_fr.wide h2326.2 (by omega) (by omega))) (by omega))⟩⟩)
        · exact absurd (by try decide) c_265
      · have hl_x2327 := hs_x2327 c_68
        refine lv_aload_n hx hb dX7_readsOrder_71 rfl (lv_at hl 0 rfl) ?_
        refine lv_bipush (v := nI (44)) hx hb dX7_readsOrder_72 (by decide) ?_
        refine fa_callViu (As := [.int (nI (44))]) (rest := []) CX HX2329 (r_accepts l G n hn v2328 r hM (n9) (m_x2327) (o_x2327) (by omega) (by omega) (by omega) ((hf_x2327.2 9 (by decide) (by decide)).trans ((hf_x2208.2 9 (by decide) (by decide)).trans (by rw [e2205, fa_u_n _ _ (by omega)]; exact (by rw [e2202, fa_u_n _ _ (by omega)]; exact g9)))) gm_x2327 go_x2327 (nI (44))) ln_X7_144 (by omega) rfl rfl rfl rfl (Nat.le_of_ble_eq_true rfl) hl.1 ⟨Nat.le_of_ble_eq_true rfl, Nat.le_of_ble_eq_true rfl⟩ ⟨Nat.le_refl _, Nat.le_refl _⟩ dX7_readsOrder_74 (fun x2334 v2335 H locs h2333 HX2336 => ?_)
        obtain ⟨hb_x2334, m_x2334, o_x2334, ⟨ha_x2334, hc_x2334, hd_x2334, hs_x2334, hx_x2334⟩, gm_x2334, go_x2334, hf_x2334⟩ := h2333.1
        refine lv_if_eq (tgt := 95) hx hb dX7_readsOrder_77 (by decide) (fun c_77 => ?_) (fun c_77 => ?_)
        · refine lv_iconst (v := nI (0)) hx hb dX7_readsOrder_95 (by decide) ?_
          refine lv_istore_n (lv' := [(1, .int (nI (0))), (0, .ref (fa_B G + (397)))]) hx hb dX7_readsOrder_96 rfl hl (by decide) rfl (fun ls hl => ?_)
          refine lv_goto (tgt := 259) hx hb dX7_readsOrder_97 (by decide) ?_
          refine lv_aload_n hx hb dX7_readsOrder_259 rfl (lv_at hl 1 rfl) ?_
          refine lv_dup hx hb dX7_readsOrder_260 rfl ?_
          refine fa_geti (k := 397) CX HX2336 fl_X7_141 (by omega) rfl rfl dX7_readsOrder_261 ?_
          rw [show v2335 397 11 = nI (o_x2334) from go_x2334]
          refine lv_iload_n hx hb dX7_readsOrder_264 rfl (lv_at hl 0 rfl) ?_
          refine lv_if_eq (tgt := 272) hx hb dX7_readsOrder_265 (by decide) (fun c_265 => ?_) (fun c_265 => ?_)
          · refine lv_iconst (v := nI (0)) hx hb dX7_readsOrder_272 (by decide) ?_
            refine fa_iaddN hx hb dX7_readsOrder_273 ?_
            refine fa_puti (k := 397) CX HX2336 fl_X7_141 (by omega) rfl rfl rfl rfl dX7_readsOrder_274 (fun H locs v2337 e2338 HX2339 => ?_)
            refine lv_iload_n hx hb dX7_readsOrder_277 rfl (lv_at hl 0 rfl) ?_
            exact RET _ _ _ _ _ _ _ HX2339 dX7_readsOrder_278 (by decide) (⟨rfl, ⟨⟨(Or.inl rfl), m_x2334, o_x2334 + 0, ⟨by omega, by omega, by omega, fun z => absurd (by decide) z⟩, (show v2337 397 12 = nI (m_x2334) from (by rw [e2338, fa_u_n _ _ (by omega)]; exact gm_x2334)), (show v2337 397 11 = nI (o_x2334 + 0) from (by rw [e2338, fa_u_s])), (show fa_f3 v v2337 from (by rw [e2338]; exact fa_f3.w (fa_f3.tr (fa_f3.tr (fa_f3.tr (by rw [e2205]; exact fa_f3.u (by rw [e2202]; exact fa_f3.u fa_f3.rf)) hf_x2208) hf_x2327) hf_x2334) (by decide)))⟩, (by rw [e2338]; exact fa_fr.u (fa_fr.tr (fa_fr.tr (fa_fr.tr (by rw [e2205]; exact fa_fr.u (by rw [e2202]; exact fa_fr.u fa_fr.rf (by omega)) (by omega)) (fa_fr.wide h2207.2 (by omega) (by omega))) (fa_fr.wide h2326.2 (by omega) (by omega))) (fa_fr.wide h2333.2 (by omega) (by omega))) (by omega))⟩⟩)
          · exact absurd (by try decide) c_265
        · have hl_x2334 := hs_x2334 c_77
          refine lv_aload_n hx hb dX7_readsOrder_80 rfl (lv_at hl 0 rfl) ?_
          refine lv_iconst (v := nI (3)) hx hb dX7_readsOrder_81 (by decide) ?_
          refine lv_iconst (v := nI (1)) hx hb dX7_readsOrder_82 (by decide) ?_
          refine lv_bipush (v := nI (50)) hx hb dX7_readsOrder_83 (by decide) ?_
          refine fa_callViu (As := [.int (nI (3)), .int (nI (1)), .int (nI (50))]) (rest := []) CX HX2336 (r_number l G n hn v2335 r hM (n9) (m_x2334) (o_x2334) (by omega) (by omega) (by omega) ((hf_x2334.2 9 (by decide) (by decide)).trans ((hf_x2327.2 9 (by decide) (by decide)).trans ((hf_x2208.2 9 (by decide) (by decide)).trans (by rw [e2205, fa_u_n _ _ (by omega)]; exact (by rw [e2202, fa_u_n _ _ (by omega)]; exact g9))))) gm_x2334 go_x2334 (3) (nI (1)) (nI (50)) (by omega)) ln_X7_148 (by omega) rfl rfl rfl rfl (Nat.le_of_ble_eq_true rfl) hl.1 ⟨Nat.le_of_ble_eq_true rfl, Nat.le_of_ble_eq_true rfl⟩ ⟨Nat.le_refl _, Nat.le_refl _⟩ dX7_readsOrder_85 (fun x2341 v2342 H locs h2340 HX2343 => ?_)
          obtain ⟨hb_x2341, m_x2341, o_x2341, ⟨ha_x2341, hc_x2341, hd_x2341, hs_x2341, hx_x2341⟩, gm_x2341, go_x2341, hf_x2341⟩ := h2340.1
          refine lv_if_eq (tgt := 95) hx hb dX7_readsOrder_88 (by decide) (fun c_88 => ?_) (fun c_88 => ?_)
          · refine lv_iconst (v := nI (0)) hx hb dX7_readsOrder_95 (by decide) ?_
            refine lv_istore_n (lv' := [(1, .int (nI (0))), (0, .ref (fa_B G + (397)))]) hx hb dX7_readsOrder_96 rfl hl (by decide) rfl (fun ls hl => ?_)
            refine lv_goto (tgt := 259) hx hb dX7_readsOrder_97 (by decide) ?_
            refine lv_aload_n hx hb dX7_readsOrder_259 rfl (lv_at hl 1 rfl) ?_
            refine lv_dup hx hb dX7_readsOrder_260 rfl ?_
            refine fa_geti (k := 397) CX HX2343 fl_X7_141 (by omega) rfl rfl dX7_readsOrder_261 ?_
            rw [show v2342 397 11 = nI (o_x2341) from go_x2341]
            refine lv_iload_n hx hb dX7_readsOrder_264 rfl (lv_at hl 0 rfl) ?_
            refine lv_if_eq (tgt := 272) hx hb dX7_readsOrder_265 (by decide) (fun c_265 => ?_) (fun c_265 => ?_)
            · refine lv_iconst (v := nI (0)) hx hb dX7_readsOrder_272 (by decide) ?_
              refine fa_iaddN hx hb dX7_readsOrder_273 ?_
              refine fa_puti (k := 397) CX HX2343 fl_X7_141 (by omega) rfl rfl rfl rfl dX7_readsOrder_274 (fun H locs v2344 e2345 HX2346 => ?_)
              refine lv_iload_n hx hb dX7_readsOrder_277 rfl (lv_at hl 0 rfl) ?_
              exact RET _ _ _ _ _ _ _ HX2346 dX7_readsOrder_278 (by decide) (⟨rfl, ⟨⟨(Or.inl rfl), m_x2341, o_x2341 + 0, ⟨by omega, by omega, by omega, fun z => absurd (by decide) z⟩, (show v2344 397 12 = nI (m_x2341) from (by rw [e2345, fa_u_n _ _ (by omega)]; exact gm_x2341)), (show v2344 397 11 = nI (o_x2341 + 0) from (by rw [e2345, fa_u_s])), (show fa_f3 v v2344 from (by rw [e2345]; exact fa_f3.w (fa_f3.tr (fa_f3.tr (fa_f3.tr (fa_f3.tr (by rw [e2205]; exact fa_f3.u (by rw [e2202]; exact fa_f3.u fa_f3.rf)) hf_x2208) hf_x2327) hf_x2334) hf_x2341) (by decide)))⟩, (by rw [e2345]; exact fa_fr.u (fa_fr.tr (fa_fr.tr (fa_fr.tr (fa_fr.tr (by rw [e2205]; exact fa_fr.u (by rw [e2202]; exact fa_fr.u fa_fr.rf (by omega)) (by omega)) (fa_fr.wide h2207.2 (by omega) (by omega))) (fa_fr.wide h2326.2 (by omega) (by omega))) (fa_fr.wide h2333.2 (by omega) (by omega))) (fa_fr.wide h2340.2 (by omega) (by omega))) (by omega))⟩⟩)
            · exact absurd (by try decide) c_265
          · have hl_x2341 := hs_x2341 c_88
            refine lv_iconst (v := nI (1)) hx hb dX7_readsOrder_91 (by decide) ?_
            refine lv_goto (tgt := 96) hx hb dX7_readsOrder_92 (by decide) ?_
            refine lv_istore_n (lv' := [(1, .int (nI (1))), (0, .ref (fa_B G + (397)))]) hx hb dX7_readsOrder_96 rfl hl (by decide) rfl (fun ls hl => ?_)
            refine lv_goto (tgt := 259) hx hb dX7_readsOrder_97 (by decide) ?_
            refine lv_aload_n hx hb dX7_readsOrder_259 rfl (lv_at hl 1 rfl) ?_
            refine lv_dup hx hb dX7_readsOrder_260 rfl ?_
            refine fa_geti (k := 397) CX HX2343 fl_X7_141 (by omega) rfl rfl dX7_readsOrder_261 ?_
            rw [show v2342 397 11 = nI (o_x2341) from go_x2341]
            refine lv_iload_n hx hb dX7_readsOrder_264 rfl (lv_at hl 0 rfl) ?_
            refine lv_if_eq (tgt := 272) hx hb dX7_readsOrder_265 (by decide) (fun c_265 => ?_) (fun c_265 => ?_)
            · exact absurd c_265 (by try decide)
            · refine lv_iconst (v := nI (1)) hx hb dX7_readsOrder_268 (by decide) ?_
              refine lv_goto (tgt := 273) hx hb dX7_readsOrder_269 (by decide) ?_
              refine fa_iaddN hx hb dX7_readsOrder_273 ?_
              refine fa_puti (k := 397) CX HX2343 fl_X7_141 (by omega) rfl rfl rfl rfl dX7_readsOrder_274 (fun H locs v2347 e2348 HX2349 => ?_)
              refine lv_iload_n hx hb dX7_readsOrder_277 rfl (lv_at hl 0 rfl) ?_
              exact RET _ _ _ _ _ _ _ HX2349 dX7_readsOrder_278 (by decide) (⟨rfl, ⟨⟨(Or.inr rfl), m_x2341, o_x2341 + 1, ⟨by omega, by omega, by omega, fun _ => by omega⟩, (show v2347 397 12 = nI (m_x2341) from (by rw [e2348, fa_u_n _ _ (by omega)]; exact gm_x2341)), (show v2347 397 11 = nI (o_x2341 + 1) from (by rw [e2348, fa_u_s])), (show fa_f3 v v2347 from (by rw [e2348]; exact fa_f3.w (fa_f3.tr (fa_f3.tr (fa_f3.tr (fa_f3.tr (by rw [e2205]; exact fa_f3.u (by rw [e2202]; exact fa_f3.u fa_f3.rf)) hf_x2208) hf_x2327) hf_x2334) hf_x2341) (by decide)))⟩, (by rw [e2348]; exact fa_fr.u (fa_fr.tr (fa_fr.tr (fa_fr.tr (fa_fr.tr (by rw [e2205]; exact fa_fr.u (by rw [e2202]; exact fa_fr.u fa_fr.rf (by omega)) (by omega)) (fa_fr.wide h2207.2 (by omega) (by omega))) (fa_fr.wide h2326.2 (by omega) (by omega))) (fa_fr.wide h2333.2 (by omega) (by omega))) (fa_fr.wide h2340.2 (by omega) (by omega))) (by omega))⟩⟩)
  · have hlt := fa_ltN (by omega) (by omega) c_35
    refine lv_aload_n hx hb dX7_readsOrder_38 rfl (lv_at hl 0 rfl) ?_
    refine fa_getr (k := 397) (j := 405) CX HX2203 fl_X7_32 (by omega) rfl rfl hM.2.2.2.2.2.2.2 dX7_readsOrder_39 ?_
    refine lv_aload_n hx hb dX7_readsOrder_42 rfl (lv_at hl 0 rfl) ?_
    refine fa_geti (k := 397) CX HX2203 fl_X7_134 (by omega) rfl rfl dX7_readsOrder_43 ?_
    rw [show v2201 397 12 = nI (na) from (by rw [e2202, fa_u_n _ _ (by omega)]; exact gA)]
    refine fa_cald (k := 405) (j := na) CX HX2203 (by omega) rfl (by omega) (by first | decide | assumption) dX7_readsOrder_46 ?_
    refine lv_goto (tgt := 51) hx hb dX7_readsOrder_47 (by decide) ?_
    refine fa_iast (k := 403) (j := 4 * no + 1) CX HX2203 (by omega) rfl (by omega) (by first | decide | assumption) dX7_readsOrder_51 (fun H locs v2350 e2351 HX2352 => ?_)
    refine lv_aload_n hx hb dX7_readsOrder_52 rfl (lv_at hl 0 rfl) ?_
    refine lv_bipush (v := nI (110)) hx hb dX7_readsOrder_53 (by decide) ?_
    refine fa_callViu (As := [.int (nI (110))]) (rest := []) CX HX2352 (r_accepts l G n hn v2350 r hM (n9) (na) (no) (by omega) (by omega) (by omega) (by rw [e2351, fa_u_n _ _ (by omega)]; exact (by rw [e2202, fa_u_n _ _ (by omega)]; exact g9)) (by rw [e2351, fa_u_n _ _ (by omega)]; exact (by rw [e2202, fa_u_n _ _ (by omega)]; exact gA)) (by rw [e2351, fa_u_n _ _ (by omega)]; exact (by rw [e2202, fa_u_n _ _ (by omega)]; exact gO)) (nI (110))) ln_X7_144 (by omega) rfl rfl rfl rfl (Nat.le_of_ble_eq_true rfl) hl.1 ⟨Nat.le_of_ble_eq_true rfl, Nat.le_of_ble_eq_true rfl⟩ ⟨Nat.le_refl _, Nat.le_refl _⟩ dX7_readsOrder_55 (fun x2354 v2355 H locs h2353 HX2356 => ?_)
    obtain ⟨hb_x2354, m_x2354, o_x2354, ⟨ha_x2354, hc_x2354, hd_x2354, hs_x2354, hx_x2354⟩, gm_x2354, go_x2354, hf_x2354⟩ := h2353.1
    refine lv_if_eq (tgt := 100) hx hb dX7_readsOrder_58 (by decide) (fun c_58 => ?_) (fun c_58 => ?_)
    · refine lv_aload_n hx hb dX7_readsOrder_100 rfl (lv_at hl 0 rfl) ?_
      refine lv_bipush (v := nI (97)) hx hb dX7_readsOrder_101 (by decide) ?_
      refine fa_callViu (As := [.int (nI (97))]) (rest := []) CX HX2356 (r_accepts l G n hn v2355 r hM (n9) (m_x2354) (o_x2354) (by omega) (by omega) (by omega) ((hf_x2354.2 9 (by decide) (by decide)).trans (by rw [e2351, fa_u_n _ _ (by omega)]; exact (by rw [e2202, fa_u_n _ _ (by omega)]; exact g9))) gm_x2354 go_x2354 (nI (97))) ln_X7_144 (by omega) rfl rfl rfl rfl (Nat.le_of_ble_eq_true rfl) hl.1 ⟨Nat.le_of_ble_eq_true rfl, Nat.le_of_ble_eq_true rfl⟩ ⟨Nat.le_refl _, Nat.le_refl _⟩ dX7_readsOrder_103 (fun x2358 v2359 H locs h2357 HX2360 => ?_)
      obtain ⟨hb_x2358, m_x2358, o_x2358, ⟨ha_x2358, hc_x2358, hd_x2358, hs_x2358, hx_x2358⟩, gm_x2358, go_x2358, hf_x2358⟩ := h2357.1
      refine lv_if_eq (tgt := 122) hx hb dX7_readsOrder_106 (by decide) (fun c_106 => ?_) (fun c_106 => ?_)
      · refine lv_aload_n hx hb dX7_readsOrder_122 rfl (lv_at hl 0 rfl) ?_
        refine lv_bipush (v := nI (115)) hx hb dX7_readsOrder_123 (by decide) ?_
        refine fa_callViu (As := [.int (nI (115))]) (rest := []) CX HX2360 (r_accepts l G n hn v2359 r hM (n9) (m_x2358) (o_x2358) (by omega) (by omega) (by omega) ((hf_x2358.2 9 (by decide) (by decide)).trans ((hf_x2354.2 9 (by decide) (by decide)).trans (by rw [e2351, fa_u_n _ _ (by omega)]; exact (by rw [e2202, fa_u_n _ _ (by omega)]; exact g9)))) gm_x2358 go_x2358 (nI (115))) ln_X7_144 (by omega) rfl rfl rfl rfl (Nat.le_of_ble_eq_true rfl) hl.1 ⟨Nat.le_of_ble_eq_true rfl, Nat.le_of_ble_eq_true rfl⟩ ⟨Nat.le_refl _, Nat.le_refl _⟩ dX7_readsOrder_125 (fun x2362 v2363 H locs h2361 HX2364 => ?_)
        obtain ⟨hb_x2362, m_x2362, o_x2362, ⟨ha_x2362, hc_x2362, hd_x2362, hs_x2362, hx_x2362⟩, gm_x2362, go_x2362, hf_x2362⟩ := h2361.1
        refine lv_if_ne (tgt := 140) hx hb dX7_readsOrder_128 (by decide) (fun c_128 => ?_) (fun c_128 => ?_)
        · have hl_x2362 := hs_x2362 c_128
          refine lv_aload_n hx hb dX7_readsOrder_140 rfl (lv_at hl 0 rfl) ?_
          refine lv_iconst (v := nI (2)) hx hb dX7_readsOrder_141 (by decide) ?_
          refine lv_iconst (v := nI (0)) hx hb dX7_readsOrder_142 (by decide) ?_
          refine lv_bipush (v := nI (7)) hx hb dX7_readsOrder_143 (by decide) ?_
          refine fa_callViu (As := [.int (nI (2)), .int (nI (0)), .int (nI (7))]) (rest := []) CX HX2364 (r_number l G n hn v2363 r hM (n9) (m_x2362) (o_x2362) (by omega) (by omega) (by omega) ((hf_x2362.2 9 (by decide) (by decide)).trans ((hf_x2358.2 9 (by decide) (by decide)).trans ((hf_x2354.2 9 (by decide) (by decide)).trans (by rw [e2351, fa_u_n _ _ (by omega)]; exact (by rw [e2202, fa_u_n _ _ (by omega)]; exact g9))))) gm_x2362 go_x2362 (2) (nI (0)) (nI (7)) (by omega)) ln_X7_148 (by omega) rfl rfl rfl rfl (Nat.le_of_ble_eq_true rfl) hl.1 ⟨Nat.le_of_ble_eq_true rfl, Nat.le_of_ble_eq_true rfl⟩ ⟨Nat.le_refl _, Nat.le_refl _⟩ dX7_readsOrder_145 (fun x2366 v2367 H locs h2365 HX2368 => ?_)
          obtain ⟨hb_x2366, m_x2366, o_x2366, ⟨ha_x2366, hc_x2366, hd_x2366, hs_x2366, hx_x2366⟩, gm_x2366, go_x2366, hf_x2366⟩ := h2365.1
          refine lv_if_eq (tgt := 176) hx hb dX7_readsOrder_148 (by decide) (fun c_148 => ?_) (fun c_148 => ?_)
          · refine lv_iconst (v := nI (0)) hx hb dX7_readsOrder_176 (by decide) ?_
            refine lv_istore_n (lv' := [(1, .int (nI (0))), (0, .ref (fa_B G + (397)))]) hx hb dX7_readsOrder_177 rfl hl (by decide) rfl (fun ls hl => ?_)
            refine lv_goto (tgt := 259) hx hb dX7_readsOrder_178 (by decide) ?_
            refine lv_aload_n hx hb dX7_readsOrder_259 rfl (lv_at hl 1 rfl) ?_
            refine lv_dup hx hb dX7_readsOrder_260 rfl ?_
            refine fa_geti (k := 397) CX HX2368 fl_X7_141 (by omega) rfl rfl dX7_readsOrder_261 ?_
            rw [show v2367 397 11 = nI (o_x2366) from go_x2366]
            refine lv_iload_n hx hb dX7_readsOrder_264 rfl (lv_at hl 0 rfl) ?_
            refine lv_if_eq (tgt := 272) hx hb dX7_readsOrder_265 (by decide) (fun c_265 => ?_) (fun c_265 => ?_)
            · refine lv_iconst (v := nI (0)) hx hb dX7_readsOrder_272 (by decide) ?_
              refine fa_iaddN hx hb dX7_readsOrder_273 ?_
              refine fa_puti (k := 397) CX HX2368 fl_X7_141 (by omega) rfl rfl rfl rfl dX7_readsOrder_274 (fun H locs v2369 e2370 HX2371 => ?_)
              refine lv_iload_n hx hb dX7_readsOrder_277 rfl (lv_at hl 0 rfl) ?_
              exact RET _ _ _ _ _ _ _ HX2371 dX7_readsOrder_278 (by decide) (⟨rfl, ⟨⟨(Or.inl rfl), m_x2366, o_x2366 + 0, ⟨by omega, by omega, by omega, fun z => absurd (by decide) z⟩, (show v2369 397 12 = nI (m_x2366) from (by rw [e2370, fa_u_n _ _ (by omega)]; exact gm_x2366)), (show v2369 397 11 = nI (o_x2366 + 0) from (by rw [e2370, fa_u_s])), (show fa_f3 v v2369 from (by rw [e2370]; exact fa_f3.w (fa_f3.tr (fa_f3.tr (fa_f3.tr (fa_f3.tr (by rw [e2351]; exact fa_f3.u (by rw [e2202]; exact fa_f3.u fa_f3.rf)) hf_x2354) hf_x2358) hf_x2362) hf_x2366) (by decide)))⟩, (by rw [e2370]; exact fa_fr.u (fa_fr.tr (fa_fr.tr (fa_fr.tr (fa_fr.tr (by rw [e2351]; exact fa_fr.u (by rw [e2202]; exact fa_fr.u fa_fr.rf (by omega)) (by omega)) (fa_fr.wide h2353.2 (by omega) (by omega))) (fa_fr.wide h2357.2 (by omega) (by omega))) (fa_fr.wide h2361.2 (by omega) (by omega))) (fa_fr.wide h2365.2 (by omega) (by omega))) (by omega))⟩⟩)
            · exact absurd (by try decide) c_265
          · have hl_x2366 := hs_x2366 c_148
            refine lv_aload_n hx hb dX7_readsOrder_151 rfl (lv_at hl 0 rfl) ?_
            refine lv_bipush (v := nI (44)) hx hb dX7_readsOrder_152 (by decide) ?_
            refine fa_callViu (As := [.int (nI (44))]) (rest := []) CX HX2368 (r_accepts l G n hn v2367 r hM (n9) (m_x2366) (o_x2366) (by omega) (by omega) (by omega) ((hf_x2366.2 9 (by decide) (by decide)).trans ((hf_x2362.2 9 (by decide) (by decide)).trans ((hf_x2358.2 9 (by decide) (by decide)).trans ((hf_x2354.2 9 (by decide) (by decide)).trans (by rw [e2351, fa_u_n _ _ (by omega)]; exact (by rw [e2202, fa_u_n _ _ (by omega)]; exact g9)))))) gm_x2366 go_x2366 (nI (44))) ln_X7_144 (by omega) rfl rfl rfl rfl (Nat.le_of_ble_eq_true rfl) hl.1 ⟨Nat.le_of_ble_eq_true rfl, Nat.le_of_ble_eq_true rfl⟩ ⟨Nat.le_refl _, Nat.le_refl _⟩ dX7_readsOrder_154 (fun x2373 v2374 H locs h2372 HX2375 => ?_)
            obtain ⟨hb_x2373, m_x2373, o_x2373, ⟨ha_x2373, hc_x2373, hd_x2373, hs_x2373, hx_x2373⟩, gm_x2373, go_x2373, hf_x2373⟩ := h2372.1
            refine lv_if_eq (tgt := 176) hx hb dX7_readsOrder_157 (by decide) (fun c_157 => ?_) (fun c_157 => ?_)
            · refine lv_iconst (v := nI (0)) hx hb dX7_readsOrder_176 (by decide) ?_
              refine lv_istore_n (lv' := [(1, .int (nI (0))), (0, .ref (fa_B G + (397)))]) hx hb dX7_readsOrder_177 rfl hl (by decide) rfl (fun ls hl => ?_)
              refine lv_goto (tgt := 259) hx hb dX7_readsOrder_178 (by decide) ?_
              refine lv_aload_n hx hb dX7_readsOrder_259 rfl (lv_at hl 1 rfl) ?_
              refine lv_dup hx hb dX7_readsOrder_260 rfl ?_
              refine fa_geti (k := 397) CX HX2375 fl_X7_141 (by omega) rfl rfl dX7_readsOrder_261 ?_
              rw [show v2374 397 11 = nI (o_x2373) from go_x2373]
              refine lv_iload_n hx hb dX7_readsOrder_264 rfl (lv_at hl 0 rfl) ?_
              refine lv_if_eq (tgt := 272) hx hb dX7_readsOrder_265 (by decide) (fun c_265 => ?_) (fun c_265 => ?_)
              · refine lv_iconst (v := nI (0)) hx hb dX7_readsOrder_272 (by decide) ?_
                refine fa_iaddN hx hb dX7_readsOrder_273 ?_
                refine fa_puti (k := 397) CX HX2375 fl_X7_141 (by omega) rfl rfl rfl rfl dX7_readsOrder_274 (fun H locs v2376 e2377 HX2378 => ?_)
                refine lv_iload_n hx hb dX7_readsOrder_277 rfl (lv_at hl 0 rfl) ?_
                exact RET _ _ _ _ _ _ _ HX2378 dX7_readsOrder_278 (by decide) (⟨rfl, ⟨⟨(Or.inl rfl), m_x2373, o_x2373 + 0, ⟨by omega, by omega, by omega, fun z => absurd (by decide) z⟩, (show v2376 397 12 = nI (m_x2373) from (by rw [e2377, fa_u_n _ _ (by omega)]; exact gm_x2373)), (show v2376 397 11 = nI (o_x2373 + 0) from (by rw [e2377, fa_u_s])), (show fa_f3 v v2376 from (by rw [e2377]; exact fa_f3.w (fa_f3.tr (fa_f3.tr (fa_f3.tr (fa_f3.tr (fa_f3.tr (by rw [e2351]; exact fa_f3.u (by rw [e2202]; exact fa_f3.u fa_f3.rf)) hf_x2354) hf_x2358) hf_x2362) hf_x2366) hf_x2373) (by decide)))⟩, (by rw [e2377]; exact fa_fr.u (fa_fr.tr (fa_fr.tr (fa_fr.tr (fa_fr.tr (fa_fr.tr (by rw [e2351]; exact fa_fr.u (by rw [e2202]; exact fa_fr.u fa_fr.rf (by omega)) (by omega)) (fa_fr.wide h2353.2 (by omega) (by omega))) (fa_fr.wide h2357.2 (by omega) (by omega))) (fa_fr.wide h2361.2 (by omega) (by omega))) (fa_fr.wide h2365.2 (by omega) (by omega))) (fa_fr.wide h2372.2 (by omega) (by omega))) (by omega))⟩⟩)
              · exact absurd (by try decide) c_265
            · have hl_x2373 := hs_x2373 c_157
              refine lv_aload_n hx hb dX7_readsOrder_160 rfl (lv_at hl 0 rfl) ?_
              refine lv_iconst (v := nI (3)) hx hb dX7_readsOrder_161 (by decide) ?_
              refine lv_iconst (v := nI (0)) hx hb dX7_readsOrder_162 (by decide) ?_
              refine lv_sipush (v := nI (199)) hx hb dX7_readsOrder_163 (by decide) ?_
              refine fa_callViu (As := [.int (nI (3)), .int (nI (0)), .int (nI (199))]) (rest := []) CX HX2375 (r_number l G n hn v2374 r hM (n9) (m_x2373) (o_x2373) (by omega) (by omega) (by omega) ((hf_x2373.2 9 (by decide) (by decide)).trans ((hf_x2366.2 9 (by decide) (by decide)).trans ((hf_x2362.2 9 (by decide) (by decide)).trans ((hf_x2358.2 9 (by decide) (by decide)).trans ((hf_x2354.2 9 (by decide) (by decide)).trans (by rw [e2351, fa_u_n _ _ (by omega)]; exact (by rw [e2202, fa_u_n _ _ (by omega)]; exact g9))))))) gm_x2373 go_x2373 (3) (nI (0)) (nI (199)) (by omega)) ln_X7_148 (by omega) rfl rfl rfl rfl (Nat.le_of_ble_eq_true rfl) hl.1 ⟨Nat.le_of_ble_eq_true rfl, Nat.le_of_ble_eq_true rfl⟩ ⟨Nat.le_refl _, Nat.le_refl _⟩ dX7_readsOrder_166 (fun x2380 v2381 H locs h2379 HX2382 => ?_)
              obtain ⟨hb_x2380, m_x2380, o_x2380, ⟨ha_x2380, hc_x2380, hd_x2380, hs_x2380, hx_x2380⟩, gm_x2380, go_x2380, hf_x2380⟩ := h2379.1
              refine lv_if_eq (tgt := 176) hx hb dX7_readsOrder_169 (by decide) (fun c_169 => ?_) (fun c_169 => ?_)
              · refine lv_iconst (v := nI (0)) hx hb dX7_readsOrder_176 (by decide) ?_
                refine lv_istore_n (lv' := [(1, .int (nI (0))), (0, .ref (fa_B G + (397)))]) hx hb dX7_readsOrder_177 rfl hl (by decide) rfl (fun ls hl => ?_)
                refine lv_goto (tgt := 259) hx hb dX7_readsOrder_178 (by decide) ?_
                refine lv_aload_n hx hb dX7_readsOrder_259 rfl (lv_at hl 1 rfl) ?_
                refine lv_dup hx hb dX7_readsOrder_260 rfl ?_
                refine fa_geti (k := 397) CX HX2382 fl_X7_141 (by omega) rfl rfl dX7_readsOrder_261 ?_
                rw [show v2381 397 11 = nI (o_x2380) from go_x2380]
                refine lv_iload_n hx hb dX7_readsOrder_264 rfl (lv_at hl 0 rfl) ?_
                refine lv_if_eq (tgt := 272) hx hb dX7_readsOrder_265 (by decide) (fun c_265 => ?_) (fun c_265 => ?_)
                · refine lv_iconst (v := nI (0)) hx hb dX7_readsOrder_272 (by decide) ?_
                  refine fa_iaddN hx hb dX7_readsOrder_273 ?_
                  refine fa_puti (k := 397) CX HX2382 fl_X7_141 (by omega) rfl rfl rfl rfl dX7_readsOrder_274 (fun H locs v2383 e2384 HX2385 => ?_)
                  refine lv_iload_n hx hb dX7_readsOrder_277 rfl (lv_at hl 0 rfl) ?_
                  exact RET _ _ _ _ _ _ _ HX2385 dX7_readsOrder_278 (by decide) (⟨rfl, ⟨⟨(Or.inl rfl), m_x2380, o_x2380 + 0, ⟨by omega, by omega, by omega, fun z => absurd (by decide) z⟩, (show v2383 397 12 = nI (m_x2380) from (by rw [e2384, fa_u_n _ _ (by omega)]; exact gm_x2380)), (show v2383 397 11 = nI (o_x2380 + 0) from (by rw [e2384, fa_u_s])), (show fa_f3 v v2383 from (by rw [e2384]; exact fa_f3.w (fa_f3.tr (fa_f3.tr (fa_f3.tr (fa_f3.tr (fa_f3.tr (fa_f3.tr (by rw [e2351]; exact fa_f3.u (by rw [e2202]; exact fa_f3.u fa_f3.rf)) hf_x2354) hf_x2358) hf_x2362) hf_x2366) hf_x2373) hf_x2380) (by decide)))⟩, (by rw [e2384]; exact fa_fr.u (fa_fr.tr (fa_fr.tr (fa_fr.tr (fa_fr.tr (fa_fr.tr (fa_fr.tr (by rw [e2351]; exact fa_fr.u (by rw [e2202]; exact fa_fr.u fa_fr.rf (by omega)) (by omega)) (fa_fr.wide h2353.2 (by omega) (by omega))) (fa_fr.wide h2357.2 (by omega) (by omega))) (fa_fr.wide h2361.2 (by omega) (by omega))) (fa_fr.wide h2365.2 (by omega) (by omega))) (fa_fr.wide h2372.2 (by omega) (by omega))) (fa_fr.wide h2379.2 (by omega) (by omega))) (by omega))⟩⟩)
                · exact absurd (by try decide) c_265
              · have hl_x2380 := hs_x2380 c_169
                refine lv_iconst (v := nI (1)) hx hb dX7_readsOrder_172 (by decide) ?_
                refine lv_goto (tgt := 177) hx hb dX7_readsOrder_173 (by decide) ?_
                refine lv_istore_n (lv' := [(1, .int (nI (1))), (0, .ref (fa_B G + (397)))]) hx hb dX7_readsOrder_177 rfl hl (by decide) rfl (fun ls hl => ?_)
                refine lv_goto (tgt := 259) hx hb dX7_readsOrder_178 (by decide) ?_
                refine lv_aload_n hx hb dX7_readsOrder_259 rfl (lv_at hl 1 rfl) ?_
                refine lv_dup hx hb dX7_readsOrder_260 rfl ?_
                refine fa_geti (k := 397) CX HX2382 fl_X7_141 (by omega) rfl rfl dX7_readsOrder_261 ?_
                rw [show v2381 397 11 = nI (o_x2380) from go_x2380]
                refine lv_iload_n hx hb dX7_readsOrder_264 rfl (lv_at hl 0 rfl) ?_
                refine lv_if_eq (tgt := 272) hx hb dX7_readsOrder_265 (by decide) (fun c_265 => ?_) (fun c_265 => ?_)
                · exact absurd c_265 (by try decide)
                · refine lv_iconst (v := nI (1)) hx hb dX7_readsOrder_268 (by decide) ?_
                  refine lv_goto (tgt := 273) hx hb dX7_readsOrder_269 (by decide) ?_
                  refine fa_iaddN hx hb dX7_readsOrder_273 ?_
                  refine fa_puti (k := 397) CX HX2382 fl_X7_141 (by omega) rfl rfl rfl rfl dX7_readsOrder_274 (fun H locs v2386 e2387 HX2388 => ?_)
                  refine lv_iload_n hx hb dX7_readsOrder_277 rfl (lv_at hl 0 rfl) ?_
                  exact RET _ _ _ _ _ _ _ HX2388 dX7_readsOrder_278 (by decide) (⟨rfl, ⟨⟨(Or.inr rfl), m_x2380, o_x2380 + 1, ⟨by omega, by omega, by omega, fun _ => by omega⟩, (show v2386 397 12 = nI (m_x2380) from (by rw [e2387, fa_u_n _ _ (by omega)]; exact gm_x2380)), (show v2386 397 11 = nI (o_x2380 + 1) from (by rw [e2387, fa_u_s])), (show fa_f3 v v2386 from (by rw [e2387]; exact fa_f3.w (fa_f3.tr (fa_f3.tr (fa_f3.tr (fa_f3.tr (fa_f3.tr (fa_f3.tr (by rw [e2351]; exact fa_f3.u (by rw [e2202]; exact fa_f3.u fa_f3.rf)) hf_x2354) hf_x2358) hf_x2362) hf_x2366) hf_x2373) hf_x2380) (by decide)))⟩, (by rw [e2387]; exact fa_fr.u (fa_fr.tr (fa_fr.tr (fa_fr.tr (fa_fr.tr (fa_fr.tr (fa_fr.tr (by rw [e2351]; exact fa_fr.u (by rw [e2202]; exact fa_fr.u fa_fr.rf (by omega)) (by omega)) (fa_fr.wide h2353.2 (by omega) (by omega))) (fa_fr.wide h2357.2 (by omega) (by omega))) (fa_fr.wide h2361.2 (by omega) (by omega))) (fa_fr.wide h2365.2 (by omega) (by omega))) (fa_fr.wide h2372.2 (by omega) (by omega))) (fa_fr.wide h2379.2 (by omega) (by omega))) (by omega))⟩⟩)
        · refine lv_aload_n hx hb dX7_readsOrder_131 rfl (lv_at hl 0 rfl) ?_
          refine lv_bipush (v := nI (108)) hx hb dX7_readsOrder_132 (by decide) ?_
          refine fa_callViu (As := [.int (nI (108))]) (rest := []) CX HX2364 (r_accepts l G n hn v2363 r hM (n9) (m_x2362) (o_x2362) (by omega) (by omega) (by omega) ((hf_x2362.2 9 (by decide) (by decide)).trans ((hf_x2358.2 9 (by decide) (by decide)).trans ((hf_x2354.2 9 (by decide) (by decide)).trans (by rw [e2351, fa_u_n _ _ (by omega)]; exact (by rw [e2202, fa_u_n _ _ (by omega)]; exact g9))))) gm_x2362 go_x2362 (nI (108))) ln_X7_144 (by omega) rfl rfl rfl rfl (Nat.le_of_ble_eq_true rfl) hl.1 ⟨Nat.le_of_ble_eq_true rfl, Nat.le_of_ble_eq_true rfl⟩ ⟨Nat.le_refl _, Nat.le_refl _⟩ dX7_readsOrder_134 (fun x2390 v2391 H locs h2389 HX2392 => ?_)
          obtain ⟨hb_x2390, m_x2390, o_x2390, ⟨ha_x2390, hc_x2390, hd_x2390, hs_x2390, hx_x2390⟩, gm_x2390, go_x2390, hf_x2390⟩ := h2389.1
          refine lv_if_eq (tgt := 181) hx hb dX7_readsOrder_137 (by decide) (fun c_137 => ?_) (fun c_137 => ?_)
          · refine lv_aload_n hx hb dX7_readsOrder_181 rfl (lv_at hl 0 rfl) ?_
            refine lv_bipush (v := nI (102)) hx hb dX7_readsOrder_182 (by decide) ?_
            refine fa_callViu (As := [.int (nI (102))]) (rest := []) CX HX2392 (r_accepts l G n hn v2391 r hM (n9) (m_x2390) (o_x2390) (by omega) (by omega) (by omega) ((hf_x2390.2 9 (by decide) (by decide)).trans ((hf_x2362.2 9 (by decide) (by decide)).trans ((hf_x2358.2 9 (by decide) (by decide)).trans ((hf_x2354.2 9 (by decide) (by decide)).trans (by rw [e2351, fa_u_n _ _ (by omega)]; exact (by rw [e2202, fa_u_n _ _ (by omega)]; exact g9)))))) gm_x2390 go_x2390 (nI (102))) ln_X7_144 (by omega) rfl rfl rfl rfl (Nat.le_of_ble_eq_true rfl) hl.1 ⟨Nat.le_of_ble_eq_true rfl, Nat.le_of_ble_eq_true rfl⟩ ⟨Nat.le_refl _, Nat.le_refl _⟩ dX7_readsOrder_184 (fun x2394 v2395 H locs h2393 HX2396 => ?_)
            obtain ⟨hb_x2394, m_x2394, o_x2394, ⟨ha_x2394, hc_x2394, hd_x2394, hs_x2394, hx_x2394⟩, gm_x2394, go_x2394, hf_x2394⟩ := h2393.1
            refine lv_if_eq (tgt := 232) hx hb dX7_readsOrder_187 (by decide) (fun c_187 => ?_) (fun c_187 => ?_)
            · refine lv_aload_n hx hb dX7_readsOrder_232 rfl (lv_at hl 0 rfl) ?_
              refine lv_bipush (v := nI (100)) hx hb dX7_readsOrder_233 (by decide) ?_
              refine fa_callViu (As := [.int (nI (100))]) (rest := []) CX HX2396 (r_accepts l G n hn v2395 r hM (n9) (m_x2394) (o_x2394) (by omega) (by omega) (by omega) ((hf_x2394.2 9 (by decide) (by decide)).trans ((hf_x2390.2 9 (by decide) (by decide)).trans ((hf_x2362.2 9 (by decide) (by decide)).trans ((hf_x2358.2 9 (by decide) (by decide)).trans ((hf_x2354.2 9 (by decide) (by decide)).trans (by rw [e2351, fa_u_n _ _ (by omega)]; exact (by rw [e2202, fa_u_n _ _ (by omega)]; exact g9))))))) gm_x2394 go_x2394 (nI (100))) ln_X7_144 (by omega) rfl rfl rfl rfl (Nat.le_of_ble_eq_true rfl) hl.1 ⟨Nat.le_of_ble_eq_true rfl, Nat.le_of_ble_eq_true rfl⟩ ⟨Nat.le_refl _, Nat.le_refl _⟩ dX7_readsOrder_235 (fun x2398 v2399 H locs h2397 HX2400 => ?_)
              obtain ⟨hb_x2398, m_x2398, o_x2398, ⟨ha_x2398, hc_x2398, hd_x2398, hs_x2398, hx_x2398⟩, gm_x2398, go_x2398, hf_x2398⟩ := h2397.1
              refine lv_if_eq (tgt := 257) hx hb dX7_readsOrder_238 (by decide) (fun c_238 => ?_) (fun c_238 => ?_)
              · refine lv_iconst (v := nI (0)) hx hb dX7_readsOrder_257 (by decide) ?_
                refine lv_istore_n (lv' := [(1, .int (nI (0))), (0, .ref (fa_B G + (397)))]) hx hb dX7_readsOrder_258 rfl hl (by decide) rfl (fun ls hl => ?_)
                refine lv_aload_n hx hb dX7_readsOrder_259 rfl (lv_at hl 1 rfl) ?_
                refine lv_dup hx hb dX7_readsOrder_260 rfl ?_
                refine fa_geti (k := 397) CX HX2400 fl_X7_141 (by omega) rfl rfl dX7_readsOrder_261 ?_
                rw [show v2399 397 11 = nI (o_x2398) from go_x2398]
                refine lv_iload_n hx hb dX7_readsOrder_264 rfl (lv_at hl 0 rfl) ?_
                refine lv_if_eq (tgt := 272) hx hb dX7_readsOrder_265 (by decide) (fun c_265 => ?_) (fun c_265 => ?_)
                · refine lv_iconst (v := nI (0)) hx hb dX7_readsOrder_272 (by decide) ?_
                  refine fa_iaddN hx hb dX7_readsOrder_273 ?_
                  refine fa_puti (k := 397) CX HX2400 fl_X7_141 (by omega) rfl rfl rfl rfl dX7_readsOrder_274 (fun H locs v2401 e2402 HX2403 => ?_)
                  refine lv_iload_n hx hb dX7_readsOrder_277 rfl (lv_at hl 0 rfl) ?_
                  exact RET _ _ _ _ _ _ _ HX2403 dX7_readsOrder_278 (by decide) (⟨rfl, ⟨⟨(Or.inl rfl), m_x2398, o_x2398 + 0, ⟨by omega, by omega, by omega, fun z => absurd (by decide) z⟩, (show v2401 397 12 = nI (m_x2398) from (by rw [e2402, fa_u_n _ _ (by omega)]; exact gm_x2398)), (show v2401 397 11 = nI (o_x2398 + 0) from (by rw [e2402, fa_u_s])), (show fa_f3 v v2401 from (by rw [e2402]; exact fa_f3.w (fa_f3.tr (fa_f3.tr (fa_f3.tr (fa_f3.tr (fa_f3.tr (fa_f3.tr (by rw [e2351]; exact fa_f3.u (by rw [e2202]; exact fa_f3.u fa_f3.rf)) hf_x2354) hf_x2358) hf_x2362) hf_x2390) hf_x2394) hf_x2398) (by decide)))⟩, (by rw [e2402]; exact fa_fr.u (fa_fr.tr (fa_fr.tr (fa_fr.tr (fa_fr.tr (fa_fr.tr (fa_fr.tr (by rw [e2351]; exact fa_fr.u (by rw [e2202]; exact fa_fr.u fa_fr.rf (by omega)) (by omega)) (fa_fr.wide h2353.2 (by omega) (by omega))) (fa_fr.wide h2357.2 (by omega) (by omega))) (fa_fr.wide h2361.2 (by omega) (by omega))) (fa_fr.wide h2389.2 (by omega) (by omega))) (fa_fr.wide h2393.2 (by omega) (by omega))) (fa_fr.wide h2397.2 (by omega) (by omega))) (by omega))⟩⟩)
                · exact absurd (by try decide) c_265
              · have hl_x2398 := hs_x2398 c_238
                refine lv_aload_n hx hb dX7_readsOrder_241 rfl (lv_at hl 0 rfl) ?_
                refine lv_iconst (v := nI (2)) hx hb dX7_readsOrder_242 (by decide) ?_
                refine lv_iconst (v := nI (1)) hx hb dX7_readsOrder_243 (by decide) ?_
                refine lv_sipush (v := nI (400)) hx hb dX7_readsOrder_244 (by decide) ?_
                refine fa_callViu (As := [.int (nI (2)), .int (nI (1)), .int (nI (400))]) (rest := []) CX HX2400 (r_number l G n hn v2399 r hM (n9) (m_x2398) (o_x2398) (by omega) (by omega) (by omega) ((hf_x2398.2 9 (by decide) (by decide)).trans ((hf_x2394.2 9 (by decide) (by decide)).trans ((hf_x2390.2 9 (by decide) (by decide)).trans ((hf_x2362.2 9 (by decide) (by decide)).trans ((hf_x2358.2 9 (by decide) (by decide)).trans ((hf_x2354.2 9 (by decide) (by decide)).trans (by rw [e2351, fa_u_n _ _ (by omega)]; exact (by rw [e2202, fa_u_n _ _ (by omega)]; exact g9)))))))) gm_x2398 go_x2398 (2) (nI (1)) (nI (400)) (by omega)) ln_X7_148 (by omega) rfl rfl rfl rfl (Nat.le_of_ble_eq_true rfl) hl.1 ⟨Nat.le_of_ble_eq_true rfl, Nat.le_of_ble_eq_true rfl⟩ ⟨Nat.le_refl _, Nat.le_refl _⟩ dX7_readsOrder_247 (fun x2405 v2406 H locs h2404 HX2407 => ?_)
                obtain ⟨hb_x2405, m_x2405, o_x2405, ⟨ha_x2405, hc_x2405, hd_x2405, hs_x2405, hx_x2405⟩, gm_x2405, go_x2405, hf_x2405⟩ := h2404.1
                refine lv_if_eq (tgt := 257) hx hb dX7_readsOrder_250 (by decide) (fun c_250 => ?_) (fun c_250 => ?_)
                · refine lv_iconst (v := nI (0)) hx hb dX7_readsOrder_257 (by decide) ?_
                  refine lv_istore_n (lv' := [(1, .int (nI (0))), (0, .ref (fa_B G + (397)))]) hx hb dX7_readsOrder_258 rfl hl (by decide) rfl (fun ls hl => ?_)
                  refine lv_aload_n hx hb dX7_readsOrder_259 rfl (lv_at hl 1 rfl) ?_
                  refine lv_dup hx hb dX7_readsOrder_260 rfl ?_
                  refine fa_geti (k := 397) CX HX2407 fl_X7_141 (by omega) rfl rfl dX7_readsOrder_261 ?_
                  rw [show v2406 397 11 = nI (o_x2405) from go_x2405]
                  refine lv_iload_n hx hb dX7_readsOrder_264 rfl (lv_at hl 0 rfl) ?_
                  refine lv_if_eq (tgt := 272) hx hb dX7_readsOrder_265 (by decide) (fun c_265 => ?_) (fun c_265 => ?_)
                  · refine lv_iconst (v := nI (0)) hx hb dX7_readsOrder_272 (by decide) ?_
                    refine fa_iaddN hx hb dX7_readsOrder_273 ?_
                    refine fa_puti (k := 397) CX HX2407 fl_X7_141 (by omega) rfl rfl rfl rfl dX7_readsOrder_274 (fun H locs v2408 e2409 HX2410 => ?_)
                    refine lv_iload_n hx hb dX7_readsOrder_277 rfl (lv_at hl 0 rfl) ?_
                    exact RET _ _ _ _ _ _ _ HX2410 dX7_readsOrder_278 (by decide) (⟨rfl, ⟨⟨(Or.inl rfl), m_x2405, o_x2405 + 0, ⟨by omega, by omega, by omega, fun z => absurd (by decide) z⟩, (show v2408 397 12 = nI (m_x2405) from (by rw [e2409, fa_u_n _ _ (by omega)]; exact gm_x2405)), (show v2408 397 11 = nI (o_x2405 + 0) from (by rw [e2409, fa_u_s])), (show fa_f3 v v2408 from (by rw [e2409]; exact fa_f3.w (fa_f3.tr (fa_f3.tr (fa_f3.tr (fa_f3.tr (fa_f3.tr (fa_f3.tr (fa_f3.tr (by rw [e2351]; exact fa_f3.u (by rw [e2202]; exact fa_f3.u fa_f3.rf)) hf_x2354) hf_x2358) hf_x2362) hf_x2390) hf_x2394) hf_x2398) hf_x2405) (by decide)))⟩, (by rw [e2409]; exact fa_fr.u (fa_fr.tr (fa_fr.tr (fa_fr.tr (fa_fr.tr (fa_fr.tr (fa_fr.tr (fa_fr.tr (by rw [e2351]; exact fa_fr.u (by rw [e2202]; exact fa_fr.u fa_fr.rf (by omega)) (by omega)) (fa_fr.wide h2353.2 (by omega) (by omega))) (fa_fr.wide h2357.2 (by omega) (by omega))) (fa_fr.wide h2361.2 (by omega) (by omega))) (fa_fr.wide h2389.2 (by omega) (by omega))) (fa_fr.wide h2393.2 (by omega) (by omega))) (fa_fr.wide h2397.2 (by omega) (by omega))) (fa_fr.wide h2404.2 (by omega) (by omega))) (by omega))⟩⟩)
                  · exact absurd (by try decide) c_265
                · have hl_x2405 := hs_x2405 c_250
                  refine lv_iconst (v := nI (1)) hx hb dX7_readsOrder_253 (by decide) ?_
                  refine lv_goto (tgt := 258) hx hb dX7_readsOrder_254 (by decide) ?_
                  refine lv_istore_n (lv' := [(1, .int (nI (1))), (0, .ref (fa_B G + (397)))]) hx hb dX7_readsOrder_258 rfl hl (by decide) rfl (fun ls hl => ?_)
                  refine lv_aload_n hx hb dX7_readsOrder_259 rfl (lv_at hl 1 rfl) ?_
                  refine lv_dup hx hb dX7_readsOrder_260 rfl ?_
                  refine fa_geti (k := 397) CX HX2407 fl_X7_141 (by omega) rfl rfl dX7_readsOrder_261 ?_
                  rw [show v2406 397 11 = nI (o_x2405) from go_x2405]
                  refine lv_iload_n hx hb dX7_readsOrder_264 rfl (lv_at hl 0 rfl) ?_
                  refine lv_if_eq (tgt := 272) hx hb dX7_readsOrder_265 (by decide) (fun c_265 => ?_) (fun c_265 => ?_)
                  · exact absurd c_265 (by try decide)
                  · refine lv_iconst (v := nI (1)) hx hb dX7_readsOrder_268 (by decide) ?_
                    refine lv_goto (tgt := 273) hx hb dX7_readsOrder_269 (by decide) ?_
                    refine fa_iaddN hx hb dX7_readsOrder_273 ?_
                    refine fa_puti (k := 397) CX HX2407 fl_X7_141 (by omega) rfl rfl rfl rfl dX7_readsOrder_274 (fun H locs v2411 e2412 HX2413 => ?_)
                    refine lv_iload_n hx hb dX7_readsOrder_277 rfl (lv_at hl 0 rfl) ?_
                    exact RET _ _ _ _ _ _ _ HX2413 dX7_readsOrder_278 (by decide) (⟨rfl, ⟨⟨(Or.inr rfl), m_x2405, o_x2405 + 1, ⟨by omega, by omega, by omega, fun _ => by omega⟩, (show v2411 397 12 = nI (m_x2405) from (by rw [e2412, fa_u_n _ _ (by omega)]; exact gm_x2405)), (show v2411 397 11 = nI (o_x2405 + 1) from (by rw [e2412, fa_u_s])), (show fa_f3 v v2411 from (by rw [e2412]; exact fa_f3.w (fa_f3.tr (fa_f3.tr (fa_f3.tr (fa_f3.tr (fa_f3.tr (fa_f3.tr (fa_f3.tr (by rw [e2351]; exact fa_f3.u (by rw [e2202]; exact fa_f3.u fa_f3.rf)) hf_x2354) hf_x2358) hf_x2362) hf_x2390) hf_x2394) hf_x2398) hf_x2405) (by decide)))⟩, (by rw [e2412]; exact fa_fr.u (fa_fr.tr (fa_fr.tr (fa_fr.tr (fa_fr.tr (fa_fr.tr (fa_fr.tr (fa_fr.tr (by rw [e2351]; exact fa_fr.u (by rw [e2202]; exact fa_fr.u fa_fr.rf (by omega)) (by omega)) (fa_fr.wide h2353.2 (by omega) (by omega))) (fa_fr.wide h2357.2 (by omega) (by omega))) (fa_fr.wide h2361.2 (by omega) (by omega))) (fa_fr.wide h2389.2 (by omega) (by omega))) (fa_fr.wide h2393.2 (by omega) (by omega))) (fa_fr.wide h2397.2 (by omega) (by omega))) (fa_fr.wide h2404.2 (by omega) (by omega))) (by omega))⟩⟩)
            · have hl_x2394 := hs_x2394 c_187
              refine lv_aload_n hx hb dX7_readsOrder_190 rfl (lv_at hl 0 rfl) ?_
              refine lv_iconst (v := nI (2)) hx hb dX7_readsOrder_191 (by decide) ?_
              refine lv_iconst (v := nI (0)) hx hb dX7_readsOrder_192 (by decide) ?_
              refine lv_sipush (v := nI (199)) hx hb dX7_readsOrder_193 (by decide) ?_
              refine fa_callViu (As := [.int (nI (2)), .int (nI (0)), .int (nI (199))]) (rest := []) CX HX2396 (r_number l G n hn v2395 r hM (n9) (m_x2394) (o_x2394) (by omega) (by omega) (by omega) ((hf_x2394.2 9 (by decide) (by decide)).trans ((hf_x2390.2 9 (by decide) (by decide)).trans ((hf_x2362.2 9 (by decide) (by decide)).trans ((hf_x2358.2 9 (by decide) (by decide)).trans ((hf_x2354.2 9 (by decide) (by decide)).trans (by rw [e2351, fa_u_n _ _ (by omega)]; exact (by rw [e2202, fa_u_n _ _ (by omega)]; exact g9))))))) gm_x2394 go_x2394 (2) (nI (0)) (nI (199)) (by omega)) ln_X7_148 (by omega) rfl rfl rfl rfl (Nat.le_of_ble_eq_true rfl) hl.1 ⟨Nat.le_of_ble_eq_true rfl, Nat.le_of_ble_eq_true rfl⟩ ⟨Nat.le_refl _, Nat.le_refl _⟩ dX7_readsOrder_196 (fun x2415 v2416 H locs h2414 HX2417 => ?_)
              obtain ⟨hb_x2415, m_x2415, o_x2415, ⟨ha_x2415, hc_x2415, hd_x2415, hs_x2415, hx_x2415⟩, gm_x2415, go_x2415, hf_x2415⟩ := h2414.1
              refine lv_if_eq (tgt := 227) hx hb dX7_readsOrder_199 (by decide) (fun c_199 => ?_) (fun c_199 => ?_)
              · refine lv_iconst (v := nI (0)) hx hb dX7_readsOrder_227 (by decide) ?_
                refine lv_istore_n (lv' := [(1, .int (nI (0))), (0, .ref (fa_B G + (397)))]) hx hb dX7_readsOrder_228 rfl hl (by decide) rfl (fun ls hl => ?_)
                refine lv_goto (tgt := 259) hx hb dX7_readsOrder_229 (by decide) ?_
                refine lv_aload_n hx hb dX7_readsOrder_259 rfl (lv_at hl 1 rfl) ?_
                refine lv_dup hx hb dX7_readsOrder_260 rfl ?_
                refine fa_geti (k := 397) CX HX2417 fl_X7_141 (by omega) rfl rfl dX7_readsOrder_261 ?_
                rw [show v2416 397 11 = nI (o_x2415) from go_x2415]
                refine lv_iload_n hx hb dX7_readsOrder_264 rfl (lv_at hl 0 rfl) ?_
                refine lv_if_eq (tgt := 272) hx hb dX7_readsOrder_265 (by decide) (fun c_265 => ?_) (fun c_265 => ?_)
                · refine lv_iconst (v := nI (0)) hx hb dX7_readsOrder_272 (by decide) ?_
                  refine fa_iaddN hx hb dX7_readsOrder_273 ?_
                  refine fa_puti (k := 397) CX HX2417 fl_X7_141 (by omega) rfl rfl rfl rfl dX7_readsOrder_274 (fun H locs v2418 e2419 HX2420 => ?_)
                  refine lv_iload_n hx hb dX7_readsOrder_277 rfl (lv_at hl 0 rfl) ?_
                  exact RET _ _ _ _ _ _ _ HX2420 dX7_readsOrder_278 (by decide) (⟨rfl, ⟨⟨(Or.inl rfl), m_x2415, o_x2415 + 0, ⟨by omega, by omega, by omega, fun z => absurd (by decide) z⟩, (show v2418 397 12 = nI (m_x2415) from (by rw [e2419, fa_u_n _ _ (by omega)]; exact gm_x2415)), (show v2418 397 11 = nI (o_x2415 + 0) from (by rw [e2419, fa_u_s])), (show fa_f3 v v2418 from (by rw [e2419]; exact fa_f3.w (fa_f3.tr (fa_f3.tr (fa_f3.tr (fa_f3.tr (fa_f3.tr (fa_f3.tr (by rw [e2351]; exact fa_f3.u (by rw [e2202]; exact fa_f3.u fa_f3.rf)) hf_x2354) hf_x2358) hf_x2362) hf_x2390) hf_x2394) hf_x2415) (by decide)))⟩, (by rw [e2419]; exact fa_fr.u (fa_fr.tr (fa_fr.tr (fa_fr.tr (fa_fr.tr (fa_fr.tr (fa_fr.tr (by rw [e2351]; exact fa_fr.u (by rw [e2202]; exact fa_fr.u fa_fr.rf (by omega)) (by omega)) (fa_fr.wide h2353.2 (by omega) (by omega))) (fa_fr.wide h2357.2 (by omega) (by omega))) (fa_fr.wide h2361.2 (by omega) (by omega))) (fa_fr.wide h2389.2 (by omega) (by omega))) (fa_fr.wide h2393.2 (by omega) (by omega))) (fa_fr.wide h2414.2 (by omega) (by omega))) (by omega))⟩⟩)
                · exact absurd (by try decide) c_265
              · have hl_x2415 := hs_x2415 c_199
                refine lv_aload_n hx hb dX7_readsOrder_202 rfl (lv_at hl 0 rfl) ?_
                refine lv_bipush (v := nI (44)) hx hb dX7_readsOrder_203 (by decide) ?_
                refine fa_callViu (As := [.int (nI (44))]) (rest := []) CX HX2417 (r_accepts l G n hn v2416 r hM (n9) (m_x2415) (o_x2415) (by omega) (by omega) (by omega) ((hf_x2415.2 9 (by decide) (by decide)).trans ((hf_x2394.2 9 (by decide) (by decide)).trans ((hf_x2390.2 9 (by decide) (by decide)).trans ((hf_x2362.2 9 (by decide) (by decide)).trans ((hf_x2358.2 9 (by decide) (by decide)).trans ((hf_x2354.2 9 (by decide) (by decide)).trans (by rw [e2351, fa_u_n _ _ (by omega)]; exact (by rw [e2202, fa_u_n _ _ (by omega)]; exact g9)))))))) gm_x2415 go_x2415 (nI (44))) ln_X7_144 (by omega) rfl rfl rfl rfl (Nat.le_of_ble_eq_true rfl) hl.1 ⟨Nat.le_of_ble_eq_true rfl, Nat.le_of_ble_eq_true rfl⟩ ⟨Nat.le_refl _, Nat.le_refl _⟩ dX7_readsOrder_205 (fun x2422 v2423 H locs h2421 HX2424 => ?_)
                obtain ⟨hb_x2422, m_x2422, o_x2422, ⟨ha_x2422, hc_x2422, hd_x2422, hs_x2422, hx_x2422⟩, gm_x2422, go_x2422, hf_x2422⟩ := h2421.1
                refine lv_if_eq (tgt := 227) hx hb dX7_readsOrder_208 (by decide) (fun c_208 => ?_) (fun c_208 => ?_)
                · refine lv_iconst (v := nI (0)) hx hb dX7_readsOrder_227 (by decide) ?_
                  refine lv_istore_n (lv' := [(1, .int (nI (0))), (0, .ref (fa_B G + (397)))]) hx hb dX7_readsOrder_228 rfl hl (by decide) rfl (fun ls hl => ?_)
                  refine lv_goto (tgt := 259) hx hb dX7_readsOrder_229 (by decide) ?_
                  refine lv_aload_n hx hb dX7_readsOrder_259 rfl (lv_at hl 1 rfl) ?_
                  refine lv_dup hx hb dX7_readsOrder_260 rfl ?_
                  refine fa_geti (k := 397) CX HX2424 fl_X7_141 (by omega) rfl rfl dX7_readsOrder_261 ?_
                  rw [show v2423 397 11 = nI (o_x2422) from go_x2422]
                  refine lv_iload_n hx hb dX7_readsOrder_264 rfl (lv_at hl 0 rfl) ?_
                  refine lv_if_eq (tgt := 272) hx hb dX7_readsOrder_265 (by decide) (fun c_265 => ?_) (fun c_265 => ?_)
                  · refine lv_iconst (v := nI (0)) hx hb dX7_readsOrder_272 (by decide) ?_
                    refine fa_iaddN hx hb dX7_readsOrder_273 ?_
                    refine fa_puti (k := 397) CX HX2424 fl_X7_141 (by omega) rfl rfl rfl rfl dX7_readsOrder_274 (fun H locs v2425 e2426 HX2427 => ?_)
                    refine lv_iload_n hx hb dX7_readsOrder_277 rfl (lv_at hl 0 rfl) ?_
                    exact RET _ _ _ _ _ _ _ HX2427 dX7_readsOrder_278 (by decide) (⟨rfl, ⟨⟨(Or.inl rfl), m_x2422, o_x2422 + 0, ⟨by omega, by omega, by omega, fun z => absurd (by decide) z⟩, (show v2425 397 12 = nI (m_x2422) from (by rw [e2426, fa_u_n _ _ (by omega)]; exact gm_x2422)), (show v2425 397 11 = nI (o_x2422 + 0) from (by rw [e2426, fa_u_s])), (show fa_f3 v v2425 from (by rw [e2426]; exact fa_f3.w (fa_f3.tr (fa_f3.tr (fa_f3.tr (fa_f3.tr (fa_f3.tr (fa_f3.tr (fa_f3.tr (by rw [e2351]; exact fa_f3.u (by rw [e2202]; exact fa_f3.u fa_f3.rf)) hf_x2354) hf_x2358) hf_x2362) hf_x2390) hf_x2394) hf_x2415) hf_x2422) (by decide)))⟩, (by rw [e2426]; exact fa_fr.u (fa_fr.tr (fa_fr.tr (fa_fr.tr (fa_fr.tr (fa_fr.tr (fa_fr.tr (fa_fr.tr (by rw [e2351]; exact fa_fr.u (by rw [e2202]; exact fa_fr.u fa_fr.rf (by omega)) (by omega)) (fa_fr.wide h2353.2 (by omega) (by omega))) (fa_fr.wide h2357.2 (by omega) (by omega))) (fa_fr.wide h2361.2 (by omega) (by omega))) (fa_fr.wide h2389.2 (by omega) (by omega))) (fa_fr.wide h2393.2 (by omega) (by omega))) (fa_fr.wide h2414.2 (by omega) (by omega))) (fa_fr.wide h2421.2 (by omega) (by omega))) (by omega))⟩⟩)
                  · exact absurd (by try decide) c_265
                · have hl_x2422 := hs_x2422 c_208
                  refine lv_aload_n hx hb dX7_readsOrder_211 rfl (lv_at hl 0 rfl) ?_
                  refine lv_iconst (v := nI (3)) hx hb dX7_readsOrder_212 (by decide) ?_
                  refine lv_iconst (v := nI (0)) hx hb dX7_readsOrder_213 (by decide) ?_
                  refine lv_sipush (v := nI (199)) hx hb dX7_readsOrder_214 (by decide) ?_
                  refine fa_callViu (As := [.int (nI (3)), .int (nI (0)), .int (nI (199))]) (rest := []) CX HX2424 (r_number l G n hn v2423 r hM (n9) (m_x2422) (o_x2422) (by omega) (by omega) (by omega) ((hf_x2422.2 9 (by decide) (by decide)).trans ((hf_x2415.2 9 (by decide) (by decide)).trans ((hf_x2394.2 9 (by decide) (by decide)).trans ((hf_x2390.2 9 (by decide) (by decide)).trans ((hf_x2362.2 9 (by decide) (by decide)).trans ((hf_x2358.2 9 (by decide) (by decide)).trans ((hf_x2354.2 9 (by decide) (by decide)).trans (by rw [e2351, fa_u_n _ _ (by omega)]; exact (by rw [e2202, fa_u_n _ _ (by omega)]; exact g9))))))))) gm_x2422 go_x2422 (3) (nI (0)) (nI (199)) (by omega)) ln_X7_148 (by omega) rfl rfl rfl rfl (Nat.le_of_ble_eq_true rfl) hl.1 ⟨Nat.le_of_ble_eq_true rfl, Nat.le_of_ble_eq_true rfl⟩ ⟨Nat.le_refl _, Nat.le_refl _⟩ dX7_readsOrder_217 (fun x2429 v2430 H locs h2428 HX2431 => ?_)
                  obtain ⟨hb_x2429, m_x2429, o_x2429, ⟨ha_x2429, hc_x2429, hd_x2429, hs_x2429, hx_x2429⟩, gm_x2429, go_x2429, hf_x2429⟩ := h2428.1
                  refine lv_if_eq (tgt := 227) hx hb dX7_readsOrder_220 (by decide) (fun c_220 => ?_) (fun c_220 => ?_)
                  · refine lv_iconst (v := nI (0)) hx hb dX7_readsOrder_227 (by decide) ?_
                    refine lv_istore_n (lv' := [(1, .int (nI (0))), (0, .ref (fa_B G + (397)))]) hx hb dX7_readsOrder_228 rfl hl (by decide) rfl (fun ls hl => ?_)
                    refine lv_goto (tgt := 259) hx hb dX7_readsOrder_229 (by decide) ?_
                    refine lv_aload_n hx hb dX7_readsOrder_259 rfl (lv_at hl 1 rfl) ?_
                    refine lv_dup hx hb dX7_readsOrder_260 rfl ?_
                    refine fa_geti (k := 397) CX HX2431 fl_X7_141 (by omega) rfl rfl dX7_readsOrder_261 ?_
                    rw [show v2430 397 11 = nI (o_x2429) from go_x2429]
                    refine lv_iload_n hx hb dX7_readsOrder_264 rfl (lv_at hl 0 rfl) ?_
                    refine lv_if_eq (tgt := 272) hx hb dX7_readsOrder_265 (by decide) (fun c_265 => ?_) (fun c_265 => ?_)
                    · refine lv_iconst (v := nI (0)) hx hb dX7_readsOrder_272 (by decide) ?_
                      refine fa_iaddN hx hb dX7_readsOrder_273 ?_
                      refine fa_puti (k := 397) CX HX2431 fl_X7_141 (by omega) rfl rfl rfl rfl dX7_readsOrder_274 (fun H locs v2432 e2433 HX2434 => ?_)
                      refine lv_iload_n hx hb dX7_readsOrder_277 rfl (lv_at hl 0 rfl) ?_
                      exact RET _ _ _ _ _ _ _ HX2434 dX7_readsOrder_278 (by decide) (⟨rfl, ⟨⟨(Or.inl rfl), m_x2429, o_x2429 + 0, ⟨by omega, by omega, by omega, fun z => absurd (by decide) z⟩, (show v2432 397 12 = nI (m_x2429) from (by rw [e2433, fa_u_n _ _ (by omega)]; exact gm_x2429)), (show v2432 397 11 = nI (o_x2429 + 0) from (by rw [e2433, fa_u_s])), (show fa_f3 v v2432 from (by rw [e2433]; exact fa_f3.w (fa_f3.tr (fa_f3.tr (fa_f3.tr (fa_f3.tr (fa_f3.tr (fa_f3.tr (fa_f3.tr (fa_f3.tr (by rw [e2351]; exact fa_f3.u (by rw [e2202]; exact fa_f3.u fa_f3.rf)) hf_x2354) hf_x2358) hf_x2362) hf_x2390) hf_x2394) hf_x2415) hf_x2422) hf_x2429) (by decide)))⟩, (by rw [e2433]; exact fa_fr.u (fa_fr.tr (fa_fr.tr (fa_fr.tr (fa_fr.tr (fa_fr.tr (fa_fr.tr (fa_fr.tr (fa_fr.tr (by rw [e2351]; exact fa_fr.u (by rw [e2202]; exact fa_fr.u fa_fr.rf (by omega)) (by omega)) (fa_fr.wide h2353.2 (by omega) (by omega))) (fa_fr.wide h2357.2 (by omega) (by omega))) (fa_fr.wide h2361.2 (by omega) (by omega))) (fa_fr.wide h2389.2 (by omega) (by omega))) (fa_fr.wide h2393.2 (by omega) (by omega))) (fa_fr.wide h2414.2 (by omega) (by omega))) (fa_fr.wide h2421.2 (by omega) (by omega))) (fa_fr.wide h2428.2 (by omega) (by omega))) (by omega))⟩⟩)
                    · exact absurd (by try decide) c_265
                  · have hl_x2429 := hs_x2429 c_220
                    refine lv_iconst (v := nI (1)) hx hb dX7_readsOrder_223 (by decide) ?_
                    refine lv_goto (tgt := 228) hx hb dX7_readsOrder_224 (by decide) ?_
                    refine lv_istore_n (lv' := [(1, .int (nI (1))), (0, .ref (fa_B G + (397)))]) hx hb dX7_readsOrder_228 rfl hl (by decide) rfl (fun ls hl => ?_)
                    refine lv_goto (tgt := 259) hx hb dX7_readsOrder_229 (by decide) ?_
                    refine lv_aload_n hx hb dX7_readsOrder_259 rfl (lv_at hl 1 rfl) ?_
                    refine lv_dup hx hb dX7_readsOrder_260 rfl ?_
                    refine fa_geti (k := 397) CX HX2431 fl_X7_141 (by omega) rfl rfl dX7_readsOrder_261 ?_
                    rw [show v2430 397 11 = nI (o_x2429) from go_x2429]
                    refine lv_iload_n hx hb dX7_readsOrder_264 rfl (lv_at hl 0 rfl) ?_
                    refine lv_if_eq (tgt := 272) hx hb dX7_readsOrder_265 (by decide) (fun c_265 => ?_) (fun c_265 => ?_)
                    · exact absurd c_265 (by try decide)
                    · refine lv_iconst (v := nI (1)) hx hb dX7_readsOrder_268 (by decide) ?_
                      refine lv_goto (tgt := 273) hx hb dX7_readsOrder_269 (by decide) ?_
                      refine fa_iaddN hx hb dX7_readsOrder_273 ?_
                      refine fa_puti (k := 397) CX HX2431 fl_X7_141 (by omega) rfl rfl rfl rfl dX7_readsOrder_274 (fun H locs v2435 e2436 HX2437 => ?_)
                      refine lv_iload_n hx hb dX7_readsOrder_277 rfl (lv_at hl 0 rfl) ?_
                      exact RET _ _ _ _ _ _ _ HX2437 dX7_readsOrder_278 (by decide) (⟨rfl, ⟨⟨(Or.inr rfl), m_x2429, o_x2429 + 1, ⟨by omega, by omega, by omega, fun _ => by omega⟩, (show v2435 397 12 = nI (m_x2429) from (by rw [e2436, fa_u_n _ _ (by omega)]; exact gm_x2429)), (show v2435 397 11 = nI (o_x2429 + 1) from (by rw [e2436, fa_u_s])), (show fa_f3 v v2435 from (by rw [e2436]; exact fa_f3.w (fa_f3.tr (fa_f3.tr (fa_f3.tr (fa_f3.tr (fa_f3.tr (fa_f3.tr (fa_f3.tr (fa_f3.tr (by rw [e2351]; exact fa_f3.u (by rw [e2202]; exact fa_f3.u fa_f3.rf)) hf_x2354) hf_x2358) hf_x2362) hf_x2390) hf_x2394) hf_x2415) hf_x2422) hf_x2429) (by decide)))⟩, (by rw [e2436]; exact fa_fr.u (fa_fr.tr (fa_fr.tr (fa_fr.tr (fa_fr.tr (fa_fr.tr (fa_fr.tr (fa_fr.tr (fa_fr.tr (by rw [e2351]; exact fa_fr.u (by rw [e2202]; exact fa_fr.u fa_fr.rf (by omega)) (by omega)) (fa_fr.wide h2353.2 (by omega) (by omega))) (fa_fr.wide h2357.2 (by omega) (by omega))) (fa_fr.wide h2361.2 (by omega) (by omega))) (fa_fr.wide h2389.2 (by omega) (by omega))) (fa_fr.wide h2393.2 (by omega) (by omega))) (fa_fr.wide h2414.2 (by omega) (by omega))) (fa_fr.wide h2421.2 (by omega) (by omega))) (fa_fr.wide h2428.2 (by omega) (by omega))) (by omega))⟩⟩)
          · have hl_x2390 := hs_x2390 c_137
            refine lv_aload_n hx hb dX7_readsOrder_140 rfl (lv_at hl 0 rfl) ?_
            refine lv_iconst (v := nI (2)) hx hb dX7_readsOrder_141 (by decide) ?_
            refine lv_iconst (v := nI (0)) hx hb dX7_readsOrder_142 (by decide) ?_
            refine lv_bipush (v := nI (7)) hx hb dX7_readsOrder_143 (by decide) ?_
            refine fa_callViu (As := [.int (nI (2)), .int (nI (0)), .int (nI (7))]) (rest := []) CX HX2392 (r_number l G n hn v2391 r hM (n9) (m_x2390) (o_x2390) (by omega) (by omega) (by omega) ((hf_x2390.2 9 (by decide) (by decide)).trans ((hf_x2362.2 9 (by decide) (by decide)).trans ((hf_x2358.2 9 (by decide) (by decide)).trans ((hf_x2354.2 9 (by decide) (by decide)).trans (by rw [e2351, fa_u_n _ _ (by omega)]; exact (by rw [e2202, fa_u_n _ _ (by omega)]; exact g9)))))) gm_x2390 go_x2390 (2) (nI (0)) (nI (7)) (by omega)) ln_X7_148 (by omega) rfl rfl rfl rfl (Nat.le_of_ble_eq_true rfl) hl.1 ⟨Nat.le_of_ble_eq_true rfl, Nat.le_of_ble_eq_true rfl⟩ ⟨Nat.le_refl _, Nat.le_refl _⟩ dX7_readsOrder_145 (fun x2439 v2440 H locs h2438 HX2441 => ?_)
            obtain ⟨hb_x2439, m_x2439, o_x2439, ⟨ha_x2439, hc_x2439, hd_x2439, hs_x2439, hx_x2439⟩, gm_x2439, go_x2439, hf_x2439⟩ := h2438.1
            refine lv_if_eq (tgt := 176) hx hb dX7_readsOrder_148 (by decide) (fun c_148 => ?_) (fun c_148 => ?_)
            · refine lv_iconst (v := nI (0)) hx hb dX7_readsOrder_176 (by decide) ?_
              refine lv_istore_n (lv' := [(1, .int (nI (0))), (0, .ref (fa_B G + (397)))]) hx hb dX7_readsOrder_177 rfl hl (by decide) rfl (fun ls hl => ?_)
              refine lv_goto (tgt := 259) hx hb dX7_readsOrder_178 (by decide) ?_
              refine lv_aload_n hx hb dX7_readsOrder_259 rfl (lv_at hl 1 rfl) ?_
              refine lv_dup hx hb dX7_readsOrder_260 rfl ?_
              refine fa_geti (k := 397) CX HX2441 fl_X7_141 (by omega) rfl rfl dX7_readsOrder_261 ?_
              rw [show v2440 397 11 = nI (o_x2439) from go_x2439]
              refine lv_iload_n hx hb dX7_readsOrder_264 rfl (lv_at hl 0 rfl) ?_
              refine lv_if_eq (tgt := 272) hx hb dX7_readsOrder_265 (by decide) (fun c_265 => ?_) (fun c_265 => ?_)
              · refine lv_iconst (v := nI (0)) hx hb dX7_readsOrder_272 (by decide) ?_
                refine fa_iaddN hx hb dX7_readsOrder_273 ?_
                refine fa_puti (k := 397) CX HX2441 fl_X7_141 (by omega) rfl rfl rfl rfl dX7_readsOrder_274 (fun H locs v2442 e2443 HX2444 => ?_)
                refine lv_iload_n hx hb dX7_readsOrder_277 rfl (lv_at hl 0 rfl) ?_
                exact RET _ _ _ _ _ _ _ HX2444 dX7_readsOrder_278 (by decide) (⟨rfl, ⟨⟨(Or.inl rfl), m_x2439, o_x2439 + 0, ⟨by omega, by omega, by omega, fun z => absurd (by decide) z⟩, (show v2442 397 12 = nI (m_x2439) from (by rw [e2443, fa_u_n _ _ (by omega)]; exact gm_x2439)), (show v2442 397 11 = nI (o_x2439 + 0) from (by rw [e2443, fa_u_s])), (show fa_f3 v v2442 from (by rw [e2443]; exact fa_f3.w (fa_f3.tr (fa_f3.tr (fa_f3.tr (fa_f3.tr (fa_f3.tr (by rw [e2351]; exact fa_f3.u (by rw [e2202]; exact fa_f3.u fa_f3.rf)) hf_x2354) hf_x2358) hf_x2362) hf_x2390) hf_x2439) (by decide)))⟩, (by rw [e2443]; exact fa_fr.u (fa_fr.tr (fa_fr.tr (fa_fr.tr (fa_fr.tr (fa_fr.tr (by rw [e2351]; exact fa_fr.u (by rw [e2202]; exact fa_fr.u fa_fr.rf (by omega)) (by omega)) (fa_fr.wide h2353.2 (by omega) (by omega))) (fa_fr.wide h2357.2 (by omega) (by omega))) (fa_fr.wide h2361.2 (by omega) (by omega))) (fa_fr.wide h2389.2 (by omega) (by omega))) (fa_fr.wide h2438.2 (by omega) (by omega))) (by omega))⟩⟩)
              · exact absurd (by try decide) c_265
            · have hl_x2439 := hs_x2439 c_148
              refine lv_aload_n hx hb dX7_readsOrder_151 rfl (lv_at hl 0 rfl) ?_
              refine lv_bipush (v := nI (44)) hx hb dX7_readsOrder_152 (by decide) ?_
              refine fa_callViu (As := [.int (nI (44))]) (rest := []) CX HX2441 (r_accepts l G n hn v2440 r hM (n9) (m_x2439) (o_x2439) (by omega) (by omega) (by omega) ((hf_x2439.2 9 (by decide) (by decide)).trans ((hf_x2390.2 9 (by decide) (by decide)).trans ((hf_x2362.2 9 (by decide) (by decide)).trans ((hf_x2358.2 9 (by decide) (by decide)).trans ((hf_x2354.2 9 (by decide) (by decide)).trans (by rw [e2351, fa_u_n _ _ (by omega)]; exact (by rw [e2202, fa_u_n _ _ (by omega)]; exact g9))))))) gm_x2439 go_x2439 (nI (44))) ln_X7_144 (by omega) rfl rfl rfl rfl (Nat.le_of_ble_eq_true rfl) hl.1 ⟨Nat.le_of_ble_eq_true rfl, Nat.le_of_ble_eq_true rfl⟩ ⟨Nat.le_refl _, Nat.le_refl _⟩ dX7_readsOrder_154 (fun x2446 v2447 H locs h2445 HX2448 => ?_)
              obtain ⟨hb_x2446, m_x2446, o_x2446, ⟨ha_x2446, hc_x2446, hd_x2446, hs_x2446, hx_x2446⟩, gm_x2446, go_x2446, hf_x2446⟩ := h2445.1
              refine lv_if_eq (tgt := 176) hx hb dX7_readsOrder_157 (by decide) (fun c_157 => ?_) (fun c_157 => ?_)
              · refine lv_iconst (v := nI (0)) hx hb dX7_readsOrder_176 (by decide) ?_
                refine lv_istore_n (lv' := [(1, .int (nI (0))), (0, .ref (fa_B G + (397)))]) hx hb dX7_readsOrder_177 rfl hl (by decide) rfl (fun ls hl => ?_)
                refine lv_goto (tgt := 259) hx hb dX7_readsOrder_178 (by decide) ?_
                refine lv_aload_n hx hb dX7_readsOrder_259 rfl (lv_at hl 1 rfl) ?_
                refine lv_dup hx hb dX7_readsOrder_260 rfl ?_
                refine fa_geti (k := 397) CX HX2448 fl_X7_141 (by omega) rfl rfl dX7_readsOrder_261 ?_
                rw [show v2447 397 11 = nI (o_x2446) from go_x2446]
                refine lv_iload_n hx hb dX7_readsOrder_264 rfl (lv_at hl 0 rfl) ?_
                refine lv_if_eq (tgt := 272) hx hb dX7_readsOrder_265 (by decide) (fun c_265 => ?_) (fun c_265 => ?_)
                · refine lv_iconst (v := nI (0)) hx hb dX7_readsOrder_272 (by decide) ?_
                  refine fa_iaddN hx hb dX7_readsOrder_273 ?_
                  refine fa_puti (k := 397) CX HX2448 fl_X7_141 (by omega) rfl rfl rfl rfl dX7_readsOrder_274 (fun H locs v2449 e2450 HX2451 => ?_)
                  refine lv_iload_n hx hb dX7_readsOrder_277 rfl (lv_at hl 0 rfl) ?_
                  exact RET _ _ _ _ _ _ _ HX2451 dX7_readsOrder_278 (by decide) (⟨rfl, ⟨⟨(Or.inl rfl), m_x2446, o_x2446 + 0, ⟨by omega, by omega, by omega, fun z => absurd (by decide) z⟩, (show v2449 397 12 = nI (m_x2446) from (by rw [e2450, fa_u_n _ _ (by omega)]; exact gm_x2446)), (show v2449 397 11 = nI (o_x2446 + 0) from (by rw [e2450, fa_u_s])), (show fa_f3 v v2449 from (by rw [e2450]; exact fa_f3.w (fa_f3.tr (fa_f3.tr (fa_f3.tr (fa_f3.tr (fa_f3.tr (fa_f3.tr (by rw [e2351]; exact fa_f3.u (by rw [e2202]; exact fa_f3.u fa_f3.rf)) hf_x2354) hf_x2358) hf_x2362) hf_x2390) hf_x2439) hf_x2446) (by decide)))⟩, (by rw [e2450]; exact fa_fr.u (fa_fr.tr (fa_fr.tr (fa_fr.tr (fa_fr.tr (fa_fr.tr (fa_fr.tr (by rw [e2351]; exact fa_fr.u (by rw [e2202]; exact fa_fr.u fa_fr.rf (by omega)) (by omega)) (fa_fr.wide h2353.2 (by omega) (by omega))) (fa_fr.wide h2357.2 (by omega) (by omega))) (fa_fr.wide h2361.2 (by omega) (by omega))) (fa_fr.wide h2389.2 (by omega) (by omega))) (fa_fr.wide h2438.2 (by omega) (by omega))) (fa_fr.wide h2445.2 (by omega) (by omega))) (by omega))⟩⟩)
                · exact absurd (by try decide) c_265
              · have hl_x2446 := hs_x2446 c_157
                refine lv_aload_n hx hb dX7_readsOrder_160 rfl (lv_at hl 0 rfl) ?_
                refine lv_iconst (v := nI (3)) hx hb dX7_readsOrder_161 (by decide) ?_
                refine lv_iconst (v := nI (0)) hx hb dX7_readsOrder_162 (by decide) ?_
                refine lv_sipush (v := nI (199)) hx hb dX7_readsOrder_163 (by decide) ?_
                refine fa_callViu (As := [.int (nI (3)), .int (nI (0)), .int (nI (199))]) (rest := []) CX HX2448 (r_number l G n hn v2447 r hM (n9) (m_x2446) (o_x2446) (by omega) (by omega) (by omega) ((hf_x2446.2 9 (by decide) (by decide)).trans ((hf_x2439.2 9 (by decide) (by decide)).trans ((hf_x2390.2 9 (by decide) (by decide)).trans ((hf_x2362.2 9 (by decide) (by decide)).trans ((hf_x2358.2 9 (by decide) (by decide)).trans ((hf_x2354.2 9 (by decide) (by decide)).trans (by rw [e2351, fa_u_n _ _ (by omega)]; exact (by rw [e2202, fa_u_n _ _ (by omega)]; exact g9)))))))) gm_x2446 go_x2446 (3) (nI (0)) (nI (199)) (by omega)) ln_X7_148 (by omega) rfl rfl rfl rfl (Nat.le_of_ble_eq_true rfl) hl.1 ⟨Nat.le_of_ble_eq_true rfl, Nat.le_of_ble_eq_true rfl⟩ ⟨Nat.le_refl _, Nat.le_refl _⟩ dX7_readsOrder_166 (fun x2453 v2454 H locs h2452 HX2455 => ?_)
                obtain ⟨hb_x2453, m_x2453, o_x2453, ⟨ha_x2453, hc_x2453, hd_x2453, hs_x2453, hx_x2453⟩, gm_x2453, go_x2453, hf_x2453⟩ := h2452.1
                refine lv_if_eq (tgt := 176) hx hb dX7_readsOrder_169 (by decide) (fun c_169 => ?_) (fun c_169 => ?_)
                · refine lv_iconst (v := nI (0)) hx hb dX7_readsOrder_176 (by decide) ?_
                  refine lv_istore_n (lv' := [(1, .int (nI (0))), (0, .ref (fa_B G + (397)))]) hx hb dX7_readsOrder_177 rfl hl (by decide) rfl (fun ls hl => ?_)
                  refine lv_goto (tgt := 259) hx hb dX7_readsOrder_178 (by decide) ?_
                  refine lv_aload_n hx hb dX7_readsOrder_259 rfl (lv_at hl 1 rfl) ?_
                  refine lv_dup hx hb dX7_readsOrder_260 rfl ?_
                  refine fa_geti (k := 397) CX HX2455 fl_X7_141 (by omega) rfl rfl dX7_readsOrder_261 ?_
                  rw [show v2454 397 11 = nI (o_x2453) from go_x2453]
                  refine lv_iload_n hx hb dX7_readsOrder_264 rfl (lv_at hl 0 rfl) ?_
                  refine lv_if_eq (tgt := 272) hx hb dX7_readsOrder_265 (by decide) (fun c_265 => ?_) (fun c_265 => ?_)
                  · refine lv_iconst (v := nI (0)) hx hb dX7_readsOrder_272 (by decide) ?_
                    refine fa_iaddN hx hb dX7_readsOrder_273 ?_
                    refine fa_puti (k := 397) CX HX2455 fl_X7_141 (by omega) rfl rfl rfl rfl dX7_readsOrder_274 (fun H locs v2456 e2457 HX2458 => ?_)
                    refine lv_iload_n hx hb dX7_readsOrder_277 rfl (lv_at hl 0 rfl) ?_
                    exact RET _ _ _ _ _ _ _ HX2458 dX7_readsOrder_278 (by decide) (⟨rfl, ⟨⟨(Or.inl rfl), m_x2453, o_x2453 + 0, ⟨by omega, by omega, by omega, fun z => absurd (by decide) z⟩, (show v2456 397 12 = nI (m_x2453) from (by rw [e2457, fa_u_n _ _ (by omega)]; exact gm_x2453)), (show v2456 397 11 = nI (o_x2453 + 0) from (by rw [e2457, fa_u_s])), (show fa_f3 v v2456 from (by rw [e2457]; exact fa_f3.w (fa_f3.tr (fa_f3.tr (fa_f3.tr (fa_f3.tr (fa_f3.tr (fa_f3.tr (fa_f3.tr (by rw [e2351]; exact fa_f3.u (by rw [e2202]; exact fa_f3.u fa_f3.rf)) hf_x2354) hf_x2358) hf_x2362) hf_x2390) hf_x2439) hf_x2446) hf_x2453) (by decide)))⟩, (by rw [e2457]; exact fa_fr.u (fa_fr.tr (fa_fr.tr (fa_fr.tr (fa_fr.tr (fa_fr.tr (fa_fr.tr (fa_fr.tr (by rw [e2351]; exact fa_fr.u (by rw [e2202]; exact fa_fr.u fa_fr.rf (by omega)) (by omega)) (fa_fr.wide h2353.2 (by omega) (by omega))) (fa_fr.wide h2357.2 (by omega) (by omega))) (fa_fr.wide h2361.2 (by omega) (by omega))) (fa_fr.wide h2389.2 (by omega) (by omega))) (fa_fr.wide h2438.2 (by omega) (by omega))) (fa_fr.wide h2445.2 (by omega) (by omega))) (fa_fr.wide h2452.2 (by omega) (by omega))) (by omega))⟩⟩)
                  · exact absurd (by try decide) c_265
                · have hl_x2453 := hs_x2453 c_169
                  refine lv_iconst (v := nI (1)) hx hb dX7_readsOrder_172 (by decide) ?_
                  refine lv_goto (tgt := 177) hx hb dX7_readsOrder_173 (by decide) ?_
                  refine lv_istore_n (lv' := [(1, .int (nI (1))), (0, .ref (fa_B G + (397)))]) hx hb dX7_readsOrder_177 rfl hl (by decide) rfl (fun ls hl => ?_)
                  refine lv_goto (tgt := 259) hx hb dX7_readsOrder_178 (by decide) ?_
                  refine lv_aload_n hx hb dX7_readsOrder_259 rfl (lv_at hl 1 rfl) ?_
                  refine lv_dup hx hb dX7_readsOrder_260 rfl ?_
                  refine fa_geti (k := 397) CX HX2455 fl_X7_141 (by omega) rfl rfl dX7_readsOrder_261 ?_
                  rw [show v2454 397 11 = nI (o_x2453) from go_x2453]
                  refine lv_iload_n hx hb dX7_readsOrder_264 rfl (lv_at hl 0 rfl) ?_
                  refine lv_if_eq (tgt := 272) hx hb dX7_readsOrder_265 (by decide) (fun c_265 => ?_) (fun c_265 => ?_)
                  · exact absurd c_265 (by try decide)
                  · refine lv_iconst (v := nI (1)) hx hb dX7_readsOrder_268 (by decide) ?_
                    refine lv_goto (tgt := 273) hx hb dX7_readsOrder_269 (by decide) ?_
                    refine fa_iaddN hx hb dX7_readsOrder_273 ?_
                    refine fa_puti (k := 397) CX HX2455 fl_X7_141 (by omega) rfl rfl rfl rfl dX7_readsOrder_274 (fun H locs v2459 e2460 HX2461 => ?_)
                    refine lv_iload_n hx hb dX7_readsOrder_277 rfl (lv_at hl 0 rfl) ?_
                    exact RET _ _ _ _ _ _ _ HX2461 dX7_readsOrder_278 (by decide) (⟨rfl, ⟨⟨(Or.inr rfl), m_x2453, o_x2453 + 1, ⟨by omega, by omega, by omega, fun _ => by omega⟩, (show v2459 397 12 = nI (m_x2453) from (by rw [e2460, fa_u_n _ _ (by omega)]; exact gm_x2453)), (show v2459 397 11 = nI (o_x2453 + 1) from (by rw [e2460, fa_u_s])), (show fa_f3 v v2459 from (by rw [e2460]; exact fa_f3.w (fa_f3.tr (fa_f3.tr (fa_f3.tr (fa_f3.tr (fa_f3.tr (fa_f3.tr (fa_f3.tr (by rw [e2351]; exact fa_f3.u (by rw [e2202]; exact fa_f3.u fa_f3.rf)) hf_x2354) hf_x2358) hf_x2362) hf_x2390) hf_x2439) hf_x2446) hf_x2453) (by decide)))⟩, (by rw [e2460]; exact fa_fr.u (fa_fr.tr (fa_fr.tr (fa_fr.tr (fa_fr.tr (fa_fr.tr (fa_fr.tr (fa_fr.tr (by rw [e2351]; exact fa_fr.u (by rw [e2202]; exact fa_fr.u fa_fr.rf (by omega)) (by omega)) (fa_fr.wide h2353.2 (by omega) (by omega))) (fa_fr.wide h2357.2 (by omega) (by omega))) (fa_fr.wide h2361.2 (by omega) (by omega))) (fa_fr.wide h2389.2 (by omega) (by omega))) (fa_fr.wide h2438.2 (by omega) (by omega))) (fa_fr.wide h2445.2 (by omega) (by omega))) (fa_fr.wide h2452.2 (by omega) (by omega))) (by omega))⟩⟩)
      · have hl_x2358 := hs_x2358 c_106
        refine lv_aload_n hx hb dX7_readsOrder_109 rfl (lv_at hl 0 rfl) ?_
        refine lv_iconst (v := nI (2)) hx hb dX7_readsOrder_110 (by decide) ?_
        refine lv_iconst (v := nI (0)) hx hb dX7_readsOrder_111 (by decide) ?_
        refine lv_sipush (v := nI (199)) hx hb dX7_readsOrder_112 (by decide) ?_
        refine fa_callViu (As := [.int (nI (2)), .int (nI (0)), .int (nI (199))]) (rest := []) CX HX2360 (r_number l G n hn v2359 r hM (n9) (m_x2358) (o_x2358) (by omega) (by omega) (by omega) ((hf_x2358.2 9 (by decide) (by decide)).trans ((hf_x2354.2 9 (by decide) (by decide)).trans (by rw [e2351, fa_u_n _ _ (by omega)]; exact (by rw [e2202, fa_u_n _ _ (by omega)]; exact g9)))) gm_x2358 go_x2358 (2) (nI (0)) (nI (199)) (by omega)) ln_X7_148 (by omega) rfl rfl rfl rfl (Nat.le_of_ble_eq_true rfl) hl.1 ⟨Nat.le_of_ble_eq_true rfl, Nat.le_of_ble_eq_true rfl⟩ ⟨Nat.le_refl _, Nat.le_refl _⟩ dX7_readsOrder_115 (fun x2463 v2464 H locs h2462 HX2465 => ?_)
        obtain ⟨hb_x2463, m_x2463, o_x2463, ⟨ha_x2463, hc_x2463, hd_x2463, hs_x2463, hx_x2463⟩, gm_x2463, go_x2463, hf_x2463⟩ := h2462.1
        refine lv_istore_n (lv' := [(1, .int (x2463)), (0, .ref (fa_B G + (397)))]) hx hb dX7_readsOrder_118 rfl hl (by decide) rfl (fun ls hl => ?_)
        refine lv_goto (tgt := 259) hx hb dX7_readsOrder_119 (by decide) ?_
        refine lv_aload_n hx hb dX7_readsOrder_259 rfl (lv_at hl 1 rfl) ?_
        refine lv_dup hx hb dX7_readsOrder_260 rfl ?_
        refine fa_geti (k := 397) CX HX2465 fl_X7_141 (by omega) rfl rfl dX7_readsOrder_261 ?_
        rw [show v2464 397 11 = nI (o_x2463) from go_x2463]
        refine lv_iload_n hx hb dX7_readsOrder_264 rfl (lv_at hl 0 rfl) ?_
        refine lv_if_eq (tgt := 272) hx hb dX7_readsOrder_265 (by decide) (fun c_265 => ?_) (fun c_265 => ?_)
        · refine lv_iconst (v := nI (0)) hx hb dX7_readsOrder_272 (by decide) ?_
          refine fa_iaddN hx hb dX7_readsOrder_273 ?_
          refine fa_puti (k := 397) CX HX2465 fl_X7_141 (by omega) rfl rfl rfl rfl dX7_readsOrder_274 (fun H locs v2466 e2467 HX2468 => ?_)
          refine lv_iload_n hx hb dX7_readsOrder_277 rfl (lv_at hl 0 rfl) ?_
          exact RET _ _ _ _ _ _ _ HX2468 dX7_readsOrder_278 hb_x2463.nar (⟨rfl, ⟨⟨hb_x2463, m_x2463, o_x2463 + 0, ⟨by omega, by omega, by omega, fun z => (by first | (have := hs_x2463 z; omega) | exact absurd (by assumption) z)⟩, (show v2466 397 12 = nI (m_x2463) from (by rw [e2467, fa_u_n _ _ (by omega)]; exact gm_x2463)), (show v2466 397 11 = nI (o_x2463 + 0) from (by rw [e2467, fa_u_s])), (show fa_f3 v v2466 from (by rw [e2467]; exact fa_f3.w (fa_f3.tr (fa_f3.tr (fa_f3.tr (by rw [e2351]; exact fa_f3.u (by rw [e2202]; exact fa_f3.u fa_f3.rf)) hf_x2354) hf_x2358) hf_x2463) (by decide)))⟩, (by rw [e2467]; exact fa_fr.u (fa_fr.tr (fa_fr.tr (fa_fr.tr (by rw [e2351]; exact fa_fr.u (by rw [e2202]; exact fa_fr.u fa_fr.rf (by omega)) (by omega)) (fa_fr.wide h2353.2 (by omega) (by omega))) (fa_fr.wide h2357.2 (by omega) (by omega))) (fa_fr.wide h2462.2 (by omega) (by omega))) (by omega))⟩⟩)
        · have hl_x2463 := hs_x2463 c_265
          refine lv_iconst (v := nI (1)) hx hb dX7_readsOrder_268 (by decide) ?_
          refine lv_goto (tgt := 273) hx hb dX7_readsOrder_269 (by decide) ?_
          refine fa_iaddN hx hb dX7_readsOrder_273 ?_
          refine fa_puti (k := 397) CX HX2465 fl_X7_141 (by omega) rfl rfl rfl rfl dX7_readsOrder_274 (fun H locs v2469 e2470 HX2471 => ?_)
          refine lv_iload_n hx hb dX7_readsOrder_277 rfl (lv_at hl 0 rfl) ?_
          exact RET _ _ _ _ _ _ _ HX2471 dX7_readsOrder_278 hb_x2463.nar (⟨rfl, ⟨⟨hb_x2463, m_x2463, o_x2463 + 1, ⟨by omega, by omega, by omega, fun z => (by first | (have := hs_x2463 z; omega) | exact absurd (by assumption) z)⟩, (show v2469 397 12 = nI (m_x2463) from (by rw [e2470, fa_u_n _ _ (by omega)]; exact gm_x2463)), (show v2469 397 11 = nI (o_x2463 + 1) from (by rw [e2470, fa_u_s])), (show fa_f3 v v2469 from (by rw [e2470]; exact fa_f3.w (fa_f3.tr (fa_f3.tr (fa_f3.tr (by rw [e2351]; exact fa_f3.u (by rw [e2202]; exact fa_f3.u fa_f3.rf)) hf_x2354) hf_x2358) hf_x2463) (by decide)))⟩, (by rw [e2470]; exact fa_fr.u (fa_fr.tr (fa_fr.tr (fa_fr.tr (by rw [e2351]; exact fa_fr.u (by rw [e2202]; exact fa_fr.u fa_fr.rf (by omega)) (by omega)) (fa_fr.wide h2353.2 (by omega) (by omega))) (fa_fr.wide h2357.2 (by omega) (by omega))) (fa_fr.wide h2462.2 (by omega) (by omega))) (by omega))⟩⟩)
    · have hl_x2354 := hs_x2354 c_58
      refine lv_aload_n hx hb dX7_readsOrder_61 rfl (lv_at hl 0 rfl) ?_
      refine lv_iconst (v := nI (2)) hx hb dX7_readsOrder_62 (by decide) ?_
      refine lv_iconst (v := nI (0)) hx hb dX7_readsOrder_63 (by decide) ?_
      refine lv_iconst (v := nI (4)) hx hb dX7_readsOrder_64 (by decide) ?_
      refine fa_callViu (As := [.int (nI (2)), .int (nI (0)), .int (nI (4))]) (rest := []) CX HX2356 (r_number l G n hn v2355 r hM (n9) (m_x2354) (o_x2354) (by omega) (by omega) (by omega) ((hf_x2354.2 9 (by decide) (by decide)).trans (by rw [e2351, fa_u_n _ _ (by omega)]; exact (by rw [e2202, fa_u_n _ _ (by omega)]; exact g9))) gm_x2354 go_x2354 (2) (nI (0)) (nI (4)) (by omega)) ln_X7_148 (by omega) rfl rfl rfl rfl (Nat.le_of_ble_eq_true rfl) hl.1 ⟨Nat.le_of_ble_eq_true rfl, Nat.le_of_ble_eq_true rfl⟩ ⟨Nat.le_refl _, Nat.le_refl _⟩ dX7_readsOrder_65 (fun x2473 v2474 H locs h2472 HX2475 => ?_)
      obtain ⟨hb_x2473, m_x2473, o_x2473, ⟨ha_x2473, hc_x2473, hd_x2473, hs_x2473, hx_x2473⟩, gm_x2473, go_x2473, hf_x2473⟩ := h2472.1
      refine lv_if_eq (tgt := 95) hx hb dX7_readsOrder_68 (by decide) (fun c_68 => ?_) (fun c_68 => ?_)
      · refine lv_iconst (v := nI (0)) hx hb dX7_readsOrder_95 (by decide) ?_
        refine lv_istore_n (lv' := [(1, .int (nI (0))), (0, .ref (fa_B G + (397)))]) hx hb dX7_readsOrder_96 rfl hl (by decide) rfl (fun ls hl => ?_)
        refine lv_goto (tgt := 259) hx hb dX7_readsOrder_97 (by decide) ?_
        refine lv_aload_n hx hb dX7_readsOrder_259 rfl (lv_at hl 1 rfl) ?_
        refine lv_dup hx hb dX7_readsOrder_260 rfl ?_
        refine fa_geti (k := 397) CX HX2475 fl_X7_141 (by omega) rfl rfl dX7_readsOrder_261 ?_
        rw [show v2474 397 11 = nI (o_x2473) from go_x2473]
        refine lv_iload_n hx hb dX7_readsOrder_264 rfl (lv_at hl 0 rfl) ?_
        refine lv_if_eq (tgt := 272) hx hb dX7_readsOrder_265 (by decide) (fun c_265 => ?_) (fun c_265 => ?_)
        · refine lv_iconst (v := nI (0)) hx hb dX7_readsOrder_272 (by decide) ?_
          refine fa_iaddN hx hb dX7_readsOrder_273 ?_
          refine fa_puti (k := 397) CX HX2475 fl_X7_141 (by omega) rfl rfl rfl rfl dX7_readsOrder_274 (fun H locs v2476 e2477 HX2478 => ?_)
          refine lv_iload_n hx hb dX7_readsOrder_277 rfl (lv_at hl 0 rfl) ?_
          exact RET _ _ _ _ _ _ _ HX2478 dX7_readsOrder_278 (by decide) (⟨rfl, ⟨⟨(Or.inl rfl), m_x2473, o_x2473 + 0, ⟨by omega, by omega, by omega, fun z => absurd (by decide) z⟩, (show v2476 397 12 = nI (m_x2473) from (by rw [e2477, fa_u_n _ _ (by omega)]; exact gm_x2473)), (show v2476 397 11 = nI (o_x2473 + 0) from (by rw [e2477, fa_u_s])), (show fa_f3 v v2476 from (by rw [e2477]; exact fa_f3.w (fa_f3.tr (fa_f3.tr (by rw [e2351]; exact fa_f3.u (by rw [e2202]; exact fa_f3.u fa_f3.rf)) hf_x2354) hf_x2473) (by decide)))⟩, (by rw [e2477]; exact fa_fr.u (fa_fr.tr (fa_fr.tr (by rw [e2351]; exact fa_fr.u (by rw [e2202]; exact fa_fr.u fa_fr.rf (by omega)) (by omega)) (fa_fr.wide h2353.2 (by omega) (by omega))) (fa_fr.wide h2472.2 (by omega) (by omega))) (by omega))⟩⟩)
        · exact absurd (by try decide) c_265
      · have hl_x2473 := hs_x2473 c_68
        refine lv_aload_n hx hb dX7_readsOrder_71 rfl (lv_at hl 0 rfl) ?_
        refine lv_bipush (v := nI (44)) hx hb dX7_readsOrder_72 (by decide) ?_
        refine fa_callViu (As := [.int (nI (44))]) (rest := []) CX HX2475 (r_accepts l G n hn v2474 r hM (n9) (m_x2473) (o_x2473) (by omega) (by omega) (by omega) ((hf_x2473.2 9 (by decide) (by decide)).trans ((hf_x2354.2 9 (by decide) (by decide)).trans (by rw [e2351, fa_u_n _ _ (by omega)]; exact (by rw [e2202, fa_u_n _ _ (by omega)]; exact g9)))) gm_x2473 go_x2473 (nI (44))) ln_X7_144 (by omega) rfl rfl rfl rfl (Nat.le_of_ble_eq_true rfl) hl.1 ⟨Nat.le_of_ble_eq_true rfl, Nat.le_of_ble_eq_true rfl⟩ ⟨Nat.le_refl _, Nat.le_refl _⟩ dX7_readsOrder_74 (fun x2480 v2481 H locs h2479 HX2482 => ?_)
        obtain ⟨hb_x2480, m_x2480, o_x2480, ⟨ha_x2480, hc_x2480, hd_x2480, hs_x2480, hx_x2480⟩, gm_x2480, go_x2480, hf_x2480⟩ := h2479.1
        refine lv_if_eq (tgt := 95) hx hb dX7_readsOrder_77 (by decide) (fun c_77 => ?_) (fun c_77 => ?_)
        · refine lv_iconst (v := nI (0)) hx hb dX7_readsOrder_95 (by decide) ?_
          refine lv_istore_n (lv' := [(1, .int (nI (0))), (0, .ref (fa_B G + (397)))]) hx hb dX7_readsOrder_96 rfl hl (by decide) rfl (fun ls hl => ?_)
          refine lv_goto (tgt := 259) hx hb dX7_readsOrder_97 (by decide) ?_
          refine lv_aload_n hx hb dX7_readsOrder_259 rfl (lv_at hl 1 rfl) ?_
          refine lv_dup hx hb dX7_readsOrder_260 rfl ?_
          refine fa_geti (k := 397) CX HX2482 fl_X7_141 (by omega) rfl rfl dX7_readsOrder_261 ?_
          rw [show v2481 397 11 = nI (o_x2480) from go_x2480]
          refine lv_iload_n hx hb dX7_readsOrder_264 rfl (lv_at hl 0 rfl) ?_
          refine lv_if_eq (tgt := 272) hx hb dX7_readsOrder_265 (by decide) (fun c_265 => ?_) (fun c_265 => ?_)
          · refine lv_iconst (v := nI (0)) hx hb dX7_readsOrder_272 (by decide) ?_
            refine fa_iaddN hx hb dX7_readsOrder_273 ?_
            refine fa_puti (k := 397) CX HX2482 fl_X7_141 (by omega) rfl rfl rfl rfl dX7_readsOrder_274 (fun H locs v2483 e2484 HX2485 => ?_)
            refine lv_iload_n hx hb dX7_readsOrder_277 rfl (lv_at hl 0 rfl) ?_
            exact RET _ _ _ _ _ _ _ HX2485 dX7_readsOrder_278 (by decide) (⟨rfl, ⟨⟨(Or.inl rfl), m_x2480, o_x2480 + 0, ⟨by omega, by omega, by omega, fun z => absurd (by decide) z⟩, (show v2483 397 12 = nI (m_x2480) from (by rw [e2484, fa_u_n _ _ (by omega)]; exact gm_x2480)), (show v2483 397 11 = nI (o_x2480 + 0) from (by rw [e2484, fa_u_s])), (show fa_f3 v v2483 from (by rw [e2484]; exact fa_f3.w (fa_f3.tr (fa_f3.tr (fa_f3.tr (by rw [e2351]; exact fa_f3.u (by rw [e2202]; exact fa_f3.u fa_f3.rf)) hf_x2354) hf_x2473) hf_x2480) (by decide)))⟩, (by rw [e2484]; exact fa_fr.u (fa_fr.tr (fa_fr.tr (fa_fr.tr (by rw [e2351]; exact fa_fr.u (by rw [e2202]; exact fa_fr.u fa_fr.rf (by omega)) (by omega)) (fa_fr.wide h2353.2 (by omega) (by omega))) (fa_fr.wide h2472.2 (by omega) (by omega))) (fa_fr.wide h2479.2 (by omega) (by omega))) (by omega))⟩⟩)
          · exact absurd (by try decide) c_265
        · have hl_x2480 := hs_x2480 c_77
          refine lv_aload_n hx hb dX7_readsOrder_80 rfl (lv_at hl 0 rfl) ?_
          refine lv_iconst (v := nI (3)) hx hb dX7_readsOrder_81 (by decide) ?_
          refine lv_iconst (v := nI (1)) hx hb dX7_readsOrder_82 (by decide) ?_
          refine lv_bipush (v := nI (50)) hx hb dX7_readsOrder_83 (by decide) ?_
          refine fa_callViu (As := [.int (nI (3)), .int (nI (1)), .int (nI (50))]) (rest := []) CX HX2482 (r_number l G n hn v2481 r hM (n9) (m_x2480) (o_x2480) (by omega) (by omega) (by omega) ((hf_x2480.2 9 (by decide) (by decide)).trans ((hf_x2473.2 9 (by decide) (by decide)).trans ((hf_x2354.2 9 (by decide) (by decide)).trans (by rw [e2351, fa_u_n _ _ (by omega)]; exact (by rw [e2202, fa_u_n _ _ (by omega)]; exact g9))))) gm_x2480 go_x2480 (3) (nI (1)) (nI (50)) (by omega)) ln_X7_148 (by omega) rfl rfl rfl rfl (Nat.le_of_ble_eq_true rfl) hl.1 ⟨Nat.le_of_ble_eq_true rfl, Nat.le_of_ble_eq_true rfl⟩ ⟨Nat.le_refl _, Nat.le_refl _⟩ dX7_readsOrder_85 (fun x2487 v2488 H locs h2486 HX2489 => ?_)
          obtain ⟨hb_x2487, m_x2487, o_x2487, ⟨ha_x2487, hc_x2487, hd_x2487, hs_x2487, hx_x2487⟩, gm_x2487, go_x2487, hf_x2487⟩ := h2486.1
          refine lv_if_eq (tgt := 95) hx hb dX7_readsOrder_88 (by decide) (fun c_88 => ?_) (fun c_88 => ?_)
          · refine lv_iconst (v := nI (0)) hx hb dX7_readsOrder_95 (by decide) ?_
            refine lv_istore_n (lv' := [(1, .int (nI (0))), (0, .ref (fa_B G + (397)))]) hx hb dX7_readsOrder_96 rfl hl (by decide) rfl (fun ls hl => ?_)
            refine lv_goto (tgt := 259) hx hb dX7_readsOrder_97 (by decide) ?_
            refine lv_aload_n hx hb dX7_readsOrder_259 rfl (lv_at hl 1 rfl) ?_
            refine lv_dup hx hb dX7_readsOrder_260 rfl ?_
            refine fa_geti (k := 397) CX HX2489 fl_X7_141 (by omega) rfl rfl dX7_readsOrder_261 ?_
            rw [show v2488 397 11 = nI (o_x2487) from go_x2487]
            refine lv_iload_n hx hb dX7_readsOrder_264 rfl (lv_at hl 0 rfl) ?_
            refine lv_if_eq (tgt := 272) hx hb dX7_readsOrder_265 (by decide) (fun c_265 => ?_) (fun c_265 => ?_)
            · refine lv_iconst (v := nI (0)) hx hb dX7_readsOrder_272 (by decide) ?_
              refine fa_iaddN hx hb dX7_readsOrder_273 ?_
              refine fa_puti (k := 397) CX HX2489 fl_X7_141 (by omega) rfl rfl rfl rfl dX7_readsOrder_274 (fun H locs v2490 e2491 HX2492 => ?_)
              refine lv_iload_n hx hb dX7_readsOrder_277 rfl (lv_at hl 0 rfl) ?_
              exact RET _ _ _ _ _ _ _ HX2492 dX7_readsOrder_278 (by decide) (⟨rfl, ⟨⟨(Or.inl rfl), m_x2487, o_x2487 + 0, ⟨by omega, by omega, by omega, fun z => absurd (by decide) z⟩, (show v2490 397 12 = nI (m_x2487) from (by rw [e2491, fa_u_n _ _ (by omega)]; exact gm_x2487)), (show v2490 397 11 = nI (o_x2487 + 0) from (by rw [e2491, fa_u_s])), (show fa_f3 v v2490 from (by rw [e2491]; exact fa_f3.w (fa_f3.tr (fa_f3.tr (fa_f3.tr (fa_f3.tr (by rw [e2351]; exact fa_f3.u (by rw [e2202]; exact fa_f3.u fa_f3.rf)) hf_x2354) hf_x2473) hf_x2480) hf_x2487) (by decide)))⟩, (by rw [e2491]; exact fa_fr.u (fa_fr.tr (fa_fr.tr (fa_fr.tr (fa_fr.tr (by rw [e2351]; exact fa_fr.u (by rw [e2202]; exact fa_fr.u fa_fr.rf (by omega)) (by omega)) (fa_fr.wide h2353.2 (by omega) (by omega))) (fa_fr.wide h2472.2 (by omega) (by omega))) (fa_fr.wide h2479.2 (by omega) (by omega))) (fa_fr.wide h2486.2 (by omega) (by omega))) (by omega))⟩⟩)
            · exact absurd (by try decide) c_265
          · have hl_x2487 := hs_x2487 c_88
            refine lv_iconst (v := nI (1)) hx hb dX7_readsOrder_91 (by decide) ?_
            refine lv_goto (tgt := 96) hx hb dX7_readsOrder_92 (by decide) ?_
            refine lv_istore_n (lv' := [(1, .int (nI (1))), (0, .ref (fa_B G + (397)))]) hx hb dX7_readsOrder_96 rfl hl (by decide) rfl (fun ls hl => ?_)
            refine lv_goto (tgt := 259) hx hb dX7_readsOrder_97 (by decide) ?_
            refine lv_aload_n hx hb dX7_readsOrder_259 rfl (lv_at hl 1 rfl) ?_
            refine lv_dup hx hb dX7_readsOrder_260 rfl ?_
            refine fa_geti (k := 397) CX HX2489 fl_X7_141 (by omega) rfl rfl dX7_readsOrder_261 ?_
            rw [show v2488 397 11 = nI (o_x2487) from go_x2487]
            refine lv_iload_n hx hb dX7_readsOrder_264 rfl (lv_at hl 0 rfl) ?_
            refine lv_if_eq (tgt := 272) hx hb dX7_readsOrder_265 (by decide) (fun c_265 => ?_) (fun c_265 => ?_)
            · exact absurd c_265 (by try decide)
            · refine lv_iconst (v := nI (1)) hx hb dX7_readsOrder_268 (by decide) ?_
              refine lv_goto (tgt := 273) hx hb dX7_readsOrder_269 (by decide) ?_
              refine fa_iaddN hx hb dX7_readsOrder_273 ?_
              refine fa_puti (k := 397) CX HX2489 fl_X7_141 (by omega) rfl rfl rfl rfl dX7_readsOrder_274 (fun H locs v2493 e2494 HX2495 => ?_)
              refine lv_iload_n hx hb dX7_readsOrder_277 rfl (lv_at hl 0 rfl) ?_
              exact RET _ _ _ _ _ _ _ HX2495 dX7_readsOrder_278 (by decide) (⟨rfl, ⟨⟨(Or.inr rfl), m_x2487, o_x2487 + 1, ⟨by omega, by omega, by omega, fun _ => by omega⟩, (show v2493 397 12 = nI (m_x2487) from (by rw [e2494, fa_u_n _ _ (by omega)]; exact gm_x2487)), (show v2493 397 11 = nI (o_x2487 + 1) from (by rw [e2494, fa_u_s])), (show fa_f3 v v2493 from (by rw [e2494]; exact fa_f3.w (fa_f3.tr (fa_f3.tr (fa_f3.tr (fa_f3.tr (by rw [e2351]; exact fa_f3.u (by rw [e2202]; exact fa_f3.u fa_f3.rf)) hf_x2354) hf_x2473) hf_x2480) hf_x2487) (by decide)))⟩, (by rw [e2494]; exact fa_fr.u (fa_fr.tr (fa_fr.tr (fa_fr.tr (fa_fr.tr (by rw [e2351]; exact fa_fr.u (by rw [e2202]; exact fa_fr.u fa_fr.rf (by omega)) (by omega)) (fa_fr.wide h2353.2 (by omega) (by omega))) (fa_fr.wide h2472.2 (by omega) (by omega))) (fa_fr.wide h2479.2 (by omega) (by omega))) (fa_fr.wide h2486.2 (by omega) (by omega))) (by omega))⟩⟩)
