set_option maxHeartbeats 4000000 in
set_option maxRecDepth 100000 in
theorem r_isSign (l : Launch) (G : fa_G) (n : Nat) (hn : 406 ≤ n) (v : fa_V) (r : fa_R) (hM : fa_RM r) (n9 na no : Nat) (h9 : n9 ≤ 60) (hna : na ≤ n9) (hno : 2 * no ≤ na) (g9 : v 397 9 = nI n9) (gA : v 397 12 = nI na) (gO : v 397 11 = nI no) (t : Nat → Int32) (h5 : v 405 = t) (a1 a2 : Int32) : fa_MI l G n yX7_isSign cX7_isSign 3 (some .boolean) 1 [.ref (fa_B G + (397)), .int (a1), .int (a2)] v r (fun x w => w = (v, r) ∧ (x = if na < n9 ∧ a1 ≤ t na ∧ t na ≤ a2 then nI 1 else nI 0)) := by
  refine fa_startZ (by decide +kernel) (Nat.le_of_ble_eq_true rfl) (fun p e s m args below meth c ls Q CX hl HX RET => ?_)
  have hl : lv_has ls 3 [(0, .ref (fa_B G + (397))), (1, .int (a1)), (2, .int (a2))] := hl
  have hx := CX.1.1
  have hb := CX.1.2.1
  refine lv_aload_n hx hb dX7_isSign_0 rfl (lv_at hl 0 rfl) ?_
  refine fa_geti (k := 397) CX HX fl_X7_134 (by omega) rfl rfl dX7_isSign_1 ?_
  rw [show v 397 12 = nI (na) from gA]
  refine lv_aload_n hx hb dX7_isSign_4 rfl (lv_at hl 0 rfl) ?_
  refine fa_geti (k := 397) CX HX fl_X7_131 (by omega) rfl rfl dX7_isSign_5 ?_
  rw [show v 397 9 = nI (n9) from g9]
  refine lv_icmp_ge (tgt := 41) hx hb dX7_isSign_8 (by decide) (fun c_8 => ?_) (fun c_8 => ?_)
  · have hge := fa_leN (by omega) (by omega) c_8
    refine lv_iconst (v := nI (0)) hx hb dX7_isSign_41 (by decide) ?_
    exact RET _ _ _ _ _ _ _ HX dX7_isSign_42 (by decide) (⟨rfl, (by rw [if_neg (fun z => absurd z.1 (by omega))])⟩)
  · have hlt := fa_ltN (by omega) (by omega) c_8
    refine lv_aload_n hx hb dX7_isSign_11 rfl (lv_at hl 0 rfl) ?_
    refine fa_getr (k := 397) (j := 405) CX HX fl_X7_32 (by omega) rfl rfl hM.2.2.2.2.2.2.2 dX7_isSign_12 ?_
    refine lv_aload_n hx hb dX7_isSign_15 rfl (lv_at hl 0 rfl) ?_
    refine fa_geti (k := 397) CX HX fl_X7_134 (by omega) rfl rfl dX7_isSign_16 ?_
    rw [show v 397 12 = nI (na) from gA]
    refine fa_cald (k := 405) (j := na) CX HX (by omega) rfl (by omega) (by first | decide | assumption) dX7_isSign_19 ?_
    refine lv_iload_n hx hb dX7_isSign_20 rfl (lv_at hl 1 rfl) ?_
    refine lv_icmp_lt (tgt := 41) hx hb dX7_isSign_21 (by decide) (fun c_21 => ?_) (fun c_21 => ?_)
    · refine lv_iconst (v := nI (0)) hx hb dX7_isSign_41 (by decide) ?_
      exact RET _ _ _ _ _ _ _ HX dX7_isSign_42 (by decide) (⟨rfl, (by rw [if_neg (fun z => (Int32.not_lt.mpr z.2.1) (by rw [← (congrFun h5 na)]; exact c_21))])⟩)
    · refine lv_aload_n hx hb dX7_isSign_24 rfl (lv_at hl 0 rfl) ?_
      refine fa_getr (k := 397) (j := 405) CX HX fl_X7_32 (by omega) rfl rfl hM.2.2.2.2.2.2.2 dX7_isSign_25 ?_
      refine lv_aload_n hx hb dX7_isSign_28 rfl (lv_at hl 0 rfl) ?_
      refine fa_geti (k := 397) CX HX fl_X7_134 (by omega) rfl rfl dX7_isSign_29 ?_
      rw [show v 397 12 = nI (na) from gA]
      refine fa_cald (k := 405) (j := na) CX HX (by omega) rfl (by omega) (by first | decide | assumption) dX7_isSign_32 ?_
      refine lv_iload_n hx hb dX7_isSign_33 rfl (lv_at hl 2 rfl) ?_
      refine lv_icmp_gt (tgt := 41) hx hb dX7_isSign_34 (by decide) (fun c_34 => ?_) (fun c_34 => ?_)
      · refine lv_iconst (v := nI (0)) hx hb dX7_isSign_41 (by decide) ?_
        exact RET _ _ _ _ _ _ _ HX dX7_isSign_42 (by decide) (⟨rfl, (by rw [if_neg (fun z => (Int32.not_lt.mpr z.2.2) (by rw [← (congrFun h5 na)]; exact c_34))])⟩)
      · refine lv_iconst (v := nI (1)) hx hb dX7_isSign_37 (by decide) ?_
        refine lv_goto (tgt := 42) hx hb dX7_isSign_38 (by decide) ?_
        exact RET _ _ _ _ _ _ _ HX dX7_isSign_42 (by decide) (⟨rfl, (by rw [if_pos ⟨hlt, by rw [← (congrFun h5 na)]; exact Int32.not_lt.mp c_21, by rw [← (congrFun h5 na)]; exact Int32.not_lt.mp c_34⟩])⟩)
set_option maxHeartbeats 4000000 in
set_option maxRecDepth 100000 in
theorem r_accepts (l : Launch) (G : fa_G) (n : Nat) (hn : 406 ≤ n) (v : fa_V) (r : fa_R) (hM : fa_RM r) (n9 na no : Nat) (h9 : n9 ≤ 60) (hna : na ≤ n9) (hno : 2 * no ≤ na) (g9 : v 397 9 = nI n9) (gA : v 397 12 = nI na) (gO : v 397 11 = nI no) (t : Nat → Int32) (h5 : v 405 = t) (a1 : Int32) (hc : ¬ a1 = 0) : fa_MI l G n yX7_accepts cX7_accepts 3 (some .boolean) 2 [.ref (fa_B G + (397)), .int (a1)] v r (fa_voi r (fun x v1 => ((x = if fa_sg t n9 na = a1 then nI 1 else nI 0) ∧ ∃ m o, (na ≤ m ∧ m ≤ n9 ∧ 2 * o ≤ m ∧ fa_is m (fa_acc (fa_sg t n9) a1 na) ∧ fa_is o (no)) ∧ v1 397 12 = nI m ∧ v1 397 11 = nI o ∧ fa_f3 v v1 ∧ (v1 403 = v 403)) ∧ (fa_fr (397) (404) v v1))) := by
  refine fa_startZ (by decide +kernel) (Nat.le_of_ble_eq_true rfl) (fun p e s m args below meth c ls Q CX hl HX RET => ?_)
  have hl : lv_has ls 3 [(0, .ref (fa_B G + (397))), (1, .int (a1))] := hl
  have hx := CX.1.1
  have hb := CX.1.2.1
  refine lv_aload_n hx hb dX7_accepts_0 rfl (lv_at hl 0 rfl) ?_
  refine lv_iload_n hx hb dX7_accepts_1 rfl (lv_at hl 1 rfl) ?_
  refine lv_iload_n hx hb dX7_accepts_2 rfl (lv_at hl 1 rfl) ?_
  refine fa_callVip (As := [.int (a1), .int (a1)]) (rest := []) CX HX (r_isSign l G n hn v r hM (n9) (na) (no) (by omega) (by omega) (by omega) g9 gA gO t h5 (a1) (a1)) ln_X7_137 (by omega) rfl rfl rfl rfl (Nat.le_of_ble_eq_true rfl) hl.1 ⟨Nat.le_of_ble_eq_true rfl, Nat.le_of_ble_eq_true rfl⟩ ⟨Nat.le_refl _, Nat.le_refl _⟩ dX7_accepts_3 (fun x2129 H locs h2128 HX2130 => ?_)
  have hx_x2129 := h2128
  have hxs := hx_x2129
  refine lv_istore_n (lv' := [(2, .int (x2129)), (0, .ref (fa_B G + (397))), (1, .int (a1))]) hx hb dX7_accepts_6 rfl hl (by decide) rfl (fun ls hl => ?_)
  refine lv_aload_n hx hb dX7_accepts_7 rfl (lv_at hl 1 rfl) ?_
  refine lv_dup hx hb dX7_accepts_8 rfl ?_
  refine fa_geti (k := 397) CX HX2130 fl_X7_134 (by omega) rfl rfl dX7_accepts_9 ?_
  rw [show v 397 12 = nI (na) from gA]
  refine lv_iload_n hx hb dX7_accepts_12 rfl (lv_at hl 0 rfl) ?_
  refine lv_if_eq (tgt := 20) hx hb dX7_accepts_13 (by decide) (fun c_13 => ?_) (fun c_13 => ?_)
  · have hS : ¬ fa_sg t n9 na = a1 := fun z => fa_ifn hxs c_13 ((fa_isS hc).mpr z)
    refine lv_iconst (v := nI (0)) hx hb dX7_accepts_20 (by decide) ?_
    refine fa_iaddN hx hb dX7_accepts_21 ?_
    refine fa_puti (k := 397) CX HX2130 fl_X7_134 (by omega) rfl rfl rfl rfl dX7_accepts_22 (fun H locs v2131 e2132 HX2133 => ?_)
    refine lv_iload_n hx hb dX7_accepts_25 rfl (lv_at hl 0 rfl) ?_
    exact RET _ _ _ _ _ _ _ HX2133 dX7_accepts_26 (fa_if_nar hx_x2129) (⟨rfl, ⟨⟨(hxs.trans (fa_ifc (fa_isS hc))), na + 0, no, ⟨by omega, by omega, by omega, fa_is.mk (fa_acc_f hS).symm, fa_is.mk rfl⟩, (show v2131 397 12 = nI (na + 0) from (by rw [e2132, fa_u_s])), (show v2131 397 11 = nI (no) from (by rw [e2132, fa_u_n _ _ (by omega)]; exact gO)), (show fa_f3 v v2131 from (by rw [e2132]; exact fa_f3.w fa_f3.rf (by decide))), (by show v2131 403 = v 403; rw [e2132, fa_u_k _ _ (by decide)])⟩, (by rw [e2132]; exact fa_fr.u fa_fr.rf (by omega))⟩⟩)
  · have hS : fa_sg t n9 na = a1 := (fa_isS hc).mp (fa_ift hxs c_13)
    have hlt : na < n9 := fa_sg_nz hS hc
    refine lv_iconst (v := nI (1)) hx hb dX7_accepts_16 (by decide) ?_
    refine lv_goto (tgt := 21) hx hb dX7_accepts_17 (by decide) ?_
    refine fa_iaddN hx hb dX7_accepts_21 ?_
    refine fa_puti (k := 397) CX HX2130 fl_X7_134 (by omega) rfl rfl rfl rfl dX7_accepts_22 (fun H locs v2134 e2135 HX2136 => ?_)
    refine lv_iload_n hx hb dX7_accepts_25 rfl (lv_at hl 0 rfl) ?_
    exact RET _ _ _ _ _ _ _ HX2136 dX7_accepts_26 (fa_if_nar hx_x2129) (⟨rfl, ⟨⟨(hxs.trans (fa_ifc (fa_isS hc))), na + 1, no, ⟨by omega, by omega, by omega, fa_is.mk (fa_acc_t hS).symm, fa_is.mk rfl⟩, (show v2134 397 12 = nI (na + 1) from (by rw [e2135, fa_u_s])), (show v2134 397 11 = nI (no) from (by rw [e2135, fa_u_n _ _ (by omega)]; exact gO)), (show fa_f3 v v2134 from (by rw [e2135]; exact fa_f3.w fa_f3.rf (by decide))), (by show v2134 403 = v 403; rw [e2135, fa_u_k _ _ (by decide)])⟩, (by rw [e2135]; exact fa_fr.u fa_fr.rf (by omega))⟩⟩)
set_option maxHeartbeats 4000000 in
set_option maxRecDepth 100000 in
theorem r_number (l : Launch) (G : fa_G) (n : Nat) (hn : 406 ≤ n) (v : fa_V) (r : fa_R) (hM : fa_RM r) (n9 na no : Nat) (h9 : n9 ≤ 60) (hna : na ≤ n9) (hno : 2 * no ≤ na) (g9 : v 397 9 = nI n9) (gA : v 397 12 = nI na) (gO : v 397 11 = nI no) (t : Nat → Int32) (h5 : v 405 = t) (u : Nat) (a2 : Int32) (a3 : Int32) (hu : u < 4) (hlo : fa_okv 1 a2) (hhi : fa_okv 400 a3) : fa_MI l G n yX7_number cX7_number 6 (some .boolean) 3 [.ref (fa_B G + (397)), .int (nI (u)), .int (a2), .int (a3)] v r (fa_voi r (fun x v1 => ((x = if 0 ≤ (fa_num (fa_sg t n9) a2 a3 na).1 then nI 1 else nI 0) ∧ ∃ m o, (na ≤ m ∧ m ≤ n9 ∧ 2 * o ≤ m ∧ fa_is m ((fa_num (fa_sg t n9) a2 a3 na).2) ∧ fa_is o (no)) ∧ v1 397 12 = nI m ∧ v1 397 11 = nI o ∧ fa_f3 v v1 ∧ ((0 ≤ (fa_num (fa_sg t n9) a2 a3 na).1 → v1 403 (4 * no + u) = (fa_num (fa_sg t n9) a2 a3 na).1) ∧ ∀ i, ¬ i = (4 * no + u) → v1 403 i = v 403 i)) ∧ (fa_fr (397) (404) v v1))) := by
  refine fa_startZ (by decide +kernel) (Nat.le_of_ble_eq_true rfl) (fun p e s m args below meth c ls Q CX hl HX RET => ?_)
  have hl : lv_has ls 6 [(0, .ref (fa_B G + (397))), (1, .int (nI (u))), (2, .int (a2)), (3, .int (a3))] := hl
  have hx := CX.1.1
  have hb := CX.1.2.1
  refine lv_iconst (v := nI (4)) hx hb dX7_number_0 (by decide) ?_
  refine lv_aload_n hx hb dX7_number_1 rfl (lv_at hl 0 rfl) ?_
  refine fa_geti (k := 397) CX HX fl_X7_141 (by omega) rfl rfl dX7_number_2 ?_
  rw [show v 397 11 = nI (no) from gO]
  refine fa_imulN hx hb dX7_number_5 ?_
  refine lv_iload_n hx hb dX7_number_6 rfl (lv_at hl 1 rfl) ?_
  refine fa_iaddN hx hb dX7_number_7 ?_
  refine lv_istore (lv' := [(4, .int (nI (4 * no + u))), (0, .ref (fa_B G + (397))), (1, .int (nI (u))), (2, .int (a2)), (3, .int (a3))]) hx hb dX7_number_8 hl (by decide) rfl (fun ls hl => ?_)
  refine lv_aload_n hx hb dX7_number_10 rfl (lv_at hl 1 rfl) ?_
  refine lv_iload_n hx hb dX7_number_11 rfl (lv_at hl 3 rfl) ?_
  refine lv_if_ne (tgt := 20) hx hb dX7_number_12 (by decide) (fun c_12 => ?_) (fun c_12 => ?_)
  · have hdd : fa_dd a2 (nI 49) := Or.inr ⟨c_12, rfl⟩
    refine lv_bipush (v := nI (49)) hx hb dX7_number_20 (by decide) ?_
    refine lv_bipush (v := nI (57)) hx hb dX7_number_22 (by decide) ?_
    refine fa_callVip (As := [.int (nI (49)), .int (nI (57))]) (rest := []) CX HX (r_isSign l G n hn v r hM (n9) (na) (no) (by omega) (by omega) (by omega) g9 gA gO t h5 (nI (49)) (nI (57))) ln_X7_137 (by omega) rfl rfl rfl rfl (Nat.le_of_ble_eq_true rfl) hl.1 ⟨Nat.le_of_ble_eq_true rfl, Nat.le_of_ble_eq_true rfl⟩ ⟨Nat.le_refl _, Nat.le_refl _⟩ dX7_number_24 (fun x2138 H locs h2137 HX2139 => ?_)
    have hx_x2138 := h2137
    have hxs := hx_x2138
    refine lv_if_ne (tgt := 32) hx hb dX7_number_27 (by decide) (fun c_27 => ?_) (fun c_27 => ?_)
    · have hdig := (fa_num_dig hlo hdd).mp (fa_ift hxs c_27)
      have hd0 := fa_num_lo hlo hdig
      have hlt := fa_dg_lt hd0
      refine lv_aload_n hx hb dX7_number_32 rfl (lv_at hl 1 rfl) ?_
      refine fa_getr (k := 397) (j := 403) CX HX2139 fl_X7_26 (by omega) rfl rfl hM.2.2.2.2.2.1 dX7_number_33 ?_
      refine lv_iload hx hb dX7_number_36 (lv_at hl 0 rfl) ?_
      refine lv_aload_n hx hb dX7_number_38 rfl (lv_at hl 1 rfl) ?_
      refine fa_getr (k := 397) (j := 405) CX HX2139 fl_X7_32 (by omega) rfl rfl hM.2.2.2.2.2.2.2 dX7_number_39 ?_
      refine lv_aload_n hx hb dX7_number_42 rfl (lv_at hl 1 rfl) ?_
      refine fa_geti (k := 397) CX HX2139 fl_X7_134 (by omega) rfl rfl dX7_number_43 ?_
      rw [show v 397 12 = nI (na) from gA]
      refine fa_cald (k := 405) (j := na) CX HX2139 (by omega) rfl (by omega) (by first | decide | assumption) dX7_number_46 ?_
      refine lv_bipush (v := nI (48)) hx hb dX7_number_47 (by decide) ?_
      refine lv_isub hx hb dX7_number_49 ?_
      refine fa_iast (k := 403) (j := 4 * no + u) CX HX2139 (by omega) rfl (by omega) (by first | decide | assumption) dX7_number_50 (fun H locs v2140 e2141 HX2142 => ?_)
      have hq : v2140 403 (4 * no + u) = fa_dg (fa_sg t n9 na) := by rw [e2141, fa_u_s, fa_dgeq hd0, ← congrFun h5 na]
      refine lv_aload_n hx hb dX7_number_51 rfl (lv_at hl 1 rfl) ?_
      refine fa_getr (k := 397) (j := 403) CX HX2142 fl_X7_26 (by omega) rfl rfl hM.2.2.2.2.2.1 dX7_number_52 ?_
      refine lv_iload hx hb dX7_number_55 (lv_at hl 0 rfl) ?_
      refine fa_iald (k := 403) (j := 4 * no + u) CX HX2142 (by omega) rfl (by omega) (by first | decide | assumption) dX7_number_57 ?_
      refine lv_iload_n hx hb dX7_number_58 rfl (lv_at hl 4 rfl) ?_
      refine lv_icmp_gt (tgt := 66) hx hb dX7_number_59 (by decide) (fun c_59 => ?_) (fun c_59 => ?_)
      · have hz : fa_dg (fa_sg t n9 na) < a2 ∨ ¬ fa_dg (fa_sg t n9 na) ≤ a3 := Or.inr (by
          rw [← hq]
          exact Int32.not_le.mpr c_59)
        refine lv_iconst (v := nI (0)) hx hb dX7_number_66 (by decide) ?_
        refine lv_istore (lv' := [(5, .int (nI (0))), (4, .int (nI (4 * no + u))), (0, .ref (fa_B G + (397))), (1, .int (nI (u))), (2, .int (a2)), (3, .int (a3))]) hx hb dX7_number_67 hl (by decide) rfl (fun ls hl => ?_)
        refine lv_aload_n hx hb dX7_number_69 rfl (lv_at hl 2 rfl) ?_
        refine lv_dup hx hb dX7_number_70 rfl ?_
        refine fa_geti (k := 397) CX HX2142 fl_X7_134 (by omega) rfl rfl dX7_number_71 ?_
        rw [show v2140 397 12 = nI (na) from (by rw [e2141, fa_u_n _ _ (by omega)]; exact gA)]
        refine lv_iload hx hb dX7_number_74 (lv_at hl 0 rfl) ?_
        refine lv_if_eq (tgt := 83) hx hb dX7_number_76 (by decide) (fun c_76 => ?_) (fun c_76 => ?_)
        · refine lv_iconst (v := nI (0)) hx hb dX7_number_83 (by decide) ?_
          refine fa_iaddN hx hb dX7_number_84 ?_
          refine fa_puti (k := 397) CX HX2142 fl_X7_134 (by omega) rfl rfl rfl rfl dX7_number_85 (fun H locs v2143 e2144 HX2145 => ?_)
          have LOOP_88 : ∀ (fu : Nat) (mt : Nat) (ok : Int32) (v2146 : fa_V) (H : Heap) (locs : List Loc) (ls : Array Slot), 61 - mt < fu → ((na ≤ mt ∧ mt ≤ n9) ∧ ((ok = nI 0 ∧ mt = na ∧ fa_num (fa_sg t n9) a2 a3 na = ((-1 : Int32), na)) ∨ (ok = nI 1 ∧ na + 1 ≤ mt ∧ fa_okv 400 (v2146 403 (4 * no + u)) ∧ fa_mre (fa_sg t n9) a3 (60 - (mt - (na + 1))) (v2146 403 (4 * no + u)) mt = fa_num (fa_sg t n9) a2 a3 na)) ∧ v2146 397 12 = nI mt ∧ v2146 397 11 = nI no ∧ fa_f3 v v2146 ∧ (∀ i, ¬ i = (4 * no + u) → v2146 403 i = v 403 i) ∧ v2146 405 = t) → lv_has ls 6 [(0, .ref (fa_B G + (397))), (1, .int (nI (u))), (2, .int (a2)), (3, .int (a3)), (4, .int (nI (4 * no + u))), (5, .int (ok))] → fa_HX G (n) v2146 r s H locs → W p l e (fa_rm 3) s m args below meth c H locs (0) (0) Q (F0 m 88 ls []) := by
            intro fu
            induction fu with
            | zero => intro mt ok v2146 H locs ls hk; exact absurd hk (Nat.not_lt_zero _)
            | succ fu ih_88 =>
              intro mt ok v2146 H locs ls hk_88 hi_88 hl HX2147
              refine lv_iload hx hb dX7_number_88 (lv_at hl 5 rfl) ?_
              refine lv_if_eq (tgt := 184) hx hb dX7_number_90 (by decide) (fun c_90 => ?_) (fun c_90 => ?_)
              · obtain ⟨hk0, hk1, hk2⟩ := hi_88.2.1.resolve_right (fun z => by
                  rw [z.1] at c_90
                  exact absurd c_90 (by decide))
                refine lv_iload hx hb dX7_number_184 (lv_at hl 5 rfl) ?_
                exact RET _ _ _ _ _ _ _ HX2147 dX7_number_186 (by rw [hk0]; decide) (⟨rfl, ⟨⟨(by rw [hk0, hk2]; exact (if_neg fa_n1).symm), mt, no, ⟨by omega, by omega, by omega, fa_is.mk (by rw [hk2]; exact hk1), fa_is.mk rfl⟩, (show v2146 397 12 = nI (mt) from hi_88.2.2.1), (show v2146 397 11 = nI (no) from hi_88.2.2.2.1), (show fa_f3 v v2146 from (fa_f3.tr fa_f3.rf hi_88.2.2.2.2.1)), ⟨(fun z => absurd z (by rw [hk2]; exact fa_n1)), (fun i hi => by (show v2146 403 i = v 403 i; exact hi_88.2.2.2.2.2.1 i hi))⟩⟩, (fa_fr.tr fa_fr.rf (fa_fr.wide (fa_f3.fr hi_88.2.2.2.2.1) (by omega) (by omega)))⟩⟩)
              · obtain ⟨hk0, hk1, hk2, hk3⟩ := hi_88.2.1.resolve_left (fun z => c_90 (by
                  rw [z.1]
                  decide))
                refine lv_aload_n hx hb dX7_number_93 rfl (lv_at hl 0 rfl) ?_
                refine fa_getr (k := 397) (j := 403) CX HX2147 fl_X7_26 (by omega) rfl rfl hM.2.2.2.2.2.1 dX7_number_94 ?_
                refine lv_iload hx hb dX7_number_97 (lv_at hl 4 rfl) ?_
                refine fa_iald (k := 403) (j := 4 * no + u) CX HX2147 (by omega) rfl (by omega) (by first | decide | assumption) dX7_number_99 ?_
                refine lv_if_le (tgt := 184) hx hb dX7_number_100 (by decide) (fun c_100 => ?_) (fun c_100 => ?_)
                · refine lv_iload hx hb dX7_number_184 (lv_at hl 5 rfl) ?_
                  exact RET _ _ _ _ _ _ _ HX2147 dX7_number_186 (by rw [hk0]; decide) (⟨rfl, ⟨⟨(by rw [hk0, ← hk3, fa_mre_e (Or.inr (Or.inl (fa_le0 hk2 (by decide) c_100))) _, if_pos (hk2.pos (by decide))]), mt, no, ⟨by omega, by omega, by omega, fa_is.mk (by rw [← hk3, fa_mre_e (Or.inr (Or.inl (fa_le0 hk2 (by decide) c_100))) _]), fa_is.mk rfl⟩, (show v2146 397 12 = nI (mt) from hi_88.2.2.1), (show v2146 397 11 = nI (no) from hi_88.2.2.2.1), (show fa_f3 v v2146 from (fa_f3.tr fa_f3.rf hi_88.2.2.2.2.1)), ⟨(fun _ => by rw [← hk3, fa_mre_e (Or.inr (Or.inl (fa_le0 hk2 (by decide) c_100))) _]), (fun i hi => by (show v2146 403 i = v 403 i; exact hi_88.2.2.2.2.2.1 i hi))⟩⟩, (fa_fr.tr fa_fr.rf (fa_fr.wide (fa_f3.fr hi_88.2.2.2.2.1) (by omega) (by omega)))⟩⟩)
                · refine lv_aload_n hx hb dX7_number_103 rfl (lv_at hl 0 rfl) ?_
                  refine lv_bipush (v := nI (48)) hx hb dX7_number_104 (by decide) ?_
                  refine lv_bipush (v := nI (57)) hx hb dX7_number_106 (by decide) ?_
                  refine fa_callVip (As := [.int (nI (48)), .int (nI (57))]) (rest := []) CX HX2147 (r_isSign l G n hn v2146 r hM (n9) (mt) (no) (by omega) (by omega) (by omega) ((hi_88.2.2.2.2.1.2 9 (by decide) (by decide)).trans g9) hi_88.2.2.1 hi_88.2.2.2.1 t hi_88.2.2.2.2.2.2 (nI (48)) (nI (57))) ln_X7_137 (by omega) rfl rfl rfl rfl (Nat.le_of_ble_eq_true rfl) hl.1 ⟨Nat.le_of_ble_eq_true rfl, Nat.le_of_ble_eq_true rfl⟩ ⟨Nat.le_refl _, Nat.le_refl _⟩ dX7_number_108 (fun x2149 H locs h2148 HX2150 => ?_)
                  have hx_x2149 := h2148
                  have hxs2 := hx_x2149
                  refine lv_if_eq (tgt := 184) hx hb dX7_number_111 (by decide) (fun c_111 => ?_) (fun c_111 => ?_)
                  · refine lv_iload hx hb dX7_number_184 (lv_at hl 5 rfl) ?_
                    exact RET _ _ _ _ _ _ _ HX2150 dX7_number_186 (by rw [hk0]; decide) (⟨rfl, ⟨⟨(by rw [hk0, ← hk3, fa_mre_e (Or.inl (Decidable.not_not.mp (fun z => fa_ifn hxs2 c_111 (fa_dig2.mpr z)))) _, if_pos (hk2.pos (by decide))]), mt, no, ⟨by omega, by omega, by omega, fa_is.mk (by rw [← hk3, fa_mre_e (Or.inl (Decidable.not_not.mp (fun z => fa_ifn hxs2 c_111 (fa_dig2.mpr z)))) _]), fa_is.mk rfl⟩, (show v2146 397 12 = nI (mt) from hi_88.2.2.1), (show v2146 397 11 = nI (no) from hi_88.2.2.2.1), (show fa_f3 v v2146 from (fa_f3.tr fa_f3.rf hi_88.2.2.2.2.1)), ⟨(fun _ => by rw [← hk3, fa_mre_e (Or.inl (Decidable.not_not.mp (fun z => fa_ifn hxs2 c_111 (fa_dig2.mpr z)))) _]), (fun i hi => by (show v2146 403 i = v 403 i; exact hi_88.2.2.2.2.2.1 i hi))⟩⟩, (fa_fr.tr fa_fr.rf (fa_fr.wide (fa_f3.fr hi_88.2.2.2.2.1) (by omega) (by omega)))⟩⟩)
                  · have hd0 : ¬ fa_dg (fa_sg t n9 mt) < 0 := fa_dig2.mp (fa_ift hxs2 c_111)
                    have hlt2 := fa_dg_lt hd0
                    refine lv_bipush (v := nI (10)) hx hb dX7_number_114 (by decide) ?_
                    refine lv_aload_n hx hb dX7_number_116 rfl (lv_at hl 0 rfl) ?_
                    refine fa_getr (k := 397) (j := 403) CX HX2150 fl_X7_26 (by omega) rfl rfl hM.2.2.2.2.2.1 dX7_number_117 ?_
                    refine lv_iload hx hb dX7_number_120 (lv_at hl 4 rfl) ?_
                    refine fa_iald (k := 403) (j := 4 * no + u) CX HX2150 (by omega) rfl (by omega) (by first | decide | assumption) dX7_number_122 ?_
                    refine lv_imul hx hb dX7_number_123 ?_
                    refine lv_aload_n hx hb dX7_number_124 rfl (lv_at hl 0 rfl) ?_
                    refine fa_getr (k := 397) (j := 405) CX HX2150 fl_X7_32 (by omega) rfl rfl hM.2.2.2.2.2.2.2 dX7_number_125 ?_
                    refine lv_aload_n hx hb dX7_number_128 rfl (lv_at hl 0 rfl) ?_
                    refine fa_geti (k := 397) CX HX2150 fl_X7_134 (by omega) rfl rfl dX7_number_129 ?_
                    rw [show v2146 397 12 = nI (mt) from hi_88.2.2.1]
                    refine fa_cald (k := 405) (j := mt) CX HX2150 (by omega) rfl (by omega) (by first | decide | assumption) dX7_number_132 ?_
                    refine lv_iadd hx hb dX7_number_133 ?_
                    refine lv_bipush (v := nI (48)) hx hb dX7_number_134 (by decide) ?_
                    refine lv_isub hx hb dX7_number_136 ?_
                    refine lv_iload_n hx hb dX7_number_137 rfl (lv_at hl 3 rfl) ?_
                    refine lv_icmp_gt (tgt := 184) hx hb dX7_number_138 (by decide) (fun c_138 => ?_) (fun c_138 => ?_)
                    · refine lv_iload hx hb dX7_number_184 (lv_at hl 5 rfl) ?_
                      exact RET _ _ _ _ _ _ _ HX2150 dX7_number_186 (by rw [hk0]; decide) (⟨rfl, ⟨⟨(by rw [hk0, ← hk3, fa_mre_e (Or.inr (Or.inr (by rw [fa_dgeq hd0, ← fa_tens, ← congrFun hi_88.2.2.2.2.2.2 mt]; exact Int32.not_le.mpr c_138))) _, if_pos (hk2.pos (by decide))]), mt, no, ⟨by omega, by omega, by omega, fa_is.mk (by rw [← hk3, fa_mre_e (Or.inr (Or.inr (by rw [fa_dgeq hd0, ← fa_tens, ← congrFun hi_88.2.2.2.2.2.2 mt]; exact Int32.not_le.mpr c_138))) _]), fa_is.mk rfl⟩, (show v2146 397 12 = nI (mt) from hi_88.2.2.1), (show v2146 397 11 = nI (no) from hi_88.2.2.2.1), (show fa_f3 v v2146 from (fa_f3.tr fa_f3.rf hi_88.2.2.2.2.1)), ⟨(fun _ => by rw [← hk3, fa_mre_e (Or.inr (Or.inr (by rw [fa_dgeq hd0, ← fa_tens, ← congrFun hi_88.2.2.2.2.2.2 mt]; exact Int32.not_le.mpr c_138))) _]), (fun i hi => by (show v2146 403 i = v 403 i; exact hi_88.2.2.2.2.2.1 i hi))⟩⟩, (fa_fr.tr fa_fr.rf (fa_fr.wide (fa_f3.fr hi_88.2.2.2.2.1) (by omega) (by omega)))⟩⟩)
                    · refine lv_aload_n hx hb dX7_number_141 rfl (lv_at hl 0 rfl) ?_
                      refine fa_getr (k := 397) (j := 403) CX HX2150 fl_X7_26 (by omega) rfl rfl hM.2.2.2.2.2.1 dX7_number_142 ?_
                      refine lv_iload hx hb dX7_number_145 (lv_at hl 4 rfl) ?_
                      refine lv_bipush (v := nI (10)) hx hb dX7_number_147 (by decide) ?_
                      refine lv_aload_n hx hb dX7_number_149 rfl (lv_at hl 0 rfl) ?_
                      refine fa_getr (k := 397) (j := 403) CX HX2150 fl_X7_26 (by omega) rfl rfl hM.2.2.2.2.2.1 dX7_number_150 ?_
                      refine lv_iload hx hb dX7_number_153 (lv_at hl 4 rfl) ?_
                      refine fa_iald (k := 403) (j := 4 * no + u) CX HX2150 (by omega) rfl (by omega) (by first | decide | assumption) dX7_number_155 ?_
                      refine lv_imul hx hb dX7_number_156 ?_
                      refine lv_aload_n hx hb dX7_number_157 rfl (lv_at hl 0 rfl) ?_
                      refine fa_getr (k := 397) (j := 405) CX HX2150 fl_X7_32 (by omega) rfl rfl hM.2.2.2.2.2.2.2 dX7_number_158 ?_
                      refine lv_aload_n hx hb dX7_number_161 rfl (lv_at hl 0 rfl) ?_
                      refine fa_geti (k := 397) CX HX2150 fl_X7_134 (by omega) rfl rfl dX7_number_162 ?_
                      rw [show v2146 397 12 = nI (mt) from hi_88.2.2.1]
                      refine fa_cald (k := 405) (j := mt) CX HX2150 (by omega) rfl (by omega) (by first | decide | assumption) dX7_number_165 ?_
                      refine lv_iadd hx hb dX7_number_166 ?_
                      refine lv_bipush (v := nI (48)) hx hb dX7_number_167 (by decide) ?_
                      refine lv_isub hx hb dX7_number_169 ?_
                      refine fa_iast (k := 403) (j := 4 * no + u) CX HX2150 (by omega) rfl (by omega) (by first | decide | assumption) dX7_number_170 (fun H locs v2151 e2152 HX2153 => ?_)
                      refine lv_aload_n hx hb dX7_number_171 rfl (lv_at hl 0 rfl) ?_
                      refine lv_dup hx hb dX7_number_172 rfl ?_
                      refine fa_geti (k := 397) CX HX2153 fl_X7_134 (by omega) rfl rfl dX7_number_173 ?_
                      rw [show v2151 397 12 = nI (mt) from (by rw [e2152, fa_u_n _ _ (by omega)]; exact hi_88.2.2.1)]
                      refine lv_iconst (v := nI (1)) hx hb dX7_number_176 (by decide) ?_
                      refine fa_iaddN hx hb dX7_number_177 ?_
                      refine fa_puti (k := 397) CX HX2153 fl_X7_134 (by omega) rfl rfl rfl rfl dX7_number_178 (fun H locs v2154 e2155 HX2156 => ?_)
                      refine lv_goto (tgt := 88) hx hb dX7_number_181 (by decide) ?_
                      exact ih_88 (mt + 1) (ok) v2154 _ _ _ (by omega) (⟨⟨by omega, by omega⟩, (Or.inr ⟨hk0, by omega, (by rw [(show v2154 403 (4 * no + u) = v2146 403 (4 * no + u) * nI 10 + fa_dg (fa_sg t n9 mt) from by rw [e2155, fa_u_k _ _ (by decide), e2152, fa_u_s, fa_dgeq hd0, ← fa_tens, ← congrFun hi_88.2.2.2.2.2.2 mt])]; exact fa_stepv hk2 hhi (let ⟨e, he, e1, _⟩ := fa_dg_ok _ hd0; ⟨e, he, e1⟩) (show v2146 403 (4 * no + u) * nI 10 + fa_dg (fa_sg t n9 mt) ≤ a3 from by rw [fa_dgeq hd0, ← fa_tens, ← congrFun hi_88.2.2.2.2.2.2 mt]; exact Int32.not_lt.mp c_138)), (by rw [(show v2154 403 (4 * no + u) = v2146 403 (4 * no + u) * nI 10 + fa_dg (fa_sg t n9 mt) from by rw [e2155, fa_u_k _ _ (by decide), e2152, fa_u_s, fa_dgeq hd0, ← fa_tens, ← congrFun hi_88.2.2.2.2.2.2 mt]), ← hk3, show mt + 1 - (na + 1) = mt - (na + 1) + 1 by omega]; exact fa_mre_s (by omega) hd0 (show ¬ v2146 403 (4 * no + u) = 0 from fun z => c_100 (by rw [z]; decide)) (show v2146 403 (4 * no + u) * nI 10 + fa_dg (fa_sg t n9 mt) ≤ a3 from by rw [fa_dgeq hd0, ← fa_tens, ← congrFun hi_88.2.2.2.2.2.2 mt]; exact Int32.not_lt.mp c_138))⟩), (by rw [e2155, fa_u_s]), (by rw [e2155, fa_u_n _ _ (by omega)]; exact (by rw [e2152, fa_u_n _ _ (by omega)]; exact hi_88.2.2.2.1)), (by rw [e2155]; exact fa_f3.w (by rw [e2152]; exact fa_f3.u (fa_f3.tr fa_f3.rf hi_88.2.2.2.2.1)) (by decide)), (fun i hi => by (show v2154 403 i = v 403 i; rw [e2155, fa_u_k _ _ (by decide), e2152, fa_u_n _ _ (by omega)]; exact hi_88.2.2.2.2.2.1 i hi)), (((congrFun e2155 405).trans (fa_u_k _ _ (by decide))).trans (((congrFun e2152 405).trans (fa_u_k _ _ (by decide))).trans hi_88.2.2.2.2.2.2))⟩) (lv_sub hl [0, 1, 2, 3, 4, 5] rfl) HX2156
          exact LOOP_88 (61 - (na + 0) + 1) (na + 0) (nI (0)) v2143 _ _ _ (Nat.lt_succ_self _) (⟨⟨by omega, by omega⟩, (Or.inl ⟨rfl, rfl, fa_num_f hz⟩), (by rw [e2144, fa_u_s]), (by rw [e2144, fa_u_n _ _ (by omega)]; exact (by rw [e2141, fa_u_n _ _ (by omega)]; exact gO)), (by rw [e2144]; exact fa_f3.w (by rw [e2141]; exact fa_f3.u fa_f3.rf) (by decide)), (fun i hi => by (show v2143 403 i = v 403 i; rw [e2144, fa_u_k _ _ (by decide), e2141, fa_u_n _ _ (by omega)])), (((congrFun e2144 405).trans (fa_u_k _ _ (by decide))).trans (((congrFun e2141 405).trans (fa_u_k _ _ (by decide))).trans h5))⟩) (lv_sub hl [2, 3, 4, 5, 1, 0] rfl) HX2145
        · exact absurd (by try decide) c_76
      · have hnum := fa_num_t (t := t) (n := n9) (a := na) hlo hhi (by
          rw [← hq]
          exact fun z => z.elim (by
            rw [hq]
            exact hdig) (fun z => z (Int32.not_lt.mp c_59)))
        refine lv_iconst (v := nI (1)) hx hb dX7_number_62 (by decide) ?_
        refine lv_goto (tgt := 67) hx hb dX7_number_63 (by decide) ?_
        refine lv_istore (lv' := [(5, .int (nI (1))), (4, .int (nI (4 * no + u))), (0, .ref (fa_B G + (397))), (1, .int (nI (u))), (2, .int (a2)), (3, .int (a3))]) hx hb dX7_number_67 hl (by decide) rfl (fun ls hl => ?_)
        refine lv_aload_n hx hb dX7_number_69 rfl (lv_at hl 2 rfl) ?_
        refine lv_dup hx hb dX7_number_70 rfl ?_
        refine fa_geti (k := 397) CX HX2142 fl_X7_134 (by omega) rfl rfl dX7_number_71 ?_
        rw [show v2140 397 12 = nI (na) from (by rw [e2141, fa_u_n _ _ (by omega)]; exact gA)]
        refine lv_iload hx hb dX7_number_74 (lv_at hl 0 rfl) ?_
        refine lv_if_eq (tgt := 83) hx hb dX7_number_76 (by decide) (fun c_76 => ?_) (fun c_76 => ?_)
        · exact absurd c_76 (by try decide)
        · refine lv_iconst (v := nI (1)) hx hb dX7_number_79 (by decide) ?_
          refine lv_goto (tgt := 84) hx hb dX7_number_80 (by decide) ?_
          refine fa_iaddN hx hb dX7_number_84 ?_
          refine fa_puti (k := 397) CX HX2142 fl_X7_134 (by omega) rfl rfl rfl rfl dX7_number_85 (fun H locs v2157 e2158 HX2159 => ?_)
          have LOOP_88 : ∀ (fu : Nat) (mt : Nat) (ok : Int32) (v2160 : fa_V) (H : Heap) (locs : List Loc) (ls : Array Slot), 61 - mt < fu → ((na ≤ mt ∧ mt ≤ n9) ∧ ((ok = nI 0 ∧ mt = na ∧ fa_num (fa_sg t n9) a2 a3 na = ((-1 : Int32), na)) ∨ (ok = nI 1 ∧ na + 1 ≤ mt ∧ fa_okv 400 (v2160 403 (4 * no + u)) ∧ fa_mre (fa_sg t n9) a3 (60 - (mt - (na + 1))) (v2160 403 (4 * no + u)) mt = fa_num (fa_sg t n9) a2 a3 na)) ∧ v2160 397 12 = nI mt ∧ v2160 397 11 = nI no ∧ fa_f3 v v2160 ∧ (∀ i, ¬ i = (4 * no + u) → v2160 403 i = v 403 i) ∧ v2160 405 = t) → lv_has ls 6 [(0, .ref (fa_B G + (397))), (1, .int (nI (u))), (2, .int (a2)), (3, .int (a3)), (4, .int (nI (4 * no + u))), (5, .int (ok))] → fa_HX G (n) v2160 r s H locs → W p l e (fa_rm 3) s m args below meth c H locs (0) (0) Q (F0 m 88 ls []) := by
            intro fu
            induction fu with
            | zero => intro mt ok v2160 H locs ls hk; exact absurd hk (Nat.not_lt_zero _)
            | succ fu ih_88 =>
              intro mt ok v2160 H locs ls hk_88 hi_88 hl HX2161
              refine lv_iload hx hb dX7_number_88 (lv_at hl 5 rfl) ?_
              refine lv_if_eq (tgt := 184) hx hb dX7_number_90 (by decide) (fun c_90 => ?_) (fun c_90 => ?_)
              · obtain ⟨hk0, hk1, hk2⟩ := hi_88.2.1.resolve_right (fun z => by
                  rw [z.1] at c_90
                  exact absurd c_90 (by decide))
                refine lv_iload hx hb dX7_number_184 (lv_at hl 5 rfl) ?_
                exact RET _ _ _ _ _ _ _ HX2161 dX7_number_186 (by rw [hk0]; decide) (⟨rfl, ⟨⟨(by rw [hk0, hk2]; exact (if_neg fa_n1).symm), mt, no, ⟨by omega, by omega, by omega, fa_is.mk (by rw [hk2]; exact hk1), fa_is.mk rfl⟩, (show v2160 397 12 = nI (mt) from hi_88.2.2.1), (show v2160 397 11 = nI (no) from hi_88.2.2.2.1), (show fa_f3 v v2160 from (fa_f3.tr fa_f3.rf hi_88.2.2.2.2.1)), ⟨(fun z => absurd z (by rw [hk2]; exact fa_n1)), (fun i hi => by (show v2160 403 i = v 403 i; exact hi_88.2.2.2.2.2.1 i hi))⟩⟩, (fa_fr.tr fa_fr.rf (fa_fr.wide (fa_f3.fr hi_88.2.2.2.2.1) (by omega) (by omega)))⟩⟩)
              · obtain ⟨hk0, hk1, hk2, hk3⟩ := hi_88.2.1.resolve_left (fun z => c_90 (by
                  rw [z.1]
                  decide))
                refine lv_aload_n hx hb dX7_number_93 rfl (lv_at hl 0 rfl) ?_
                refine fa_getr (k := 397) (j := 403) CX HX2161 fl_X7_26 (by omega) rfl rfl hM.2.2.2.2.2.1 dX7_number_94 ?_
                refine lv_iload hx hb dX7_number_97 (lv_at hl 4 rfl) ?_
                refine fa_iald (k := 403) (j := 4 * no + u) CX HX2161 (by omega) rfl (by omega) (by first | decide | assumption) dX7_number_99 ?_
                refine lv_if_le (tgt := 184) hx hb dX7_number_100 (by decide) (fun c_100 => ?_) (fun c_100 => ?_)
                · refine lv_iload hx hb dX7_number_184 (lv_at hl 5 rfl) ?_
                  exact RET _ _ _ _ _ _ _ HX2161 dX7_number_186 (by rw [hk0]; decide) (⟨rfl, ⟨⟨(by rw [hk0, ← hk3, fa_mre_e (Or.inr (Or.inl (fa_le0 hk2 (by decide) c_100))) _, if_pos (hk2.pos (by decide))]), mt, no, ⟨by omega, by omega, by omega, fa_is.mk (by rw [← hk3, fa_mre_e (Or.inr (Or.inl (fa_le0 hk2 (by decide) c_100))) _]), fa_is.mk rfl⟩, (show v2160 397 12 = nI (mt) from hi_88.2.2.1), (show v2160 397 11 = nI (no) from hi_88.2.2.2.1), (show fa_f3 v v2160 from (fa_f3.tr fa_f3.rf hi_88.2.2.2.2.1)), ⟨(fun _ => by rw [← hk3, fa_mre_e (Or.inr (Or.inl (fa_le0 hk2 (by decide) c_100))) _]), (fun i hi => by (show v2160 403 i = v 403 i; exact hi_88.2.2.2.2.2.1 i hi))⟩⟩, (fa_fr.tr fa_fr.rf (fa_fr.wide (fa_f3.fr hi_88.2.2.2.2.1) (by omega) (by omega)))⟩⟩)
                · refine lv_aload_n hx hb dX7_number_103 rfl (lv_at hl 0 rfl) ?_
                  refine lv_bipush (v := nI (48)) hx hb dX7_number_104 (by decide) ?_
                  refine lv_bipush (v := nI (57)) hx hb dX7_number_106 (by decide) ?_
                  refine fa_callVip (As := [.int (nI (48)), .int (nI (57))]) (rest := []) CX HX2161 (r_isSign l G n hn v2160 r hM (n9) (mt) (no) (by omega) (by omega) (by omega) ((hi_88.2.2.2.2.1.2 9 (by decide) (by decide)).trans g9) hi_88.2.2.1 hi_88.2.2.2.1 t hi_88.2.2.2.2.2.2 (nI (48)) (nI (57))) ln_X7_137 (by omega) rfl rfl rfl rfl (Nat.le_of_ble_eq_true rfl) hl.1 ⟨Nat.le_of_ble_eq_true rfl, Nat.le_of_ble_eq_true rfl⟩ ⟨Nat.le_refl _, Nat.le_refl _⟩ dX7_number_108 (fun x2163 H locs h2162 HX2164 => ?_)
                  have hx_x2163 := h2162
                  have hxs2 := hx_x2163
                  refine lv_if_eq (tgt := 184) hx hb dX7_number_111 (by decide) (fun c_111 => ?_) (fun c_111 => ?_)
                  · refine lv_iload hx hb dX7_number_184 (lv_at hl 5 rfl) ?_
                    exact RET _ _ _ _ _ _ _ HX2164 dX7_number_186 (by rw [hk0]; decide) (⟨rfl, ⟨⟨(by rw [hk0, ← hk3, fa_mre_e (Or.inl (Decidable.not_not.mp (fun z => fa_ifn hxs2 c_111 (fa_dig2.mpr z)))) _, if_pos (hk2.pos (by decide))]), mt, no, ⟨by omega, by omega, by omega, fa_is.mk (by rw [← hk3, fa_mre_e (Or.inl (Decidable.not_not.mp (fun z => fa_ifn hxs2 c_111 (fa_dig2.mpr z)))) _]), fa_is.mk rfl⟩, (show v2160 397 12 = nI (mt) from hi_88.2.2.1), (show v2160 397 11 = nI (no) from hi_88.2.2.2.1), (show fa_f3 v v2160 from (fa_f3.tr fa_f3.rf hi_88.2.2.2.2.1)), ⟨(fun _ => by rw [← hk3, fa_mre_e (Or.inl (Decidable.not_not.mp (fun z => fa_ifn hxs2 c_111 (fa_dig2.mpr z)))) _]), (fun i hi => by (show v2160 403 i = v 403 i; exact hi_88.2.2.2.2.2.1 i hi))⟩⟩, (fa_fr.tr fa_fr.rf (fa_fr.wide (fa_f3.fr hi_88.2.2.2.2.1) (by omega) (by omega)))⟩⟩)
                  · have hd0 : ¬ fa_dg (fa_sg t n9 mt) < 0 := fa_dig2.mp (fa_ift hxs2 c_111)
                    have hlt2 := fa_dg_lt hd0
                    refine lv_bipush (v := nI (10)) hx hb dX7_number_114 (by decide) ?_
                    refine lv_aload_n hx hb dX7_number_116 rfl (lv_at hl 0 rfl) ?_
                    refine fa_getr (k := 397) (j := 403) CX HX2164 fl_X7_26 (by omega) rfl rfl hM.2.2.2.2.2.1 dX7_number_117 ?_
                    refine lv_iload hx hb dX7_number_120 (lv_at hl 4 rfl) ?_
                    refine fa_iald (k := 403) (j := 4 * no + u) CX HX2164 (by omega) rfl (by omega) (by first | decide | assumption) dX7_number_122 ?_
                    refine lv_imul hx hb dX7_number_123 ?_
                    refine lv_aload_n hx hb dX7_number_124 rfl (lv_at hl 0 rfl) ?_
                    refine fa_getr (k := 397) (j := 405) CX HX2164 fl_X7_32 (by omega) rfl rfl hM.2.2.2.2.2.2.2 dX7_number_125 ?_
                    refine lv_aload_n hx hb dX7_number_128 rfl (lv_at hl 0 rfl) ?_
                    refine fa_geti (k := 397) CX HX2164 fl_X7_134 (by omega) rfl rfl dX7_number_129 ?_
                    rw [show v2160 397 12 = nI (mt) from hi_88.2.2.1]
                    refine fa_cald (k := 405) (j := mt) CX HX2164 (by omega) rfl (by omega) (by first | decide | assumption) dX7_number_132 ?_
                    refine lv_iadd hx hb dX7_number_133 ?_
                    refine lv_bipush (v := nI (48)) hx hb dX7_number_134 (by decide) ?_
                    refine lv_isub hx hb dX7_number_136 ?_
                    refine lv_iload_n hx hb dX7_number_137 rfl (lv_at hl 3 rfl) ?_
                    refine lv_icmp_gt (tgt := 184) hx hb dX7_number_138 (by decide) (fun c_138 => ?_) (fun c_138 => ?_)
                    · refine lv_iload hx hb dX7_number_184 (lv_at hl 5 rfl) ?_
                      exact RET _ _ _ _ _ _ _ HX2164 dX7_number_186 (by rw [hk0]; decide) (⟨rfl, ⟨⟨(by rw [hk0, ← hk3, fa_mre_e (Or.inr (Or.inr (by rw [fa_dgeq hd0, ← fa_tens, ← congrFun hi_88.2.2.2.2.2.2 mt]; exact Int32.not_le.mpr c_138))) _, if_pos (hk2.pos (by decide))]), mt, no, ⟨by omega, by omega, by omega, fa_is.mk (by rw [← hk3, fa_mre_e (Or.inr (Or.inr (by rw [fa_dgeq hd0, ← fa_tens, ← congrFun hi_88.2.2.2.2.2.2 mt]; exact Int32.not_le.mpr c_138))) _]), fa_is.mk rfl⟩, (show v2160 397 12 = nI (mt) from hi_88.2.2.1), (show v2160 397 11 = nI (no) from hi_88.2.2.2.1), (show fa_f3 v v2160 from (fa_f3.tr fa_f3.rf hi_88.2.2.2.2.1)), ⟨(fun _ => by rw [← hk3, fa_mre_e (Or.inr (Or.inr (by rw [fa_dgeq hd0, ← fa_tens, ← congrFun hi_88.2.2.2.2.2.2 mt]; exact Int32.not_le.mpr c_138))) _]), (fun i hi => by (show v2160 403 i = v 403 i; exact hi_88.2.2.2.2.2.1 i hi))⟩⟩, (fa_fr.tr fa_fr.rf (fa_fr.wide (fa_f3.fr hi_88.2.2.2.2.1) (by omega) (by omega)))⟩⟩)
                    · refine lv_aload_n hx hb dX7_number_141 rfl (lv_at hl 0 rfl) ?_
                      refine fa_getr (k := 397) (j := 403) CX HX2164 fl_X7_26 (by omega) rfl rfl hM.2.2.2.2.2.1 dX7_number_142 ?_
                      refine lv_iload hx hb dX7_number_145 (lv_at hl 4 rfl) ?_
                      refine lv_bipush (v := nI (10)) hx hb dX7_number_147 (by decide) ?_
                      refine lv_aload_n hx hb dX7_number_149 rfl (lv_at hl 0 rfl) ?_
                      refine fa_getr (k := 397) (j := 403) CX HX2164 fl_X7_26 (by omega) rfl rfl hM.2.2.2.2.2.1 dX7_number_150 ?_
                      refine lv_iload hx hb dX7_number_153 (lv_at hl 4 rfl) ?_
                      refine fa_iald (k := 403) (j := 4 * no + u) CX HX2164 (by omega) rfl (by omega) (by first | decide | assumption) dX7_number_155 ?_
                      refine lv_imul hx hb dX7_number_156 ?_
                      refine lv_aload_n hx hb dX7_number_157 rfl (lv_at hl 0 rfl) ?_
                      refine fa_getr (k := 397) (j := 405) CX HX2164 fl_X7_32 (by omega) rfl rfl hM.2.2.2.2.2.2.2 dX7_number_158 ?_
                      refine lv_aload_n hx hb dX7_number_161 rfl (lv_at hl 0 rfl) ?_
                      refine fa_geti (k := 397) CX HX2164 fl_X7_134 (by omega) rfl rfl dX7_number_162 ?_
                      rw [show v2160 397 12 = nI (mt) from hi_88.2.2.1]
                      refine fa_cald (k := 405) (j := mt) CX HX2164 (by omega) rfl (by omega) (by first | decide | assumption) dX7_number_165 ?_
                      refine lv_iadd hx hb dX7_number_166 ?_
                      refine lv_bipush (v := nI (48)) hx hb dX7_number_167 (by decide) ?_
                      refine lv_isub hx hb dX7_number_169 ?_
                      refine fa_iast (k := 403) (j := 4 * no + u) CX HX2164 (by omega) rfl (by omega) (by first | decide | assumption) dX7_number_170 (fun H locs v2165 e2166 HX2167 => ?_)
                      refine lv_aload_n hx hb dX7_number_171 rfl (lv_at hl 0 rfl) ?_
                      refine lv_dup hx hb dX7_number_172 rfl ?_
                      refine fa_geti (k := 397) CX HX2167 fl_X7_134 (by omega) rfl rfl dX7_number_173 ?_
                      rw [show v2165 397 12 = nI (mt) from (by rw [e2166, fa_u_n _ _ (by omega)]; exact hi_88.2.2.1)]
                      refine lv_iconst (v := nI (1)) hx hb dX7_number_176 (by decide) ?_
                      refine fa_iaddN hx hb dX7_number_177 ?_
                      refine fa_puti (k := 397) CX HX2167 fl_X7_134 (by omega) rfl rfl rfl rfl dX7_number_178 (fun H locs v2168 e2169 HX2170 => ?_)
                      refine lv_goto (tgt := 88) hx hb dX7_number_181 (by decide) ?_
                      exact ih_88 (mt + 1) (ok) v2168 _ _ _ (by omega) (⟨⟨by omega, by omega⟩, (Or.inr ⟨hk0, by omega, (by rw [(show v2168 403 (4 * no + u) = v2160 403 (4 * no + u) * nI 10 + fa_dg (fa_sg t n9 mt) from by rw [e2169, fa_u_k _ _ (by decide), e2166, fa_u_s, fa_dgeq hd0, ← fa_tens, ← congrFun hi_88.2.2.2.2.2.2 mt])]; exact fa_stepv hk2 hhi (let ⟨e, he, e1, _⟩ := fa_dg_ok _ hd0; ⟨e, he, e1⟩) (show v2160 403 (4 * no + u) * nI 10 + fa_dg (fa_sg t n9 mt) ≤ a3 from by rw [fa_dgeq hd0, ← fa_tens, ← congrFun hi_88.2.2.2.2.2.2 mt]; exact Int32.not_lt.mp c_138)), (by rw [(show v2168 403 (4 * no + u) = v2160 403 (4 * no + u) * nI 10 + fa_dg (fa_sg t n9 mt) from by rw [e2169, fa_u_k _ _ (by decide), e2166, fa_u_s, fa_dgeq hd0, ← fa_tens, ← congrFun hi_88.2.2.2.2.2.2 mt]), ← hk3, show mt + 1 - (na + 1) = mt - (na + 1) + 1 by omega]; exact fa_mre_s (by omega) hd0 (show ¬ v2160 403 (4 * no + u) = 0 from fun z => c_100 (by rw [z]; decide)) (show v2160 403 (4 * no + u) * nI 10 + fa_dg (fa_sg t n9 mt) ≤ a3 from by rw [fa_dgeq hd0, ← fa_tens, ← congrFun hi_88.2.2.2.2.2.2 mt]; exact Int32.not_lt.mp c_138))⟩), (by rw [e2169, fa_u_s]), (by rw [e2169, fa_u_n _ _ (by omega)]; exact (by rw [e2166, fa_u_n _ _ (by omega)]; exact hi_88.2.2.2.1)), (by rw [e2169]; exact fa_f3.w (by rw [e2166]; exact fa_f3.u (fa_f3.tr fa_f3.rf hi_88.2.2.2.2.1)) (by decide)), (fun i hi => by (show v2168 403 i = v 403 i; rw [e2169, fa_u_k _ _ (by decide), e2166, fa_u_n _ _ (by omega)]; exact hi_88.2.2.2.2.2.1 i hi)), (((congrFun e2169 405).trans (fa_u_k _ _ (by decide))).trans (((congrFun e2166 405).trans (fa_u_k _ _ (by decide))).trans hi_88.2.2.2.2.2.2))⟩) (lv_sub hl [0, 1, 2, 3, 4, 5] rfl) HX2170
          exact LOOP_88 (61 - (na + 1) + 1) (na + 1) (nI (1)) v2157 _ _ _ (Nat.lt_succ_self _) (⟨⟨by omega, by omega⟩, (Or.inr ⟨rfl, Nat.le_refl _, (by rw [(show v2157 403 (4 * no + u) = fa_dg (fa_sg t n9 na) from by rw [e2158, fa_u_k _ _ (by decide)]; exact hq)]; exact fa_dg_okv hd0 (by decide)), (by rw [(show v2157 403 (4 * no + u) = fa_dg (fa_sg t n9 na) from by rw [e2158, fa_u_k _ _ (by decide)]; exact hq), hnum.1, show na + 1 - (na + 1) = 0 by omega])⟩), (by rw [e2158, fa_u_s]), (by rw [e2158, fa_u_n _ _ (by omega)]; exact (by rw [e2141, fa_u_n _ _ (by omega)]; exact gO)), (by rw [e2158]; exact fa_f3.w (by rw [e2141]; exact fa_f3.u fa_f3.rf) (by decide)), (fun i hi => by (show v2157 403 i = v 403 i; rw [e2158, fa_u_k _ _ (by decide), e2141, fa_u_n _ _ (by omega)])), (((congrFun e2158 405).trans (fa_u_k _ _ (by decide))).trans (((congrFun e2141 405).trans (fa_u_k _ _ (by decide))).trans h5))⟩) (lv_sub hl [2, 3, 4, 5, 1, 0] rfl) HX2159
    · have hz : fa_dg (fa_sg t n9 na) < a2 ∨ ¬ fa_dg (fa_sg t n9 na) ≤ a3 := Or.inl (Decidable.not_not.mp (fun z => fa_ifn hxs (by first | exact c_27 | exact Decidable.not_not.mp c_27) ((fa_num_dig hlo hdd).mpr z)))
      refine lv_iconst (v := nI (0)) hx hb dX7_number_30 (by decide) ?_
      exact RET _ _ _ _ _ _ _ HX2139 dX7_number_31 (by decide) (⟨rfl, ⟨⟨(by rw [fa_num_f hz]; exact (if_neg fa_n1).symm), na, no, ⟨by omega, by omega, by omega, fa_is.mk (by rw [fa_num_f hz]), fa_is.mk rfl⟩, (show v 397 12 = nI (na) from gA), (show v 397 11 = nI (no) from gO), (show fa_f3 v v from fa_f3.rf), ⟨(fun z => absurd z (by rw [fa_num_f hz]; exact fa_n1)), (fun i hi => rfl)⟩⟩, fa_fr.rf⟩⟩)
  · have hdd : fa_dd a2 (nI 48) := Or.inl ⟨(by first | exact c_12 | exact Decidable.not_not.mp c_12), rfl⟩
    refine lv_bipush (v := nI (48)) hx hb dX7_number_15 (by decide) ?_
    refine lv_goto (tgt := 22) hx hb dX7_number_17 (by decide) ?_
    refine lv_bipush (v := nI (57)) hx hb dX7_number_22 (by decide) ?_
    refine fa_callVip (As := [.int (nI (48)), .int (nI (57))]) (rest := []) CX HX (r_isSign l G n hn v r hM (n9) (na) (no) (by omega) (by omega) (by omega) g9 gA gO t h5 (nI (48)) (nI (57))) ln_X7_137 (by omega) rfl rfl rfl rfl (Nat.le_of_ble_eq_true rfl) hl.1 ⟨Nat.le_of_ble_eq_true rfl, Nat.le_of_ble_eq_true rfl⟩ ⟨Nat.le_refl _, Nat.le_refl _⟩ dX7_number_24 (fun x2172 H locs h2171 HX2173 => ?_)
    have hx_x2172 := h2171
    have hxs := hx_x2172
    refine lv_if_ne (tgt := 32) hx hb dX7_number_27 (by decide) (fun c_27 => ?_) (fun c_27 => ?_)
    · have hdig := (fa_num_dig hlo hdd).mp (fa_ift hxs c_27)
      have hd0 := fa_num_lo hlo hdig
      have hlt := fa_dg_lt hd0
      refine lv_aload_n hx hb dX7_number_32 rfl (lv_at hl 1 rfl) ?_
      refine fa_getr (k := 397) (j := 403) CX HX2173 fl_X7_26 (by omega) rfl rfl hM.2.2.2.2.2.1 dX7_number_33 ?_
      refine lv_iload hx hb dX7_number_36 (lv_at hl 0 rfl) ?_
      refine lv_aload_n hx hb dX7_number_38 rfl (lv_at hl 1 rfl) ?_
      refine fa_getr (k := 397) (j := 405) CX HX2173 fl_X7_32 (by omega) rfl rfl hM.2.2.2.2.2.2.2 dX7_number_39 ?_
      refine lv_aload_n hx hb dX7_number_42 rfl (lv_at hl 1 rfl) ?_
      refine fa_geti (k := 397) CX HX2173 fl_X7_134 (by omega) rfl rfl dX7_number_43 ?_
      rw [show v 397 12 = nI (na) from gA]
      refine fa_cald (k := 405) (j := na) CX HX2173 (by omega) rfl (by omega) (by first | decide | assumption) dX7_number_46 ?_
      refine lv_bipush (v := nI (48)) hx hb dX7_number_47 (by decide) ?_
      refine lv_isub hx hb dX7_number_49 ?_
      refine fa_iast (k := 403) (j := 4 * no + u) CX HX2173 (by omega) rfl (by omega) (by first | decide | assumption) dX7_number_50 (fun H locs v2174 e2175 HX2176 => ?_)
      have hq : v2174 403 (4 * no + u) = fa_dg (fa_sg t n9 na) := by rw [e2175, fa_u_s, fa_dgeq hd0, ← congrFun h5 na]
      refine lv_aload_n hx hb dX7_number_51 rfl (lv_at hl 1 rfl) ?_
      refine fa_getr (k := 397) (j := 403) CX HX2176 fl_X7_26 (by omega) rfl rfl hM.2.2.2.2.2.1 dX7_number_52 ?_
      refine lv_iload hx hb dX7_number_55 (lv_at hl 0 rfl) ?_
      refine fa_iald (k := 403) (j := 4 * no + u) CX HX2176 (by omega) rfl (by omega) (by first | decide | assumption) dX7_number_57 ?_
      refine lv_iload_n hx hb dX7_number_58 rfl (lv_at hl 4 rfl) ?_
      refine lv_icmp_gt (tgt := 66) hx hb dX7_number_59 (by decide) (fun c_59 => ?_) (fun c_59 => ?_)
      · have hz : fa_dg (fa_sg t n9 na) < a2 ∨ ¬ fa_dg (fa_sg t n9 na) ≤ a3 := Or.inr (by
          rw [← hq]
          exact Int32.not_le.mpr c_59)
        refine lv_iconst (v := nI (0)) hx hb dX7_number_66 (by decide) ?_
        refine lv_istore (lv' := [(5, .int (nI (0))), (4, .int (nI (4 * no + u))), (0, .ref (fa_B G + (397))), (1, .int (nI (u))), (2, .int (a2)), (3, .int (a3))]) hx hb dX7_number_67 hl (by decide) rfl (fun ls hl => ?_)
        refine lv_aload_n hx hb dX7_number_69 rfl (lv_at hl 2 rfl) ?_
        refine lv_dup hx hb dX7_number_70 rfl ?_
        refine fa_geti (k := 397) CX HX2176 fl_X7_134 (by omega) rfl rfl dX7_number_71 ?_
        rw [show v2174 397 12 = nI (na) from (by rw [e2175, fa_u_n _ _ (by omega)]; exact gA)]
        refine lv_iload hx hb dX7_number_74 (lv_at hl 0 rfl) ?_
        refine lv_if_eq (tgt := 83) hx hb dX7_number_76 (by decide) (fun c_76 => ?_) (fun c_76 => ?_)
        · refine lv_iconst (v := nI (0)) hx hb dX7_number_83 (by decide) ?_
          refine fa_iaddN hx hb dX7_number_84 ?_
          refine fa_puti (k := 397) CX HX2176 fl_X7_134 (by omega) rfl rfl rfl rfl dX7_number_85 (fun H locs v2177 e2178 HX2179 => ?_)
          have LOOP_88 : ∀ (fu : Nat) (mt : Nat) (ok : Int32) (v2180 : fa_V) (H : Heap) (locs : List Loc) (ls : Array Slot), 61 - mt < fu → ((na ≤ mt ∧ mt ≤ n9) ∧ ((ok = nI 0 ∧ mt = na ∧ fa_num (fa_sg t n9) a2 a3 na = ((-1 : Int32), na)) ∨ (ok = nI 1 ∧ na + 1 ≤ mt ∧ fa_okv 400 (v2180 403 (4 * no + u)) ∧ fa_mre (fa_sg t n9) a3 (60 - (mt - (na + 1))) (v2180 403 (4 * no + u)) mt = fa_num (fa_sg t n9) a2 a3 na)) ∧ v2180 397 12 = nI mt ∧ v2180 397 11 = nI no ∧ fa_f3 v v2180 ∧ (∀ i, ¬ i = (4 * no + u) → v2180 403 i = v 403 i) ∧ v2180 405 = t) → lv_has ls 6 [(0, .ref (fa_B G + (397))), (1, .int (nI (u))), (2, .int (a2)), (3, .int (a3)), (4, .int (nI (4 * no + u))), (5, .int (ok))] → fa_HX G (n) v2180 r s H locs → W p l e (fa_rm 3) s m args below meth c H locs (0) (0) Q (F0 m 88 ls []) := by
            intro fu
            induction fu with
            | zero => intro mt ok v2180 H locs ls hk; exact absurd hk (Nat.not_lt_zero _)
            | succ fu ih_88 =>
              intro mt ok v2180 H locs ls hk_88 hi_88 hl HX2181
              refine lv_iload hx hb dX7_number_88 (lv_at hl 5 rfl) ?_
              refine lv_if_eq (tgt := 184) hx hb dX7_number_90 (by decide) (fun c_90 => ?_) (fun c_90 => ?_)
              · obtain ⟨hk0, hk1, hk2⟩ := hi_88.2.1.resolve_right (fun z => by
                  rw [z.1] at c_90
                  exact absurd c_90 (by decide))
                refine lv_iload hx hb dX7_number_184 (lv_at hl 5 rfl) ?_
                exact RET _ _ _ _ _ _ _ HX2181 dX7_number_186 (by rw [hk0]; decide) (⟨rfl, ⟨⟨(by rw [hk0, hk2]; exact (if_neg fa_n1).symm), mt, no, ⟨by omega, by omega, by omega, fa_is.mk (by rw [hk2]; exact hk1), fa_is.mk rfl⟩, (show v2180 397 12 = nI (mt) from hi_88.2.2.1), (show v2180 397 11 = nI (no) from hi_88.2.2.2.1), (show fa_f3 v v2180 from (fa_f3.tr fa_f3.rf hi_88.2.2.2.2.1)), ⟨(fun z => absurd z (by rw [hk2]; exact fa_n1)), (fun i hi => by (show v2180 403 i = v 403 i; exact hi_88.2.2.2.2.2.1 i hi))⟩⟩, (fa_fr.tr fa_fr.rf (fa_fr.wide (fa_f3.fr hi_88.2.2.2.2.1) (by omega) (by omega)))⟩⟩)
              · obtain ⟨hk0, hk1, hk2, hk3⟩ := hi_88.2.1.resolve_left (fun z => c_90 (by
                  rw [z.1]
                  decide))
                refine lv_aload_n hx hb dX7_number_93 rfl (lv_at hl 0 rfl) ?_
                refine fa_getr (k := 397) (j := 403) CX HX2181 fl_X7_26 (by omega) rfl rfl hM.2.2.2.2.2.1 dX7_number_94 ?_
                refine lv_iload hx hb dX7_number_97 (lv_at hl 4 rfl) ?_
                refine fa_iald (k := 403) (j := 4 * no + u) CX HX2181 (by omega) rfl (by omega) (by first | decide | assumption) dX7_number_99 ?_
                refine lv_if_le (tgt := 184) hx hb dX7_number_100 (by decide) (fun c_100 => ?_) (fun c_100 => ?_)
                · refine lv_iload hx hb dX7_number_184 (lv_at hl 5 rfl) ?_
                  exact RET _ _ _ _ _ _ _ HX2181 dX7_number_186 (by rw [hk0]; decide) (⟨rfl, ⟨⟨(by rw [hk0, ← hk3, fa_mre_e (Or.inr (Or.inl (fa_le0 hk2 (by decide) c_100))) _, if_pos (hk2.pos (by decide))]), mt, no, ⟨by omega, by omega, by omega, fa_is.mk (by rw [← hk3, fa_mre_e (Or.inr (Or.inl (fa_le0 hk2 (by decide) c_100))) _]), fa_is.mk rfl⟩, (show v2180 397 12 = nI (mt) from hi_88.2.2.1), (show v2180 397 11 = nI (no) from hi_88.2.2.2.1), (show fa_f3 v v2180 from (fa_f3.tr fa_f3.rf hi_88.2.2.2.2.1)), ⟨(fun _ => by rw [← hk3, fa_mre_e (Or.inr (Or.inl (fa_le0 hk2 (by decide) c_100))) _]), (fun i hi => by (show v2180 403 i = v 403 i; exact hi_88.2.2.2.2.2.1 i hi))⟩⟩, (fa_fr.tr fa_fr.rf (fa_fr.wide (fa_f3.fr hi_88.2.2.2.2.1) (by omega) (by omega)))⟩⟩)
                · refine lv_aload_n hx hb dX7_number_103 rfl (lv_at hl 0 rfl) ?_
                  refine lv_bipush (v := nI (48)) hx hb dX7_number_104 (by decide) ?_
                  refine lv_bipush (v := nI (57)) hx hb dX7_number_106 (by decide) ?_
                  refine fa_callVip (As := [.int (nI (48)), .int (nI (57))]) (rest := []) CX HX2181 (r_isSign l G n hn v2180 r hM (n9) (mt) (no) (by omega) (by omega) (by omega) ((hi_88.2.2.2.2.1.2 9 (by decide) (by decide)).trans g9) hi_88.2.2.1 hi_88.2.2.2.1 t hi_88.2.2.2.2.2.2 (nI (48)) (nI (57))) ln_X7_137 (by omega) rfl rfl rfl rfl (Nat.le_of_ble_eq_true rfl) hl.1 ⟨Nat.le_of_ble_eq_true rfl, Nat.le_of_ble_eq_true rfl⟩ ⟨Nat.le_refl _, Nat.le_refl _⟩ dX7_number_108 (fun x2183 H locs h2182 HX2184 => ?_)
                  have hx_x2183 := h2182
                  have hxs2 := hx_x2183
                  refine lv_if_eq (tgt := 184) hx hb dX7_number_111 (by decide) (fun c_111 => ?_) (fun c_111 => ?_)
                  · refine lv_iload hx hb dX7_number_184 (lv_at hl 5 rfl) ?_
                    exact RET _ _ _ _ _ _ _ HX2184 dX7_number_186 (by rw [hk0]; decide) (⟨rfl, ⟨⟨(by rw [hk0, ← hk3, fa_mre_e (Or.inl (Decidable.not_not.mp (fun z => fa_ifn hxs2 c_111 (fa_dig2.mpr z)))) _, if_pos (hk2.pos (by decide))]), mt, no, ⟨by omega, by omega, by omega, fa_is.mk (by rw [← hk3, fa_mre_e (Or.inl (Decidable.not_not.mp (fun z => fa_ifn hxs2 c_111 (fa_dig2.mpr z)))) _]), fa_is.mk rfl⟩, (show v2180 397 12 = nI (mt) from hi_88.2.2.1), (show v2180 397 11 = nI (no) from hi_88.2.2.2.1), (show fa_f3 v v2180 from (fa_f3.tr fa_f3.rf hi_88.2.2.2.2.1)), ⟨(fun _ => by rw [← hk3, fa_mre_e (Or.inl (Decidable.not_not.mp (fun z => fa_ifn hxs2 c_111 (fa_dig2.mpr z)))) _]), (fun i hi => by (show v2180 403 i = v 403 i; exact hi_88.2.2.2.2.2.1 i hi))⟩⟩, (fa_fr.tr fa_fr.rf (fa_fr.wide (fa_f3.fr hi_88.2.2.2.2.1) (by omega) (by omega)))⟩⟩)
                  · have hd0 : ¬ fa_dg (fa_sg t n9 mt) < 0 := fa_dig2.mp (fa_ift hxs2 c_111)
                    have hlt2 := fa_dg_lt hd0
                    refine lv_bipush (v := nI (10)) hx hb dX7_number_114 (by decide) ?_
                    refine lv_aload_n hx hb dX7_number_116 rfl (lv_at hl 0 rfl) ?_
                    refine fa_getr (k := 397) (j := 403) CX HX2184 fl_X7_26 (by omega) rfl rfl hM.2.2.2.2.2.1 dX7_number_117 ?_
                    refine lv_iload hx hb dX7_number_120 (lv_at hl 4 rfl) ?_
                    refine fa_iald (k := 403) (j := 4 * no + u) CX HX2184 (by omega) rfl (by omega) (by first | decide | assumption) dX7_number_122 ?_
                    refine lv_imul hx hb dX7_number_123 ?_
                    refine lv_aload_n hx hb dX7_number_124 rfl (lv_at hl 0 rfl) ?_
                    refine fa_getr (k := 397) (j := 405) CX HX2184 fl_X7_32 (by omega) rfl rfl hM.2.2.2.2.2.2.2 dX7_number_125 ?_
                    refine lv_aload_n hx hb dX7_number_128 rfl (lv_at hl 0 rfl) ?_
                    refine fa_geti (k := 397) CX HX2184 fl_X7_134 (by omega) rfl rfl dX7_number_129 ?_
                    rw [show v2180 397 12 = nI (mt) from hi_88.2.2.1]
                    refine fa_cald (k := 405) (j := mt) CX HX2184 (by omega) rfl (by omega) (by first | decide | assumption) dX7_number_132 ?_
                    refine lv_iadd hx hb dX7_number_133 ?_
                    refine lv_bipush (v := nI (48)) hx hb dX7_number_134 (by decide) ?_
                    refine lv_isub hx hb dX7_number_136 ?_
                    refine lv_iload_n hx hb dX7_number_137 rfl (lv_at hl 3 rfl) ?_
                    refine lv_icmp_gt (tgt := 184) hx hb dX7_number_138 (by decide) (fun c_138 => ?_) (fun c_138 => ?_)
                    · refine lv_iload hx hb dX7_number_184 (lv_at hl 5 rfl) ?_
                      exact RET _ _ _ _ _ _ _ HX2184 dX7_number_186 (by rw [hk0]; decide) (⟨rfl, ⟨⟨(by rw [hk0, ← hk3, fa_mre_e (Or.inr (Or.inr (by rw [fa_dgeq hd0, ← fa_tens, ← congrFun hi_88.2.2.2.2.2.2 mt]; exact Int32.not_le.mpr c_138))) _, if_pos (hk2.pos (by decide))]), mt, no, ⟨by omega, by omega, by omega, fa_is.mk (by rw [← hk3, fa_mre_e (Or.inr (Or.inr (by rw [fa_dgeq hd0, ← fa_tens, ← congrFun hi_88.2.2.2.2.2.2 mt]; exact Int32.not_le.mpr c_138))) _]), fa_is.mk rfl⟩, (show v2180 397 12 = nI (mt) from hi_88.2.2.1), (show v2180 397 11 = nI (no) from hi_88.2.2.2.1), (show fa_f3 v v2180 from (fa_f3.tr fa_f3.rf hi_88.2.2.2.2.1)), ⟨(fun _ => by rw [← hk3, fa_mre_e (Or.inr (Or.inr (by rw [fa_dgeq hd0, ← fa_tens, ← congrFun hi_88.2.2.2.2.2.2 mt]; exact Int32.not_le.mpr c_138))) _]), (fun i hi => by (show v2180 403 i = v 403 i; exact hi_88.2.2.2.2.2.1 i hi))⟩⟩, (fa_fr.tr fa_fr.rf (fa_fr.wide (fa_f3.fr hi_88.2.2.2.2.1) (by omega) (by omega)))⟩⟩)
                    · refine lv_aload_n hx hb dX7_number_141 rfl (lv_at hl 0 rfl) ?_
                      refine fa_getr (k := 397) (j := 403) CX HX2184 fl_X7_26 (by omega) rfl rfl hM.2.2.2.2.2.1 dX7_number_142 ?_
                      refine lv_iload hx hb dX7_number_145 (lv_at hl 4 rfl) ?_
                      refine lv_bipush (v := nI (10)) hx hb dX7_number_147 (by decide) ?_
                      refine lv_aload_n hx hb dX7_number_149 rfl (lv_at hl 0 rfl) ?_
                      refine fa_getr (k := 397) (j := 403) CX HX2184 fl_X7_26 (by omega) rfl rfl hM.2.2.2.2.2.1 dX7_number_150 ?_
                      refine lv_iload hx hb dX7_number_153 (lv_at hl 4 rfl) ?_
                      refine fa_iald (k := 403) (j := 4 * no + u) CX HX2184 (by omega) rfl (by omega) (by first | decide | assumption) dX7_number_155 ?_
                      refine lv_imul hx hb dX7_number_156 ?_
                      refine lv_aload_n hx hb dX7_number_157 rfl (lv_at hl 0 rfl) ?_
                      refine fa_getr (k := 397) (j := 405) CX HX2184 fl_X7_32 (by omega) rfl rfl hM.2.2.2.2.2.2.2 dX7_number_158 ?_
                      refine lv_aload_n hx hb dX7_number_161 rfl (lv_at hl 0 rfl) ?_
                      refine fa_geti (k := 397) CX HX2184 fl_X7_134 (by omega) rfl rfl dX7_number_162 ?_
                      rw [show v2180 397 12 = nI (mt) from hi_88.2.2.1]
                      refine fa_cald (k := 405) (j := mt) CX HX2184 (by omega) rfl (by omega) (by first | decide | assumption) dX7_number_165 ?_
                      refine lv_iadd hx hb dX7_number_166 ?_
                      refine lv_bipush (v := nI (48)) hx hb dX7_number_167 (by decide) ?_
                      refine lv_isub hx hb dX7_number_169 ?_
                      refine fa_iast (k := 403) (j := 4 * no + u) CX HX2184 (by omega) rfl (by omega) (by first | decide | assumption) dX7_number_170 (fun H locs v2185 e2186 HX2187 => ?_)
                      refine lv_aload_n hx hb dX7_number_171 rfl (lv_at hl 0 rfl) ?_
                      refine lv_dup hx hb dX7_number_172 rfl ?_
                      refine fa_geti (k := 397) CX HX2187 fl_X7_134 (by omega) rfl rfl dX7_number_173 ?_
                      rw [show v2185 397 12 = nI (mt) from (by rw [e2186, fa_u_n _ _ (by omega)]; exact hi_88.2.2.1)]
                      refine lv_iconst (v := nI (1)) hx hb dX7_number_176 (by decide) ?_
                      refine fa_iaddN hx hb dX7_number_177 ?_
                      refine fa_puti (k := 397) CX HX2187 fl_X7_134 (by omega) rfl rfl rfl rfl dX7_number_178 (fun H locs v2188 e2189 HX2190 => ?_)
                      refine lv_goto (tgt := 88) hx hb dX7_number_181 (by decide) ?_
                      exact ih_88 (mt + 1) (ok) v2188 _ _ _ (by omega) (⟨⟨by omega, by omega⟩, (Or.inr ⟨hk0, by omega, (by rw [(show v2188 403 (4 * no + u) = v2180 403 (4 * no + u) * nI 10 + fa_dg (fa_sg t n9 mt) from by rw [e2189, fa_u_k _ _ (by decide), e2186, fa_u_s, fa_dgeq hd0, ← fa_tens, ← congrFun hi_88.2.2.2.2.2.2 mt])]; exact fa_stepv hk2 hhi (let ⟨e, he, e1, _⟩ := fa_dg_ok _ hd0; ⟨e, he, e1⟩) (show v2180 403 (4 * no + u) * nI 10 + fa_dg (fa_sg t n9 mt) ≤ a3 from by rw [fa_dgeq hd0, ← fa_tens, ← congrFun hi_88.2.2.2.2.2.2 mt]; exact Int32.not_lt.mp c_138)), (by rw [(show v2188 403 (4 * no + u) = v2180 403 (4 * no + u) * nI 10 + fa_dg (fa_sg t n9 mt) from by rw [e2189, fa_u_k _ _ (by decide), e2186, fa_u_s, fa_dgeq hd0, ← fa_tens, ← congrFun hi_88.2.2.2.2.2.2 mt]), ← hk3, show mt + 1 - (na + 1) = mt - (na + 1) + 1 by omega]; exact fa_mre_s (by omega) hd0 (show ¬ v2180 403 (4 * no + u) = 0 from fun z => c_100 (by rw [z]; decide)) (show v2180 403 (4 * no + u) * nI 10 + fa_dg (fa_sg t n9 mt) ≤ a3 from by rw [fa_dgeq hd0, ← fa_tens, ← congrFun hi_88.2.2.2.2.2.2 mt]; exact Int32.not_lt.mp c_138))⟩), (by rw [e2189, fa_u_s]), (by rw [e2189, fa_u_n _ _ (by omega)]; exact (by rw [e2186, fa_u_n _ _ (by omega)]; exact hi_88.2.2.2.1)), (by rw [e2189]; exact fa_f3.w (by rw [e2186]; exact fa_f3.u (fa_f3.tr fa_f3.rf hi_88.2.2.2.2.1)) (by decide)), (fun i hi => by (show v2188 403 i = v 403 i; rw [e2189, fa_u_k _ _ (by decide), e2186, fa_u_n _ _ (by omega)]; exact hi_88.2.2.2.2.2.1 i hi)), (((congrFun e2189 405).trans (fa_u_k _ _ (by decide))).trans (((congrFun e2186 405).trans (fa_u_k _ _ (by decide))).trans hi_88.2.2.2.2.2.2))⟩) (lv_sub hl [0, 1, 2, 3, 4, 5] rfl) HX2190
          exact LOOP_88 (61 - (na + 0) + 1) (na + 0) (nI (0)) v2177 _ _ _ (Nat.lt_succ_self _) (⟨⟨by omega, by omega⟩, (Or.inl ⟨rfl, rfl, fa_num_f hz⟩), (by rw [e2178, fa_u_s]), (by rw [e2178, fa_u_n _ _ (by omega)]; exact (by rw [e2175, fa_u_n _ _ (by omega)]; exact gO)), (by rw [e2178]; exact fa_f3.w (by rw [e2175]; exact fa_f3.u fa_f3.rf) (by decide)), (fun i hi => by (show v2177 403 i = v 403 i; rw [e2178, fa_u_k _ _ (by decide), e2175, fa_u_n _ _ (by omega)])), (((congrFun e2178 405).trans (fa_u_k _ _ (by decide))).trans (((congrFun e2175 405).trans (fa_u_k _ _ (by decide))).trans h5))⟩) (lv_sub hl [2, 3, 4, 5, 1, 0] rfl) HX2179
        · exact absurd (by try decide) c_76
      · have hnum := fa_num_t (t := t) (n := n9) (a := na) hlo hhi (by
          rw [← hq]
          exact fun z => z.elim (by
            rw [hq]
            exact hdig) (fun z => z (Int32.not_lt.mp c_59)))
        refine lv_iconst (v := nI (1)) hx hb dX7_number_62 (by decide) ?_
        refine lv_goto (tgt := 67) hx hb dX7_number_63 (by decide) ?_
        refine lv_istore (lv' := [(5, .int (nI (1))), (4, .int (nI (4 * no + u))), (0, .ref (fa_B G + (397))), (1, .int (nI (u))), (2, .int (a2)), (3, .int (a3))]) hx hb dX7_number_67 hl (by decide) rfl (fun ls hl => ?_)
        refine lv_aload_n hx hb dX7_number_69 rfl (lv_at hl 2 rfl) ?_
        refine lv_dup hx hb dX7_number_70 rfl ?_
        refine fa_geti (k := 397) CX HX2176 fl_X7_134 (by omega) rfl rfl dX7_number_71 ?_
        rw [show v2174 397 12 = nI (na) from (by rw [e2175, fa_u_n _ _ (by omega)]; exact gA)]
        refine lv_iload hx hb dX7_number_74 (lv_at hl 0 rfl) ?_
        refine lv_if_eq (tgt := 83) hx hb dX7_number_76 (by decide) (fun c_76 => ?_) (fun c_76 => ?_)
        · exact absurd c_76 (by try decide)
        · refine lv_iconst (v := nI (1)) hx hb dX7_number_79 (by decide) ?_
          refine lv_goto (tgt := 84) hx hb dX7_number_80 (by decide) ?_
          refine fa_iaddN hx hb dX7_number_84 ?_
          refine fa_puti (k := 397) CX HX2176 fl_X7_134 (by omega) rfl rfl rfl rfl dX7_number_85 (fun H locs v2191 e2192 HX2193 => ?_)
          have LOOP_88 : ∀ (fu : Nat) (mt : Nat) (ok : Int32) (v2194 : fa_V) (H : Heap) (locs : List Loc) (ls : Array Slot), 61 - mt < fu → ((na ≤ mt ∧ mt ≤ n9) ∧ ((ok = nI 0 ∧ mt = na ∧ fa_num (fa_sg t n9) a2 a3 na = ((-1 : Int32), na)) ∨ (ok = nI 1 ∧ na + 1 ≤ mt ∧ fa_okv 400 (v2194 403 (4 * no + u)) ∧ fa_mre (fa_sg t n9) a3 (60 - (mt - (na + 1))) (v2194 403 (4 * no + u)) mt = fa_num (fa_sg t n9) a2 a3 na)) ∧ v2194 397 12 = nI mt ∧ v2194 397 11 = nI no ∧ fa_f3 v v2194 ∧ (∀ i, ¬ i = (4 * no + u) → v2194 403 i = v 403 i) ∧ v2194 405 = t) → lv_has ls 6 [(0, .ref (fa_B G + (397))), (1, .int (nI (u))), (2, .int (a2)), (3, .int (a3)), (4, .int (nI (4 * no + u))), (5, .int (ok))] → fa_HX G (n) v2194 r s H locs → W p l e (fa_rm 3) s m args below meth c H locs (0) (0) Q (F0 m 88 ls []) := by
            intro fu
            induction fu with
            | zero => intro mt ok v2194 H locs ls hk; exact absurd hk (Nat.not_lt_zero _)
            | succ fu ih_88 =>
              intro mt ok v2194 H locs ls hk_88 hi_88 hl HX2195
              refine lv_iload hx hb dX7_number_88 (lv_at hl 5 rfl) ?_
              refine lv_if_eq (tgt := 184) hx hb dX7_number_90 (by decide) (fun c_90 => ?_) (fun c_90 => ?_)
              · obtain ⟨hk0, hk1, hk2⟩ := hi_88.2.1.resolve_right (fun z => by
                  rw [z.1] at c_90
                  exact absurd c_90 (by decide))
                refine lv_iload hx hb dX7_number_184 (lv_at hl 5 rfl) ?_
                exact RET _ _ _ _ _ _ _ HX2195 dX7_number_186 (by rw [hk0]; decide) (⟨rfl, ⟨⟨(by rw [hk0, hk2]; exact (if_neg fa_n1).symm), mt, no, ⟨by omega, by omega, by omega, fa_is.mk (by rw [hk2]; exact hk1), fa_is.mk rfl⟩, (show v2194 397 12 = nI (mt) from hi_88.2.2.1), (show v2194 397 11 = nI (no) from hi_88.2.2.2.1), (show fa_f3 v v2194 from (fa_f3.tr fa_f3.rf hi_88.2.2.2.2.1)), ⟨(fun z => absurd z (by rw [hk2]; exact fa_n1)), (fun i hi => by (show v2194 403 i = v 403 i; exact hi_88.2.2.2.2.2.1 i hi))⟩⟩, (fa_fr.tr fa_fr.rf (fa_fr.wide (fa_f3.fr hi_88.2.2.2.2.1) (by omega) (by omega)))⟩⟩)
              · obtain ⟨hk0, hk1, hk2, hk3⟩ := hi_88.2.1.resolve_left (fun z => c_90 (by
                  rw [z.1]
                  decide))
                refine lv_aload_n hx hb dX7_number_93 rfl (lv_at hl 0 rfl) ?_
                refine fa_getr (k := 397) (j := 403) CX HX2195 fl_X7_26 (by omega) rfl rfl hM.2.2.2.2.2.1 dX7_number_94 ?_
                refine lv_iload hx hb dX7_number_97 (lv_at hl 4 rfl) ?_
                refine fa_iald (k := 403) (j := 4 * no + u) CX HX2195 (by omega) rfl (by omega) (by first | decide | assumption) dX7_number_99 ?_
                refine lv_if_le (tgt := 184) hx hb dX7_number_100 (by decide) (fun c_100 => ?_) (fun c_100 => ?_)
                · refine lv_iload hx hb dX7_number_184 (lv_at hl 5 rfl) ?_
                  exact RET _ _ _ _ _ _ _ HX2195 dX7_number_186 (by rw [hk0]; decide) (⟨rfl, ⟨⟨(by rw [hk0, ← hk3, fa_mre_e (Or.inr (Or.inl (fa_le0 hk2 (by decide) c_100))) _, if_pos (hk2.pos (by decide))]), mt, no, ⟨by omega, by omega, by omega, fa_is.mk (by rw [← hk3, fa_mre_e (Or.inr (Or.inl (fa_le0 hk2 (by decide) c_100))) _]), fa_is.mk rfl⟩, (show v2194 397 12 = nI (mt) from hi_88.2.2.1), (show v2194 397 11 = nI (no) from hi_88.2.2.2.1), (show fa_f3 v v2194 from (fa_f3.tr fa_f3.rf hi_88.2.2.2.2.1)), ⟨(fun _ => by rw [← hk3, fa_mre_e (Or.inr (Or.inl (fa_le0 hk2 (by decide) c_100))) _]), (fun i hi => by (show v2194 403 i = v 403 i; exact hi_88.2.2.2.2.2.1 i hi))⟩⟩, (fa_fr.tr fa_fr.rf (fa_fr.wide (fa_f3.fr hi_88.2.2.2.2.1) (by omega) (by omega)))⟩⟩)
                · refine lv_aload_n hx hb dX7_number_103 rfl (lv_at hl 0 rfl) ?_
                  refine lv_bipush (v := nI (48)) hx hb dX7_number_104 (by decide) ?_
                  refine lv_bipush (v := nI (57)) hx hb dX7_number_106 (by decide) ?_
                  refine fa_callVip (As := [.int (nI (48)), .int (nI (57))]) (rest := []) CX HX2195 (r_isSign l G n hn v2194 r hM (n9) (mt) (no) (by omega) (by omega) (by omega) ((hi_88.2.2.2.2.1.2 9 (by decide) (by decide)).trans g9) hi_88.2.2.1 hi_88.2.2.2.1 t hi_88.2.2.2.2.2.2 (nI (48)) (nI (57))) ln_X7_137 (by omega) rfl rfl rfl rfl (Nat.le_of_ble_eq_true rfl) hl.1 ⟨Nat.le_of_ble_eq_true rfl, Nat.le_of_ble_eq_true rfl⟩ ⟨Nat.le_refl _, Nat.le_refl _⟩ dX7_number_108 (fun x2197 H locs h2196 HX2198 => ?_)
                  have hx_x2197 := h2196
                  have hxs2 := hx_x2197
                  refine lv_if_eq (tgt := 184) hx hb dX7_number_111 (by decide) (fun c_111 => ?_) (fun c_111 => ?_)
                  · refine lv_iload hx hb dX7_number_184 (lv_at hl 5 rfl) ?_
                    exact RET _ _ _ _ _ _ _ HX2198 dX7_number_186 (by rw [hk0]; decide) (⟨rfl, ⟨⟨(by rw [hk0, ← hk3, fa_mre_e (Or.inl (Decidable.not_not.mp (fun z => fa_ifn hxs2 c_111 (fa_dig2.mpr z)))) _, if_pos (hk2.pos (by decide))]), mt, no, ⟨by omega, by omega, by omega, fa_is.mk (by rw [← hk3, fa_mre_e (Or.inl (Decidable.not_not.mp (fun z => fa_ifn hxs2 c_111 (fa_dig2.mpr z)))) _]), fa_is.mk rfl⟩, (show v2194 397 12 = nI (mt) from hi_88.2.2.1), (show v2194 397 11 = nI (no) from hi_88.2.2.2.1), (show fa_f3 v v2194 from (fa_f3.tr fa_f3.rf hi_88.2.2.2.2.1)), ⟨(fun _ => by rw [← hk3, fa_mre_e (Or.inl (Decidable.not_not.mp (fun z => fa_ifn hxs2 c_111 (fa_dig2.mpr z)))) _]), (fun i hi => by (show v2194 403 i = v 403 i; exact hi_88.2.2.2.2.2.1 i hi))⟩⟩, (fa_fr.tr fa_fr.rf (fa_fr.wide (fa_f3.fr hi_88.2.2.2.2.1) (by omega) (by omega)))⟩⟩)
                  · have hd0 : ¬ fa_dg (fa_sg t n9 mt) < 0 := fa_dig2.mp (fa_ift hxs2 c_111)
                    have hlt2 := fa_dg_lt hd0
                    refine lv_bipush (v := nI (10)) hx hb dX7_number_114 (by decide) ?_
                    refine lv_aload_n hx hb dX7_number_116 rfl (lv_at hl 0 rfl) ?_
                    refine fa_getr (k := 397) (j := 403) CX HX2198 fl_X7_26 (by omega) rfl rfl hM.2.2.2.2.2.1 dX7_number_117 ?_
                    refine lv_iload hx hb dX7_number_120 (lv_at hl 4 rfl) ?_
                    refine fa_iald (k := 403) (j := 4 * no + u) CX HX2198 (by omega) rfl (by omega) (by first | decide | assumption) dX7_number_122 ?_
                    refine lv_imul hx hb dX7_number_123 ?_
                    refine lv_aload_n hx hb dX7_number_124 rfl (lv_at hl 0 rfl) ?_
                    refine fa_getr (k := 397) (j := 405) CX HX2198 fl_X7_32 (by omega) rfl rfl hM.2.2.2.2.2.2.2 dX7_number_125 ?_
                    refine lv_aload_n hx hb dX7_number_128 rfl (lv_at hl 0 rfl) ?_
                    refine fa_geti (k := 397) CX HX2198 fl_X7_134 (by omega) rfl rfl dX7_number_129 ?_
                    rw [show v2194 397 12 = nI (mt) from hi_88.2.2.1]
                    refine fa_cald (k := 405) (j := mt) CX HX2198 (by omega) rfl (by omega) (by first | decide | assumption) dX7_number_132 ?_
                    refine lv_iadd hx hb dX7_number_133 ?_
                    refine lv_bipush (v := nI (48)) hx hb dX7_number_134 (by decide) ?_
                    refine lv_isub hx hb dX7_number_136 ?_
                    refine lv_iload_n hx hb dX7_number_137 rfl (lv_at hl 3 rfl) ?_
                    refine lv_icmp_gt (tgt := 184) hx hb dX7_number_138 (by decide) (fun c_138 => ?_) (fun c_138 => ?_)
                    · refine lv_iload hx hb dX7_number_184 (lv_at hl 5 rfl) ?_
                      exact RET _ _ _ _ _ _ _ HX2198 dX7_number_186 (by rw [hk0]; decide) (⟨rfl, ⟨⟨(by rw [hk0, ← hk3, fa_mre_e (Or.inr (Or.inr (by rw [fa_dgeq hd0, ← fa_tens, ← congrFun hi_88.2.2.2.2.2.2 mt]; exact Int32.not_le.mpr c_138))) _, if_pos (hk2.pos (by decide))]), mt, no, ⟨by omega, by omega, by omega, fa_is.mk (by rw [← hk3, fa_mre_e (Or.inr (Or.inr (by rw [fa_dgeq hd0, ← fa_tens, ← congrFun hi_88.2.2.2.2.2.2 mt]; exact Int32.not_le.mpr c_138))) _]), fa_is.mk rfl⟩, (show v2194 397 12 = nI (mt) from hi_88.2.2.1), (show v2194 397 11 = nI (no) from hi_88.2.2.2.1), (show fa_f3 v v2194 from (fa_f3.tr fa_f3.rf hi_88.2.2.2.2.1)), ⟨(fun _ => by rw [← hk3, fa_mre_e (Or.inr (Or.inr (by rw [fa_dgeq hd0, ← fa_tens, ← congrFun hi_88.2.2.2.2.2.2 mt]; exact Int32.not_le.mpr c_138))) _]), (fun i hi => by (show v2194 403 i = v 403 i; exact hi_88.2.2.2.2.2.1 i hi))⟩⟩, (fa_fr.tr fa_fr.rf (fa_fr.wide (fa_f3.fr hi_88.2.2.2.2.1) (by omega) (by omega)))⟩⟩)
                    · refine lv_aload_n hx hb dX7_number_141 rfl (lv_at hl 0 rfl) ?_
                      refine fa_getr (k := 397) (j := 403) CX HX2198 fl_X7_26 (by omega) rfl rfl hM.2.2.2.2.2.1 dX7_number_142 ?_
                      refine lv_iload hx hb dX7_number_145 (lv_at hl 4 rfl) ?_
                      refine lv_bipush (v := nI (10)) hx hb dX7_number_147 (by decide) ?_
                      refine lv_aload_n hx hb dX7_number_149 rfl (lv_at hl 0 rfl) ?_
                      refine fa_getr (k := 397) (j := 403) CX HX2198 fl_X7_26 (by omega) rfl rfl hM.2.2.2.2.2.1 dX7_number_150 ?_
                      refine lv_iload hx hb dX7_number_153 (lv_at hl 4 rfl) ?_
                      refine fa_iald (k := 403) (j := 4 * no + u) CX HX2198 (by omega) rfl (by omega) (by first | decide | assumption) dX7_number_155 ?_
                      refine lv_imul hx hb dX7_number_156 ?_
                      refine lv_aload_n hx hb dX7_number_157 rfl (lv_at hl 0 rfl) ?_
                      refine fa_getr (k := 397) (j := 405) CX HX2198 fl_X7_32 (by omega) rfl rfl hM.2.2.2.2.2.2.2 dX7_number_158 ?_
                      refine lv_aload_n hx hb dX7_number_161 rfl (lv_at hl 0 rfl) ?_
                      refine fa_geti (k := 397) CX HX2198 fl_X7_134 (by omega) rfl rfl dX7_number_162 ?_
                      rw [show v2194 397 12 = nI (mt) from hi_88.2.2.1]
                      refine fa_cald (k := 405) (j := mt) CX HX2198 (by omega) rfl (by omega) (by first | decide | assumption) dX7_number_165 ?_
                      refine lv_iadd hx hb dX7_number_166 ?_
                      refine lv_bipush (v := nI (48)) hx hb dX7_number_167 (by decide) ?_
                      refine lv_isub hx hb dX7_number_169 ?_
                      refine fa_iast (k := 403) (j := 4 * no + u) CX HX2198 (by omega) rfl (by omega) (by first | decide | assumption) dX7_number_170 (fun H locs v2199 e2200 HX2201 => ?_)
                      refine lv_aload_n hx hb dX7_number_171 rfl (lv_at hl 0 rfl) ?_
                      refine lv_dup hx hb dX7_number_172 rfl ?_
                      refine fa_geti (k := 397) CX HX2201 fl_X7_134 (by omega) rfl rfl dX7_number_173 ?_
                      rw [show v2199 397 12 = nI (mt) from (by rw [e2200, fa_u_n _ _ (by omega)]; exact hi_88.2.2.1)]
                      refine lv_iconst (v := nI (1)) hx hb dX7_number_176 (by decide) ?_
                      refine fa_iaddN hx hb dX7_number_177 ?_
                      refine fa_puti (k := 397) CX HX2201 fl_X7_134 (by omega) rfl rfl rfl rfl dX7_number_178 (fun H locs v2202 e2203 HX2204 => ?_)
                      refine lv_goto (tgt := 88) hx hb dX7_number_181 (by decide) ?_
                      exact ih_88 (mt + 1) (ok) v2202 _ _ _ (by omega) (⟨⟨by omega, by omega⟩, (Or.inr ⟨hk0, by omega, (by rw [(show v2202 403 (4 * no + u) = v2194 403 (4 * no + u) * nI 10 + fa_dg (fa_sg t n9 mt) from by rw [e2203, fa_u_k _ _ (by decide), e2200, fa_u_s, fa_dgeq hd0, ← fa_tens, ← congrFun hi_88.2.2.2.2.2.2 mt])]; exact fa_stepv hk2 hhi (let ⟨e, he, e1, _⟩ := fa_dg_ok _ hd0; ⟨e, he, e1⟩) (show v2194 403 (4 * no + u) * nI 10 + fa_dg (fa_sg t n9 mt) ≤ a3 from by rw [fa_dgeq hd0, ← fa_tens, ← congrFun hi_88.2.2.2.2.2.2 mt]; exact Int32.not_lt.mp c_138)), (by rw [(show v2202 403 (4 * no + u) = v2194 403 (4 * no + u) * nI 10 + fa_dg (fa_sg t n9 mt) from by rw [e2203, fa_u_k _ _ (by decide), e2200, fa_u_s, fa_dgeq hd0, ← fa_tens, ← congrFun hi_88.2.2.2.2.2.2 mt]), ← hk3, show mt + 1 - (na + 1) = mt - (na + 1) + 1 by omega]; exact fa_mre_s (by omega) hd0 (show ¬ v2194 403 (4 * no + u) = 0 from fun z => c_100 (by rw [z]; decide)) (show v2194 403 (4 * no + u) * nI 10 + fa_dg (fa_sg t n9 mt) ≤ a3 from by rw [fa_dgeq hd0, ← fa_tens, ← congrFun hi_88.2.2.2.2.2.2 mt]; exact Int32.not_lt.mp c_138))⟩), (by rw [e2203, fa_u_s]), (by rw [e2203, fa_u_n _ _ (by omega)]; exact (by rw [e2200, fa_u_n _ _ (by omega)]; exact hi_88.2.2.2.1)), (by rw [e2203]; exact fa_f3.w (by rw [e2200]; exact fa_f3.u (fa_f3.tr fa_f3.rf hi_88.2.2.2.2.1)) (by decide)), (fun i hi => by (show v2202 403 i = v 403 i; rw [e2203, fa_u_k _ _ (by decide), e2200, fa_u_n _ _ (by omega)]; exact hi_88.2.2.2.2.2.1 i hi)), (((congrFun e2203 405).trans (fa_u_k _ _ (by decide))).trans (((congrFun e2200 405).trans (fa_u_k _ _ (by decide))).trans hi_88.2.2.2.2.2.2))⟩) (lv_sub hl [0, 1, 2, 3, 4, 5] rfl) HX2204
          exact LOOP_88 (61 - (na + 1) + 1) (na + 1) (nI (1)) v2191 _ _ _ (Nat.lt_succ_self _) (⟨⟨by omega, by omega⟩, (Or.inr ⟨rfl, Nat.le_refl _, (by rw [(show v2191 403 (4 * no + u) = fa_dg (fa_sg t n9 na) from by rw [e2192, fa_u_k _ _ (by decide)]; exact hq)]; exact fa_dg_okv hd0 (by decide)), (by rw [(show v2191 403 (4 * no + u) = fa_dg (fa_sg t n9 na) from by rw [e2192, fa_u_k _ _ (by decide)]; exact hq), hnum.1, show na + 1 - (na + 1) = 0 by omega])⟩), (by rw [e2192, fa_u_s]), (by rw [e2192, fa_u_n _ _ (by omega)]; exact (by rw [e2175, fa_u_n _ _ (by omega)]; exact gO)), (by rw [e2192]; exact fa_f3.w (by rw [e2175]; exact fa_f3.u fa_f3.rf) (by decide)), (fun i hi => by (show v2191 403 i = v 403 i; rw [e2192, fa_u_k _ _ (by decide), e2175, fa_u_n _ _ (by omega)])), (((congrFun e2192 405).trans (fa_u_k _ _ (by decide))).trans (((congrFun e2175 405).trans (fa_u_k _ _ (by decide))).trans h5))⟩) (lv_sub hl [2, 3, 4, 5, 1, 0] rfl) HX2193
    · have hz : fa_dg (fa_sg t n9 na) < a2 ∨ ¬ fa_dg (fa_sg t n9 na) ≤ a3 := Or.inl (Decidable.not_not.mp (fun z => fa_ifn hxs (by first | exact c_27 | exact Decidable.not_not.mp c_27) ((fa_num_dig hlo hdd).mpr z)))
      refine lv_iconst (v := nI (0)) hx hb dX7_number_30 (by decide) ?_
      exact RET _ _ _ _ _ _ _ HX2173 dX7_number_31 (by decide) (⟨rfl, ⟨⟨(by rw [fa_num_f hz]; exact (if_neg fa_n1).symm), na, no, ⟨by omega, by omega, by omega, fa_is.mk (by rw [fa_num_f hz]), fa_is.mk rfl⟩, (show v 397 12 = nI (na) from gA), (show v 397 11 = nI (no) from gO), (show fa_f3 v v from fa_f3.rf), ⟨(fun z => absurd z (by rw [fa_num_f hz]; exact fa_n1)), (fun i hi => rfl)⟩⟩, fa_fr.rf⟩⟩)
