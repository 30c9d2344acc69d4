set_option maxHeartbeats 4000000 in
set_option maxRecDepth 100000 in
theorem r_isSign (l : Launch) (G : fa_G) (n : Nat) (hn : 406 ≤ n) (v : fa_V) (r : fa_R) (hM : fa_RM r) (n9 na no : Nat) (h9 : n9 ≤ 60) (hna : na ≤ n9) (hno : 2 * no ≤ na) (g9 : v 397 9 = nI n9) (gA : v 397 12 = nI na) (gO : v 397 11 = nI no) (t : Nat → Int32) (h5 : v 405 = t) (a1 a2 : Int32) : fa_MI l G n yX7_isSign cX7_isSign 3 (some .boolean) 1 [.ref (fa_B G + (397)), .int (a1), .int (a2)] v r (fun x w => w = (v, r) ∧ (x = if na < n9 ∧ a1 ≤ t na ∧ t na ≤ a2 then nI 1 else nI 0)) := by
  refine fa_startZ (by decide +kernel) (Nat.le_of_ble_eq_true rfl) (fun p e s m args below meth c ls Q CX hl HX RET => ?_)
  have hl : lv_has ls 3 [(0, .ref (fa_B G + (397))), (1, .int (a1)), (2, .int (a2))] := hl
  have hx := CX.1.1
  have hb := CX.1.2.1
  refine lv_aload_n hx hb dX7_isSign_0 rfl (lv_at hl 0 rfl) ?_
  refine fa_geti (k := 397) CX HX fl_X7_134 (by omega) rfl rfl dX7_isSign_1 ?_
  rw [show v 397 12 = nI (na) from gA]
  refine lv_aload_n hx hb dX7_isSign_4 rfl (lv_at hl 0 rfl) ?_
  refine fa_geti (k := 397) CX HX fl_X7_131 (by omega) rfl rfl dX7_isSign_5 ?_
  rw [show v 397 9 = nI (n9) from g9]
  refine lv_icmp_ge (tgt := 41) hx hb dX7_isSign_8 (by decide) (fun c_8 => ?_) (fun c_8 => ?_)
  · have hge := fa_leN (by omega) (by omega) c_8
    refine lv_iconst (v := nI (0)) hx hb dX7_isSign_41 (by decide) ?_
    exact RET _ _ _ _ _ _ _ HX dX7_isSign_42 (by decide) (⟨rfl, (by rw [if_neg (fun z => absurd z.1 (by omega))])⟩)
  · have hlt := fa_ltN (by omega) (by omega) c_8
    refine lv_aload_n hx hb dX7_isSign_11 rfl (lv_at hl 0 rfl) ?_
    refine fa_getr (k := 397) (j := 405) CX HX fl_X7_32 (by omega) rfl rfl hM.2.2.2.2.2.2.2 dX7_isSign_12 ?_
    refine lv_aload_n hx hb dX7_isSign_15 rfl (lv_at hl 0 rfl) ?_
    refine fa_geti (k := 397) CX HX fl_X7_134 (by omega) rfl rfl dX7_isSign_16 ?_
    rw [show v 397 12 = nI (na) from gA]
    refine fa_cald (k := 405) (j := na) CX HX (by omega) rfl (by omega) (by first | decide | assumption) dX7_isSign_19 ?_
    refine lv_iload_n hx hb dX7_isSign_20 rfl (lv_at hl 1 rfl) ?_
    refine lv_icmp_lt (tgt := 41) hx hb dX7_isSign_21 (by decide) (fun c_21 => ?_) (fun c_21 => ?_)
    · refine lv_iconst (v := nI (0)) hx hb dX7_isSign_41 (by decide) ?_
      exact RET _ _ _ _ _ _ _ HX dX7_isSign_42 (by decide) (⟨rfl, (by rw [if_neg (fun z => (Int32.not_lt.mpr z.2.1) (by rw [← (congrFun h5 na)]; exact c_21))])⟩)
    · refine lv_aload_n hx hb dX7_isSign_24 rfl (lv_at hl 0 rfl) ?_
      refine fa_getr (k := 397) (j := 405) CX HX fl_X7_32 (by omega) rfl rfl hM.2.2.2.2.2.2.2 dX7_isSign_25 ?_
      refine lv_aload_n hx hb dX7_isSign_28 rfl (lv_at hl 0 rfl) ?_
      refine fa_geti (k := 397) CX HX fl_X7_134 (by omega) rfl rfl dX7_isSign_29 ?_
      rw [show v 397 12 = nI (na) from gA]
      refine fa_cald (k := 405) (j := na) CX HX (by omega) rfl (by omega) (by first | decide | assumption) dX7_isSign_32 ?_
      refine lv_iload_n hx hb dX7_isSign_33 rfl (lv_at hl 2 rfl) ?_
      refine lv_icmp_gt (tgt := 41) hx hb dX7_isSign_34 (by decide) (fun c_34 => ?_) (fun c_34 => ?_)
      · refine lv_iconst (v := nI (0)) hx hb dX7_isSign_41 (by decide) ?_
        exact RET _ _ _ _ _ _ _ HX dX7_isSign_42 (by decide) (⟨rfl, (by rw [if_neg (fun z => (Int32.not_lt.mpr z.2.2) (by rw [← (congrFun h5 na)]; exact c_34))])⟩)
      · refine lv_iconst (v := nI (1)) hx hb dX7_isSign_37 (by decide) ?_
        refine lv_goto (tgt := 42) hx hb dX7_isSign_38 (by decide) ?_
        exact RET _ _ _ _ _ _ _ HX dX7_isSign_42 (by decide) (⟨rfl, (by rw [if_pos ⟨hlt, by rw [← (congrFun h5 na)]; exact Int32.not_lt.mp c_21, by rw [← (congrFun h5 na)]; exact Int32.not_lt.mp c_34⟩])⟩)
set_option maxHeartbeats 4000000 in
set_option maxRecDepth 100000 in
theorem r_accepts (l : Launch) (G : fa_G) (n : Nat) (hn : 406 ≤ n) (v : fa_V) (r : fa_R) (hM : fa_RM r) (n9 na no : Nat) (h9 : n9 ≤ 60) (hna : na ≤ n9) (hno : 2 * no ≤ na) (g9 : v 397 9 = nI n9) (gA : v 397 12 = nI na) (gO : v 397 11 = nI no) (t : Nat → Int32) (h5 : v 405 = t) (a1 : Int32) (hc : ¬ a1 = 0) : fa_MI l G n yX7_accepts cX7_accepts 3 (some .boolean) 2 [.ref (fa_B G + (397)), .int (a1)] v r (fa_voi r (fun x v1 => ((x = if fa_sg t n9 na = a1 then nI 1 else nI 0) ∧ ∃ m o, (na ≤ m ∧ m ≤ n9 ∧ 2 * o ≤ m ∧ fa_is m (fa_acc (fa_sg t n9) a1 na) ∧ fa_is o (no)) ∧ v1 397 12 = nI m ∧ v1 397 11 = nI o ∧ fa_f3 v v1 ∧ (v1 403 = v 403)) ∧ (fa_fr (397) (404) v v1))) := by
  refine fa_startZ (by decide +kernel) (Nat.le_of_ble_eq_true rfl) (fun p e s m args below meth c ls Q CX hl HX RET => ?_)
  have hl : lv_has ls 3 [(0, .ref (fa_B G + (397))), (1, .int (a1))] := hl
  have hx := CX.1.1
  have hb := CX.1.2.1
  refine lv_aload_n hx hb dX7_accepts_0 rfl (lv_at hl 0 rfl) ?_
  refine lv_iload_n hx hb dX7_accepts_1 rfl (lv_at hl 1 rfl) ?_
  refine lv_iload_n hx hb dX7_accepts_2 rfl (lv_at hl 1 rfl) ?_
  refine fa_callVip (As := [.int (a1), .int (a1)]) (rest := []) CX HX (r_isSign l G n hn v r hM (n9) (na) (no) (by omega) (by omega) (by omega) g9 gA gO t h5 (a1) (a1)) ln_X7_137 (by omega) rfl rfl rfl rfl (Nat.le_of_ble_eq_true rfl) hl.1 ⟨Nat.le_of_ble_eq_true rfl, Nat.le_of_ble_eq_true rfl⟩ ⟨Nat.le_refl _, Nat.le_refl _⟩ dX7_accepts_3 (fun x2129 H locs h2128 HX2130 => ?_)
  have hx_x2129 := h2128
  have hxs := hx_x2129
  refine lv_istore_n (lv' := [(2, .int (x2129)), (0, .ref (fa_B G + (397))), (1, .int (a1))]) hx hb dX7_accepts_6 rfl hl (by decide) rfl (fun ls hl => ?_)
  refine lv_aload_n hx hb dX7_accepts_7 rfl (lv_at hl 1 rfl) ?_
  refine lv_dup hx hb dX7_accepts_8 rfl ?_
  refine fa_geti (k := 397) CX HX2130 fl_X7_134 (by omega) rfl rfl dX7_accepts_9 ?_
  rw [show v 397 12 = nI (na) from gA]
  refine lv_iload_n hx hb dX7_accepts_12 rfl (lv_at hl 0 rfl) ?_
  refine lv_if_eq (tgt := 20) hx hb dX7_accepts_13 (by decide) (fun c_13 => ?_) (fun c_13 => ?_)
  · have hS : ¬ fa_sg t n9 na = a1 := fun z => fa_ifn hxs c_13 ((fa_isS hc).mpr z)
    refine lv_iconst (v := nI (0)) hx hb dX7_accepts_20 (by decide) ?_
    refine fa_iaddN hx hb dX7_accepts_21 ?_
    refine fa_puti (k := 397) CX HX2130 fl_X7_134 (by omega) rfl rfl rfl rfl dX7_accepts_22 (fun H locs v2131 e2132 HX2133 => ?_)
    refine lv_iload_n hx hb dX7_accepts_25 rfl (lv_at hl 0 rfl) ?_
    exact RET _ _ _ _ _ _ _ HX2133 dX7_accepts_26 (fa_if_nar hx_x2129) (⟨rfl, ⟨⟨(hxs.trans (fa_ifc (fa_isS hc))), na + 0, no, ⟨by omega, by omega, by omega, fa_is.mk (fa_acc_f hS).symm, fa_is.mk rfl⟩, (show v2131 397 12 = nI (na + 0) from (by rw [e2132, fa_u_s])), (show v2131 397 11 = nI (no) from (by rw [e2132, fa_u_n _ _ (by omega)]; exact gO)), (show fa_f3 v v2131 from (by rw [e2132]; exact fa_f3.w fa_f3.rf (by decide))), (by show v2131 403 = v 403; rw [e2132, fa_u_k _ _ (by decide)])⟩, (by rw [e2132]; exact fa_fr.u fa_fr.rf (by omega))⟩⟩)
  · have hS : fa_sg t n9 na = a1 := (fa_isS hc).mp (fa_ift hxs c_13)
    have hlt : na < n9 := fa_sg_nz hS hc
    refine lv_iconst (v := nI (1)) hx hb dX7_accepts_16 (by decide) ?_
    refine lv_goto (tgt := 21) hx hb dX7_accepts_17 (by decide) ?_
    refine fa_iaddN hx hb dX7_accepts_21 ?_
    refine fa_puti (k := 397) CX HX2130 fl_X7_134 (by omega) rfl rfl rfl rfl dX7_accepts_22 (fun H locs v2134 e2135 HX2136 => ?_)
    refine lv_iload_n hx hb dX7_accepts_25 rfl (lv_at hl 0 rfl) ?_
    exact RET _ _ _ _ _ _ _ HX2136 dX7_accepts_26 (fa_if_nar hx_x2129) (⟨rfl, ⟨⟨(hxs.trans (fa_ifc (fa_isS hc))), na + 1, no, ⟨by omega, by omega, by omega, fa_is.mk (fa_acc_t hS).symm, fa_is.mk rfl⟩, (show v2134 397 12 = nI (na + 1) from (by rw [e2135, fa_u_s])), (show v2134 397 11 = nI (no) from (by rw [e2135, fa_u_n _ _ (by omega)]; exact gO)), (show fa_f3 v v2134 from (by rw [e2135]; exact fa_f3.w fa_f3.rf (by decide))), (by show v2134 403 = v 403; rw [e2135, fa_u_k _ _ (by decide)])⟩, (by rw [e2135]; exact fa_fr.u fa_fr.rf (by omega))⟩⟩)
set_option maxHeartbeats 4000000 in
set_option maxRecDepth 100000 in
theorem r_number (l : Launch) (G : fa_G) (n : Nat) (hn : 406 ≤ n) (v : fa_V) (r : fa_R) (hM : fa_RM r) (n9 na no : Nat) (h9 : n9 ≤ 60) (hna : na ≤ n9) (hno : 2 * no ≤ na) (g9 : v 397 9 = nI n9) (gA : v 397 12 = nI na) (gO : v 397 11 = nI no) (t : Nat → Int32) (h5 : v 405 = t) (u : Nat) (a2 : Int32) (a3 : Int32) (hu : u < 4) (hlo : fa_okv 1 a2) (hhi : fa_okv 400 a3) : fa_MI l G n yX7_number cX7_number 6 (some .boolean) 3 [.ref (fa_B G + (397)), .int (nI (u)), .int (a2), .int (a3)] v r (fa_voi r (fun x v1 => ((x = if 0 ≤ (fa_num (fa_sg t n9) a2 a3 na).1 then nI 1 else nI 0) ∧ ∃ m o, (na ≤ m ∧ m ≤ n9 ∧ 2 * o ≤ m ∧ fa_is m ((fa_num (fa_sg t n9) a2 a3 na).2) ∧ fa_is o (no)) ∧ v1 397 12 = nI m ∧ v1 397 11 = nI o ∧ fa_f3 v v1 ∧ ((0 ≤ (fa_num (fa_sg t n9) a2 a3 na).1 → v1 403 (4 * no + u) = (fa_num (fa_sg t n9) a2 a3 na).1) ∧ ∀ i, ¬ i = (4 * no + u) → v1 403 i = v 403 i)) ∧ (fa_fr (397) (404) v v1))) := by
  refine fa_startZ (by decide +kernel) (Nat.le_of_ble_eq_true rfl) (fun p e s m args below meth c ls Q CX hl HX RET => ?_)
  have hl : lv_has ls 6 [(0, .ref (fa_B G + (397))), (1, .int (nI (u))), (2, .int (a2)), (3, .int (a3))] := hl
  have hx := CX.1.1
  have hb := CX.1.2.1
  refine lv_iconst (v := nI (4)) hx hb dX7_number_0 (by decide) ?_
  refine lv_aload_n hx hb dX7_number_1 rfl (lv_at hl 0 rfl) ?_
  refine fa_geti (k := 397) CX HX fl_X7_141 (by omega) rfl rfl dX7_number_2 ?_
  rw [show v 397 11 = nI (no) from gO]
  refine fa_imulN hx hb dX7_number_5 ?_
  refine lv_iload_n hx hb dX7_number_6 rfl (lv_at hl 1 rfl) ?_
  refine fa_iaddN hx hb dX7_number_7 ?_
  refine lv_istore (lv' := [(4, .int (nI (4 * no + u))), (0, .ref (fa_B G + (397))), (1, .int (nI (u))), (2, .int (a2)), (3, .int (a3))]) hx hb dX7_number_8 hl (by decide) rfl (fun ls hl => ?_)
  refine lv_aload_n hx hb dX7_number_10 rfl (lv_at hl 1 rfl) ?_
  refine lv_iload_n hx hb dX7_number_11 rfl (lv_at hl 3 rfl) ?_
  refine lv_if_ne (tgt := 20) hx hb dX7_number_12 (by decide) (fun c_12 => ?_) (fun c_12 => ?_)
  · have hdd : fa_dd a2 (nI 49) := Or.inr ⟨c_12, rfl⟩
    refine lv_bipush (v := nI (49)) hx hb dX7_number_20 (by decide) ?_
    refine lv_bipush (v := nI (57)) hx hb dX7_number_22 (by decide) ?_
    refine fa_callVip (As := [.int (nI (49)), .int (nI (57))]) (rest := []) CX HX (r_isSign l G n hn v r hM (n9) (na) (no) (by omega) (by omega) (by omega) g9 gA gO t h5 (nI (49)) (nI (57))) ln_X7_137 (by omega) rfl rfl rfl rfl (Nat.le_of_ble_eq_true rfl) hl.1 ⟨Nat.le_of_ble_eq_true rfl, Nat.le_of_ble_eq_true rfl⟩ ⟨Nat.le_refl _, Nat.le_refl _⟩ dX7_number_24 (fun x2138 H locs h2137 HX2139 => ?_)
    have hx_x2138 := h2137
    have hxs := hx_x2138
    refine lv_if_ne (tgt := 32) hx hb dX7_number_27 (by decide) (fun c_27 => ?_) (fun c_27 => ?_)
    · have hdig := (fa_num_dig hlo hdd).mp (fa_ift hxs c_27)
      have hd0 := fa_num_lo hlo hdig
      have hlt := fa_dg_lt hd0
      refine lv_aload_n hx hb dX7_number_32 rfl (lv_at hl 1 rfl) ?_
      refine fa_getr (k := 397) (j := 403) CX HX2139 fl_X7_26 (by omega) rfl rfl hM.2.2.2.2.2.1 dX7_number_33 ?_
      refine lv_iload hx hb dX7_number_36 (lv_at hl 0 rfl) ?_
      refine lv_aload_n hx hb dX7_number_38 rfl (lv_at hl 1 rfl) ?_
      refine fa_getr (k := 397) (j := 405) CX HX2139 fl_X7_32 (by omega) rfl rfl hM.2.2.2.2.2.2.2 dX7_number_39 ?_
      refine lv_aload_n hx hb dX7_number_42 rfl (lv_at hl 1 rfl) ?_
      refine fa_geti (k := 397) CX HX2139 fl_X7_134 (by omega) rfl rfl dX7_number_43 ?_
      rw [show v 397 12 = nI (na) from gA]
      refine fa_cald (k := 405) (j := na) CX HX2139 (by omega) rfl (by omega) (by first | decide | assumption) dX7_number_46 ?_
      refine lv_bipush (v := nI (48)) hx hb dX7_number_47 (by decide) ?_
      refine lv_isub hx hb dX7_number_49 ?_
      refine fa_iast (k := 403) (j := 4 * no + u) CX HX2139 (by omega) rfl (by omega) (by first | decide | assumption) dX7_number_50 (fun H locs v2140 e2141 HX2142 => ?_)
      have hq : v2140 403 (4 * no + u) = fa_dg (fa_sg t n9 na) := by rw [e2141, fa_u_s, fa_dgeq hd0, ← congrFun h5 na]
      refine lv_aload_n hx hb dX7_number_51 rfl (lv_at hl 1 rfl) ?_
      refine fa_getr (k := 397) (j := 403) CX HX2142 fl_X7_26 (by omega) rfl rfl hM.2.2.2.2.2.1 dX7_number_52 ?_
      refine lv_iload hx hb dX7_number_55 (lv_at hl 0 rfl) ?_
      refine fa_iald (k := 403) (j := 4 * no + u) CX HX2142 (by omega) rfl (by omega) (by first | decide | assumption) dX7_number_57 ?_
      refine lv_iload_n hx hb dX7_number_58 rfl (lv_at hl 4 rfl) ?_
      refine lv_icmp_gt (tgt := 66) hx hb dX7_number_59 (by decide) (fun c_59 => ?_) (fun c_59 => ?_)
      · have hz : fa_dg (fa_sg t n9 na) < a2 ∨ ¬ fa_dg (fa_sg t n9 na) ≤ a3 := Or.inr (by
          rw [← hq]
          exact Int32.not_le.mpr c_59)
        refine lv_iconst (v := nI (0)) hx hb dX7_number_66 (by decide) ?_
        refine lv_istore (lv' := [(5, .int (nI (0))), (4, .int (nI (4 * no + u))), (0, .ref (fa_B G + (397))), (1, .int (nI (u))), (2, .int (a2)), (3, .int (a3))]) hx hb dX7_number_67 hl (by decide) rfl (fun ls hl => ?_)
        refine lv_aload_n hx hb dX7_number_69 rfl (lv_at hl 2 rfl) ?_
        refine lv_dup hx hb dX7_number_70 rfl ?_
        refine fa_geti (k := 397) CX HX2142 fl_X7_134 (by omega) rfl rfl dX7_number_71 ?_
        rw [show v2140 397 12 = nI (na) from (by rw [e2141, fa_u_n _ _ (by omega)]; exact gA)]
        refine lv_iload hx hb dX7_number_74 (lv_at hl 0 rfl) ?_
        refine lv_if_eq (tgt := 83) hx hb dX7_number_76 (by decide) (fun c_76 => ?_) (fun c_76 => ?_)
        · refine lv_iconst (v := nI (0)) hx hb dX7_number_83 (by decide) ?_
          refine fa_iaddN hx hb dX7_number_84 ?_
          refine fa_puti (k := 397) CX HX2142 fl_X7_134 (by omega) rfl rfl rfl rfl dX7_number_85 (fun H locs v2143 e2144 HX2145 => ?_)
          have LOOP_88 : ∀ (fu : Nat) (mt : Nat) (ok : Int32) (v2146 : fa_V) (H : Heap) (locs : List Loc) (ls : Array Slot), 61 - mt < fu → ((na ≤ mt ∧ mt ≤ n9) ∧ ((ok = nI 0 ∧ mt = na ∧ fa_num (fa_sg t n9) a2 a3 na = ((-1 : Int32), na)) ∨ (ok = nI 1 ∧ na + 1 ≤ mt ∧ fa_okv 400 (v2146 403 (4 * no + u)) ∧ fa_mre (fa_sg t n9) a3 (60 - (mt - (na + 1))) (v2146 403 (4 * no + u)) mt = fa_num (fa_sg t n9) a2 a3 na)) ∧ v2146 397 12 = nI mt ∧ v2146 397 11 = nI no ∧ fa_f3 v v2146 ∧ (∀ i, ¬ i = (4 * no + u) → v2146 403 i = v 403 i) ∧ v2146 405 = t) → lv_has ls 6 [(0, .ref (fa_B G + (397))), (1, .int (nI (u))), (2, .int (a2)), (3, .int (a3)), (4, .int (nI (4 * no + u))), (5, .int (ok))] → fa_HX G (n) v2146 r s H locs → W p l e (fa_rm 3) s m args below meth c H locs (0) (0) Q (F0 m 88 ls []) := by
            intro fu
            induction fu with
            | zero => intro mt ok v2146 H locs ls hk; exact absurd hk (Nat.not_lt_zero _)
            | succ fu ih_88 =>
              intro mt ok v2146 H locs ls hk_88 hi_88 hl HX2147
              refine lv_iload hx hb dX7_number_88 (lv_at hl 5 rfl) ?_
              refine lv_if_eq (tgt := 184) hx hb dX7_number_90 (by decide) (fun c_90 => ?_) (fun c_90 => ?_)
              · obtain ⟨hk0, hk1, hk2⟩ := hi_88.2.1.resolve_right (fun z => by
                  rw [z.1] at c_90
                  exact absurd c_90 (by decide))
                refine lv_iload hx hb dX7_number_184 (lv_at hl 5 rfl) ?_
                exact RET _ _ _ _ _ _ _ HX2147 dX7_number_186 (by rw [hk0]; decide) (⟨rfl, ⟨⟨(by rw [hk0, hk2]; exact (if_neg fa_n1).symm), mt, no, ⟨by omega, by omega, by omega, fa_is.mk (by rw [hk2]; exact hk1), fa_is.mk rfl⟩, (show v2146 397 12 = nI (mt) from hi_88.2.2.1), (show v2146 397 11 = nI (no) from hi_88.2.2.2.1), (show fa_f3 v v2146 from (fa_f3.tr fa_f3.rf hi_88.2.2.2.2.1)), ⟨(fun z => absurd z (by rw [hk2]; exact fa_n1)), (fun i hi => by (show v2146 403 i = v 403 i; exact hi_88.2.2.2.2.2.1 i hi))⟩⟩, (fa_fr.tr fa_fr.rf (fa_fr.wide (fa_f3.fr hi_88.2.2.2.2.1) (by omega) (by omega)))⟩⟩)
              · obtain ⟨hk0, hk1, hk2, hk3⟩ := hi_88.2.1.resolve_left (fun z => c_90 (by
                  rw [z.1]
                  decide))
                refine lv_aload_n hx hb dX7_number_93 rfl (lv_at hl 0 rfl) ?_
                refine fa_getr (k := 397) (j := 403) CX HX2147 fl_X7_26 (by omega) rfl rfl hM.2.2.2.2.2.1 dX7_number_94 ?_
                refine lv_iload hx hb dX7_number_97 (lv_at hl 4 rfl) ?_
                refine fa_iald (k := 403) (j := 4 * no + u) CX HX2147 (by omega) rfl (by omega) (by first | decide | assumption) dX7_number_99 ?_
                refine lv_if_le (tgt := 184) hx hb dX7_number_100 (by decide) (fun c_100 => ?_) (fun c_100 => ?_)
                · refine lv_iload hx hb dX7_number_184 (lv_at hl 5 rfl) ?_
                  exact RET _ _ _ _ _ _ _ HX2147 dX7_number_186 (by rw [hk0]; decide) (⟨rfl, ⟨⟨(by rw [hk0, ← hk3, fa_mre_e (Or.inr (Or.inl (fa_le0 hk2 (by decide) c_100))) _, if_pos (hk2.pos (by decide))]), mt, no, ⟨by omega, by omega, by omega, fa_is.mk (by rw [← hk3, fa_mre_e (Or.inr (Or.inl (fa_le0 hk2 (by decide) c_100))) _]), fa_is.mk rfl⟩, (show v2146 397 12 = nI (mt) from hi_88.2.2.1), (show v2146 397 11 = nI (no) from hi_88.2.2.2.1), (show fa_f3 v v2146 from (fa_f3.tr fa_f3.rf hi_88.2.2.2.2.1)), ⟨(fun _ => by rw [← hk3, fa_mre_e (Or.inr (Or.inl (fa_le0 hk2 (by decide) c_100))) _]), (fun i hi => by (show v2146 403 i = v 403 i; exact hi_88.2.2.2.2.2.1 i hi))⟩⟩, (fa_fr.tr fa_fr.rf (fa_fr.wide (fa_f3.fr hi_88.2.2.2.2.1) (by omega) (by omega)))⟩⟩)
                · refine lv_aload_n hx hb dX7_number_103 rfl (lv_at hl 0 rfl) ?_
                  refine lv_bipush (v := nI (48)) hx hb dX7_number_104 (by decide) ?_
                  refine lv_bipush (v := nI (57)) hx hb dX7_number_106 (by decide) ?_
                  refine fa_callVip (As := [.int (nI (48)), .int (nI (57))]) (rest := []) CX HX2147 (r_isSign l G n hn v2146 r hM (n9) (mt) (no) (by omega) (by omega) (by omega) ((hi_88.2.2.2.2.1.2 9 (by decide) (by decide)).trans g9) hi_88.2.2.1 hi_88.2.2.2.1 t hi_88.2.2.2.2.2.2 (nI (48)) (nI (57))) ln_X7_137 (by omega) rfl rfl rfl rfl (Nat.le_of_ble_eq_true rfl) hl.1 ⟨Nat.le_of_ble_eq_true rfl, Nat.le_of_ble_eq_true rfl⟩ ⟨Nat.le_refl _, Nat.le_refl _⟩ dX7_number_108 (fun x2149 H locs h2148 HX2150 => ?_)
                  have hx_x2149 := h2148
                  have hxs2 := hx_x2149
                  refine lv_if_eq (tgt := 184) hx hb dX7_number_111 (by decide) (fun c_111 => ?_) (fun c_111 => ?_)
                  · refine lv_iload hx hb dX7_number_184 (lv_at hl 5 rfl) ?_
                    exact RET _ _ _ _ _ _ _ HX2150 dX7_number_186 (by rw [hk0]; decide) (⟨rfl, ⟨⟨(by rw [hk0, ← hk3, fa_mre_e (Or.inl (Decidable.not_not.mp (fun z => fa_ifn hxs2 c_111 (fa_dig2.mpr z)))) _, if_pos (hk2.pos (by decide))]), mt, no, ⟨by omega, by omega, by omega, fa_is.mk (by rw [← hk3, fa_mre_e (Or.inl (Decidable.not_not.mp (fun z => fa_ifn hxs2 c_111 (fa_dig2.mpr z)))) _]), fa_is.mk rfl⟩, (show v2146 397 12 = nI (mt) from hi_88.2.2.1), (show v2146 397 11 = nI (no) from hi_88.2.2.2.1), (show fa_f3 v v2146 from (fa_f3.tr fa_f3.rf hi_88.2.2.2.2.1)), ⟨(fun _ => by rw [← hk3, fa_mre_e (Or.inl (Decidable.not_not.mp (fun z => fa_ifn hxs2 c_111 (fa_dig2.mpr z)))) _]), (fun i hi => by (show v2146 403 i = v 403 i; exact hi_88.2.2.2.2.2.1 i hi))⟩⟩, (fa_fr.tr fa_fr.rf (fa_fr.wide (fa_f3.fr hi_88.2.2.2.2.1) (by omega) (by omega)))⟩⟩)
                  · have hd0 : ¬ fa_dg (fa_sg t n9 mt) < 0 := fa_dig2.mp (fa_ift hxs2 c_111)
                    have hlt2 := fa_dg_lt hd0
                    refine lv_bipush (v := nI (10)) hx hb dX7_number_114 (by decide) ?_
                    refine lv_aload_n hx hb dX7_number_116 rfl (lv_at hl 0 rfl) ?_
                    refine fa_getr (k := 397) (j := 403) CX HX2150 fl_X7_26 (by omega) rfl rfl hM.2.2.2.2.2.1 dX7_number_117 ?_
                    refine lv_iload hx hb dX7_number_120 (lv_at hl 4 rfl) ?_
                    refine fa_iald (k := 403) (j := 4 * no + u) CX HX2150 (by omega) rfl (by omega) (by first | decide | assumption) dX7_number_122 ?_
                    refine lv_imul hx hb dX7_number_123 ?_
                    refine lv_aload_n hx hb dX7_number_124 rfl (lv_at hl 0 rfl) ?_
                    refine fa_getr (k := 397) (j := 405) CX HX2150 fl_X7_32 (by omega) rfl rfl hM.2.2.2.2.2.2.2 dX7_number_125 ?_
                    refine lv_aload_n hx hb dX7_number_128 rfl (lv_at hl 0 rfl) ?_
                    refine fa_geti (k := 397) CX HX2150 fl_X7_134 (by omega) rfl rfl dX7_number_129 ?_
                    rw [show v2146 397 12 = nI (mt) from hi_88.2.2.1]
                    refine fa_cald (k := 405) (j := mt) CX HX2150 (by omega) rfl (by omega) (by first | decide | assumption) dX7_number_132 ?_
                    refine lv_iadd hx hb dX7_number_133 ?_
                    refine lv_bipush (v := nI (48)) hx hb dX7_number_134 (by decide) ?_
                    refine lv_isub hx hb dX7_number_136 ?_
                    refine lv_iload_n hx hb dX7_number_137 rfl (lv_at hl 3 rfl) ?_
                    refine lv_icmp_gt (tgt := 184) hx hb dX7_number_138 (by decide) (fun c_138 => ?_) (fun c_138 => ?_)
                    · refine lv_iload hx hb dX7_number_184 (lv_at hl 5 rfl) ?_
                      exact RET _ _ _ _ _ _ _ HX2150 dX7_number_186 (by rw [hk0]; decide) (⟨rfl, ⟨⟨(by rw [hk0, ← hk3, fa_mre_e (Or.inr (Or.inr (by rw [fa_dgeq hd0, ← fa_tens, ← congrFun hi_88.2.2.2.2.2.2 mt]; exact Int32.not_le.mpr c_138))) _, if_pos (hk2.pos (by decide))]), mt, no, ⟨by omega, by omega, by omega, fa_is.mk (by rw [← hk3, fa_mre_e (Or.inr (Or.inr (by rw [fa_dgeq hd0, ← fa_tens, ← congrFun hi_88.2.2.2.2.2.2 mt]; exact Int32.not_le.mpr c_138))) _]), fa_is.mk rfl⟩, (show v2146 397 12 = nI (mt) from hi_88.2.2.1), (show v2146 397 11 = nI (no) from hi_88.2.2.2.1), (show fa_f3 v v2146 from (fa_f3.tr fa_f3.rf hi_88.2.2.2.2.1)), ⟨(fun _ => by rw [← hk3, fa_mre_e (Or.inr (Or.inr (by rw [fa_dgeq hd0, ← fa_tens, ← congrFun hi_88.2.2.2.2.2.2 mt]; exact Int32.not_le.mpr c_138))) _]), (fun i hi => by (show v2146 403 i = v 403 i; exact hi_88.2.2.2.2.2.1 i hi))⟩⟩, (fa_fr.tr fa_fr.rf (fa_fr.wide (fa_f3.fr hi_88.2.2.2.2.1) (by omega) (by omega)))⟩⟩)
                    · refine lv_aload_n hx hb dX7_number_141 rfl (lv_at hl 0 rfl) ?_
                      refine fa_getr (k := 397) (j := 403) CX HX2150 fl_X7_26 (by omega) rfl rfl hM.2.2.2.2.2.1 dX7_number_142 ?_
                      refine lv_iload hx hb dX7_number_145 (lv_at hl 4 rfl) ?_
                      refine lv_bipush (v := nI (10)) hx hb dX7_number_147 (by decide) ?_
                      refine lv_aload_n hx hb dX7_number_149 rfl (lv_at hl 0 rfl) ?_
                      refine fa_getr (k := 397) (j := 403) CX HX2150 fl_X7_26 (by omega) rfl rfl hM.2.2.2.2.2.1 dX7_number_150 ?_
                      refine lv_iload hx hb dX7_number_153 (lv_at hl 4 rfl) ?_
                      refine fa_iald (k := 403) (j := 4 * no + u) CX HX2150 (by omega) rfl (by omega) (by first | decide | assumption) dX7_number_155 ?_
                      refine lv_imul hx hb dX7_number_156 ?_
                      refine lv_aload_n hx hb dX7_number_157 rfl (lv_at hl 0 rfl) ?_
                      refine fa_getr (k := 397) (j := 405) CX HX2150 fl_X7_32 (by omega) rfl rfl hM.2.2.2.2.2.2.2 dX7_number_158 ?_
                      refine lv_aload_n hx hb dX7_number_161 rfl (lv_at hl 0 rfl) ?_
                      refine fa_geti (k := 397) CX HX2150 fl_X7_134 (by omega) rfl rfl dX7_number_162 ?_
                      rw [show v2146 397 12 = nI (mt) from hi_88.2.2.1]
                      refine fa_cald (k := 405) (j := mt) CX HX2150 (by omega) rfl (by omega) (by first | decide | assumption) dX7_number_165 ?_
                      refine lv_iadd hx hb dX7_number_166 ?_
                      refine lv_bipush (v := nI (48)) hx hb dX7_number_167 (by decide) ?_
                      refine lv_isub hx hb dX7_number_169 ?_
                      refine fa_iast (k := 403) (j := 4 * no + u) CX HX2150 (by omega) rfl (by omega) (by first | decide | assumption) dX7_number_170 (fun H locs v2151 e2152 HX2153 => ?_)
                      refine lv_aload_n hx hb dX7_number_171 rfl (lv_at hl 0 rfl) ?_
                      refine lv_dup hx hb dX7_number_172 rfl ?_
                      refine fa_geti (k := 397) CX HX2153 fl_X7_134 (by omega) rfl rfl dX7_number_173 ?_
                      rw [show v2151 397 12 = nI (mt) from (by rw [e2152, fa_u_n _ _ (by omega)]; exact hi_88.2.2.1)]
                      refine lv_iconst (v := nI (1)) hx hb dX7_number_176 (by decide) ?_
                      refine fa_iaddN hx hb dX7_number_177 ?_
                      refine fa_puti (k := 397) CX HX2153 fl_X7_134 (by omega) rfl rfl rfl rfl dX7_number_178 (fun H locs v2154 e2155 HX2156 => ?_)
                      refine lv_goto (tgt := 88) hx hb dX7_number_181 (by decide) ?_
                      exact ih_88 (mt + 1) (ok) v2154 _ _ _ (by omega) (⟨⟨by omega, by omega⟩, (Or.inr ⟨hk0, by omega, (by rw [(show v2154 403 (4 * no + u) = v2146 403 (4 * no + u) * nI 10 + fa_dg (fa_sg t n9 mt) from by rw [e2155, fa_u_k _ _ (by decide), e2152, fa_u_s, fa_dgeq hd0, ← fa_tens, ← congrFun hi_88.2.2.2.2.2.2 mt])]; exact fa_stepv hk2 hhi (let ⟨e, he, e1, _⟩ := fa_dg_ok _ hd0; ⟨e, he, e1⟩) (show v2146 403 (4 * no + u) * nI 10 + fa_dg (fa_sg t n9 mt) ≤ a3 from by rw [fa_dgeq hd0, ← fa_tens, ← congrFun hi_88.2.2.2.2.2.2 mt]; exact Int32.not_lt.mp c_138)), (by rw [(show v2154 403 (4 * no + u) = v2146 403 (4 * no + u) * nI 10 + fa_dg (fa_sg t n9 mt) from by rw [e2155, fa_u_k _ _ (by decide), e2152, fa_u_s, fa_dgeq hd0, ← fa_tens, ← congrFun hi_88.2.2.2.2.2.2 mt]), ← hk3, show mt + 1 - (na + 1) = mt - (na + 1) + 1 by omega]; exact fa_mre_s (by omega) hd0 (show ¬ v2146 403 (4 * no + u) = 0 from fun z => c_100 (by rw [z]; decide)) (show v2146 403 (4 * no + u) * nI 10 + fa_dg (fa_sg t n9 mt) ≤ a3 from by rw [fa_dgeq hd0, ← fa_tens, ← congrFun hi_88.2.2.2.2.2.2 mt]; exact Int32.not_lt.mp c_138))⟩), (by rw [e2155, fa_u_s]), (by rw [e2155, fa_u_n _ _ (by omega)]; exact (by rw [e2152, fa_u_n _ _ (by omega)]; exact hi_88.2.2.2.1)), (by rw [e2155]; exact fa_f3.w (by rw [e2152]; exact fa_f3.u (fa_f3.tr fa_f3.rf hi_88.2.2.2.2.1)) (by decide)), (fun i hi => by (show v2154 403 i = v 403 i; rw [e2155, fa_u_k _ _ (by decide), e2152, fa_u_n _ _ (by omega)]; exact hi_88.2.2.2.2.2.1 i hi)), (((congrFun e2155 405).trans (fa_u_k _ _ (by decide))).trans (((congrFun e2152 405).trans (fa_u_k _ _ (by decide))).trans hi_88.2.2.2.2.2.2))⟩) (lv_sub hl [0, 1, 2, 3, 4, 5] rfl) HX2156
          exact LOOP_88 (61 - (na + 0) + 1) (na + 0) (nI (0)) v2143 _ _ _ (Nat.lt_succ_self _) (⟨⟨by omega, by omega⟩, (Or.inl ⟨rfl, rfl, fa_num_f hz⟩), (by rw [e2144, fa_u_s]), (by rw [e2144, fa_u_n _ _ (by omega)]; exact (by rw [e2141, fa_u_n _ _ (by omega)]; exact gO)), (by rw [e2144]; exact fa_f3.w (by rw [e2141]; exact fa_f3.u fa_f3.rf) (by decide)), (fun i hi => by (show v2143 403 i = v 403 i; rw [e2144, fa_u_k _ _ (by decide), e2141, fa_u_n _ _ (by omega)])), (((congrFun e2144 405).trans (fa_u_k _ _ (by decide))).trans (((congrFun e2141 405).trans (fa_u_k _ _ (by decide))).trans h5))⟩) (lv_sub hl [2, 3, 4, 5, 1, 0] rfl) HX2145
        · exact absurd (by try decide) c_76
      · have hnum := fa_num_t (t := t) (n := n9) (a := na) hlo hhi (by
          rw [← hq]
          exact fun z => z.elim (by
            rw [hq]
            exact hdig) (fun z => z (Int32.not_lt.mp c_59)))
        refine lv_iconst (v := nI (1)) hx hb dX7_number_62 (by decide) ?_
        refine lv_goto (tgt := 67) hx hb dX7_number_63 (by decide) ?_
        refine lv_istore (lv' := [(5, .int (nI (1))), (4, .int (nI (4 * no + u))), (0, .ref (fa_B G + (397))), (1, .int (nI (u))), (2, .int (a2)), (3, .int (a3))]) hx hb dX7_number_67 hl (by decide) rfl (fun ls hl => ?_)
        refine lv_aload_n hx hb dX7_number_69 rfl (lv_at hl 2 rfl) ?_
        refine lv_dup hx hb dX7_number_70 rfl ?_
        refine fa_geti (k := 397) CX HX2142 fl_X7_134 (by omega) rfl rfl dX7_number_71 ?_
        rw [show v2140 397 12 = nI (na) from (by rw [e2141, fa_u_n _ _ (by omega)]; exact gA)]
        refine lv_iload hx hb dX7_number_74 (lv_at hl 0 rfl) ?_
        refine lv_if_eq (tgt := 83) hx hb dX7_number_76 (by decide) (fun c_76 => ?_) (fun c_76 => ?_)
        · exact absurd c_76 (by try decide)
        · refine lv_iconst (v := nI (1)) hx hb dX7_number_79 (by decide) ?_
          refine lv_goto (tgt := 84) hx hb dX7_number_80 (by decide) ?_
          refine fa_iaddN hx hb dX7_number_84 ?_
          refine fa_puti (k := 397) CX HX2142 fl_X7_134 (by omega) rfl rfl rfl rfl dX7_number_85 (fun H locs v2157 e2158 HX2159 => ?_)
          have LOOP_88 : ∀ (fu : Nat) (mt : Nat) (ok : Int32) (v2160 : fa_V) (H : Heap) (locs : List Loc) (ls : Array Slot), 61 - mt < fu → ((na ≤ mt ∧ mt ≤ n9) ∧ ((ok = nI 0 ∧ mt = na ∧ fa_num (fa_sg t n9) a2 a3 na = ((-1 : Int32), na)) ∨ (ok = nI 1 ∧ na + 1 ≤ mt ∧ fa_okv 400 (v2160 403 (4 * no + u)) ∧ fa_mre (fa_sg t n9) a3 (60 - (mt - (na + 1))) (v2160 403 (4 * no + u)) mt = fa_num (fa_sg t n9) a2 a3 na)) ∧ v2160 397 12 = nI mt ∧ v2160 397 11 = nI no ∧ fa_f3 v v2160 ∧ (∀ i, ¬ i = (4 * no + u) → v2160 403 i = v 403 i) ∧ v2160 405 = t) → lv_has ls 6 [(0, .ref (fa_B G + (397))), (1, .int (nI (u))), (2, .int (a2)), (3, .int (a3)), (4, .int (nI (4 * no + u))), (5, .int (ok))] → fa_HX G (n) v2160 r s H locs → W p l e (fa_rm 3) s m args below meth c H locs (0) (0) Q (F0 m 88 ls []) := by
            intro fu
            induction fu with
            | zero => intro mt ok v2160 H locs ls hk; exact absurd hk (Nat.not_lt_zero _)
            | succ fu ih_88 =>
              intro mt ok v2160 H locs ls hk_88 hi_88 hl HX2161
              refine lv_iload hx hb dX7_number_88 (lv_at hl 5 rfl) ?_
              refine lv_if_eq (tgt := 184) hx hb dX7_number_90 (by decide) (fun c_90 => ?_) (fun c_90 => ?_)
              · obtain ⟨hk0, hk1, hk2⟩ := hi_88.2.1.resolve_right (fun z => by
                  rw [z.1] at c_90
                  exact absurd c_90 (by decide))
                refine lv_iload hx hb dX7_number_184 (lv_at hl 5 rfl) ?_
                exact RET _ _ _ _ _ _ _ HX2161 dX7_number_186 (by rw [hk0]; decide) (⟨rfl, ⟨⟨(by rw [hk0, hk2]; exact (if_neg fa_n1).symm), mt, no, ⟨by omega, by omega, by omega, fa_is.mk (by rw [hk2]; exact hk1), fa_is.mk rfl⟩, (show v2160 397 12 = nI (mt) from hi_88.2.2.1), (show v2160 397 11 = nI (no) from hi_88.2.2.2.1), (show fa_f3 v v2160 from (fa_f3.tr fa_f3.rf hi_88.2.2.2.2.1)), ⟨(fun z => absurd z (by rw [hk2]; exact fa_n1)), (fun i hi => by (show v2160 403 i = v 403 i; exact hi_88.2.2.2.2.2.1 i hi))⟩⟩, (fa_fr.tr fa_fr.rf (fa_fr.wide (fa_f3.fr hi_88.2.2.2.2.1) (by omega) (by omega)))⟩⟩)
              · obtain ⟨hk0, hk1, hk2, hk3⟩ := hi_88.2.1.resolve_left (fun z => c_90 (by
                  rw [z.1]
                  decide))
                refine lv_aload_n hx hb dX7_number_93 rfl (lv_at hl 0 rfl) ?_
                refine fa_getr (k := 397) (j := 403) CX HX2161 fl_X7_26 (by omega) rfl rfl hM.2.2.2.2.2.1 dX7_number_94 ?_
                refine lv_iload hx hb dX7_number_97 (lv_at hl 4 rfl) ?_
                refine fa_iald (k := 403) (j := 4 * no + u) CX HX2161 (by omega) rfl (by omega) (by first | decide | assumption) dX7_number_99 ?_
                refine lv_if_le (tgt := 184) hx hb dX7_number_100 (by decide) (fun c_100 => ?_) (fun c_100 => ?_)
                · refine lv_iload hx hb dX7_number_184 (lv_at hl 5 rfl) ?_
                  exact RET _ _ _ _ _ _ _ HX2161 dX7_number_186 (by rw [hk0]; decide) (⟨rfl, ⟨⟨(by rw [hk0, ← hk3, fa_mre_e (Or.inr (Or.inl (fa_le0 hk2 (by decide) c_100))) _, if_pos (hk2.pos (by decide))]), mt, no, ⟨by omega, by omega, by omega, fa_is.mk (by rw [← hk3, fa_mre_e (Or.inr (Or.inl (fa_le0 hk2 (by decide) c_100))) _]), fa_is.mk rfl⟩, (show v2160 397 12 = nI (mt) from hi_88.2.2.1), (show v2160 397 11 = nI (no) from hi_88.2.2.2.1), (show fa_f3 v v2160 from (fa_f3.tr fa_f3.rf hi_88.2.2.2.2.1)), ⟨(fun _ => by rw [← hk3, fa_mre_e (Or.inr (Or.inl (fa_le0 hk2 (by decide) c_100))) _]), (fun i hi => by (show v2160 403 i = v 403 i; exact hi_88.2.2.2.2.2.1 i hi))⟩⟩, (fa_fr.tr fa_fr.rf (fa_fr.wide (fa_f3.fr hi_88.2.2.2.2.1) (by omega) (by omega)))⟩⟩)
                · refine lv_aload_n hx hb dX7_number_103 rfl (lv_at hl 0 rfl) ?_
                  refine lv_bipush (v := nI (48)) hx hb dX7_number_104 (by decide) ?_
                  refine lv_bipush (v := nI (57)) hx hb dX7_number_106 (by decide) ?_
                  refine fa_callVip (As := [.int (nI (48)), .int (nI (57))]) (rest := []) CX HX2161 (r_isSign l G n hn v2160 r hM (n9) (mt) (no) (by omega) (by omega) (by omega) ((hi_88.2.2.2.2.1.2 9 (by decide) (by decide)).trans g9) hi_88.2.2.1 hi_88.2.2.2.1 t hi_88.2.2.2.2.2.2 (nI (48)) (nI (57))) ln_X7_137 (by omega) rfl rfl rfl rfl (Nat.le_of_ble_eq_true rfl) hl.1 ⟨Nat.le_of_ble_eq_true rfl, Nat.le_of_ble_eq_true rfl⟩ ⟨Nat.le_refl _, Nat.le_refl _⟩ dX7_number_108 (fun x2163 H locs h2162 HX2164 => ?_)
                  have hx_x2163 := h2162
                  have hxs2 := hx_x2163
                  refine lv_if_eq (tgt := 184) hx hb dX7_number_111 (by decide) (fun c_111 => ?_) (fun c_111 => ?_)
                  · refine lv_iload hx hb dX7_number_184 (lv_at hl 5 rfl) ?_
                    exact RET _ _ _ _ _ _ _ HX2164 dX7_number_186 (by rw [hk0]; decide) (⟨rfl, ⟨⟨(by rw [hk0, ← hk3, fa_mre_e (Or.inl (Decidable.not_not.mp (fun z => fa_ifn hxs2 c_111 (fa_dig2.mpr z)))) _, if_pos (hk2.pos (by decide))]), mt, no, ⟨by omega, by omega, by omega, fa_is.mk (by rw [← hk3, fa_mre_e (Or.inl (Decidable.not_not.mp (fun z => fa_ifn hxs2 c_111 (fa_dig2.mpr z)))) _]), fa_is.mk rfl⟩, (show v2160 397 12 = nI (mt) from hi_88.2.2.1), (show v2160 397 11 = nI (no) from hi_88.2.2.2.1), (show fa_f3 v v2160 from (fa_f3.tr fa_f3.rf hi_88.2.2.2.2.1)), ⟨(fun _ => by rw [← hk3, fa_mre_e (Or.inl (Decidable.not_not.mp (fun z => fa_ifn hxs2 c_111 (fa_dig2.mpr z)))) _]), (fun i hi => by (show v2160 403 i = v 403 i; exact hi_88.2.2.2.2.2.1 i hi))⟩⟩, (fa_fr.tr fa_fr.rf (fa_fr.wide (fa_f3.fr hi_88.2.2.2.2.1) (by omega) (by omega)))⟩⟩)
                  · have hd0 : ¬ fa_dg (fa_sg t n9 mt) < 0 := fa_dig2.mp (fa_ift hxs2 c_111)
                    have hlt2 := fa_dg_lt hd0
                    refine lv_bipush (v := nI (10)) hx hb dX7_number_114 (by decide) ?_
                    refine lv_aload_n hx hb dX7_number_116 rfl (lv_at hl 0 rfl) ?_
                    refine fa_getr (k := 397) (j := 403) CX HX2164 fl_X7_26 (by omega) rfl rfl hM.2.2.2.2.2.1 dX7_number_117 ?_
                    refine lv_iload hx hb dX7_number_120 (lv_at hl 4 rfl) ?_
                    refine fa_iald (k := 403) (j := 4 * no + u) CX HX2164 (by omega) rfl (by omega) (by first | decide | assumption) dX7_number_122 ?_
                    refine lv_imul hx hb dX7_number_123 ?_
                    refine lv_aload_n hx hb dX7_number_124 rfl (lv_at hl 0 rfl) ?_
                    refine fa_getr (k := 397) (j := 405) CX HX2164 fl_X7_32 (by omega) rfl rfl hM.2.2.2.2.2.2.2 dX7_number_125 ?_
                    refine lv_aload_n hx hb dX7_number_128 rfl (lv_at hl 0 rfl) ?_
                    refine fa_geti (k := 397) CX HX2164 fl_X7_134 (by omega) rfl rfl dX7_number_129 ?_
                    rw [show v2160 397 12 = nI (mt) from hi_88.2.2.1]
                    refine fa_cald (k := 405) (j := mt) CX HX2164 (by omega) rfl (by omega) (by first | decide | assumption) dX7_number_132 ?_
                    refine lv_iadd hx hb dX7_number_133 ?_
                    refine lv_bipush (v := nI (48)) hx hb dX7_number_134 (by decide) ?_
                    refine lv_isub hx hb dX7_number_136 ?_
                    refine lv_iload_n hx hb dX7_number_137 rfl (lv_at hl 3 rfl) ?_
                    refine lv_icmp_gt (tgt := 184) hx hb dX7_number_138 (by decide) (fun c_138 => ?_) (fun c_138 => ?_)
                    · refine lv_iload hx hb dX7_number_184 (lv_at hl 5 rfl) ?_
                      exact RET _ _ _ _ _ _ _ HX2164 dX7_number_186 (by rw [hk0]; decide) (⟨rfl, ⟨⟨(by rw [hk0, ← hk3, fa_mre_e (Or.inr (Or.inr (by rw [fa_dgeq hd0, ← fa_tens, ← congrFun hi_88.2.2.2.2.2.2 mt]; exact Int32.not_le.mpr c_138))) _, if_pos (hk2.pos (by decide))]), mt, no, ⟨by omega, by omega, by omega, fa_is.mk (by rw [← hk3, fa_mre_e (Or.inr (Or.inr (by rw [fa_dgeq hd0, ← fa_tens, ← congrFun hi_88.2.2.2.2.2.2 mt]; exact Int32.not_le.mpr c_138))) _]), fa_is.mk rfl⟩, (show v2160 397 12 = nI (mt) from hi_88.2.2.1), (show v2160 397 11 = nI (no) from hi_88.2.2.2.1), (show fa_f3 v v2160 from (fa_f3.tr fa_f3.rf hi_88.2.2.2.2.1)), ⟨(fun _ => by rw [← hk3, fa_mre_e (Or.inr (Or.inr (by rw [fa_dgeq hd0, ← fa_tens, ← congrFun hi_88.2.2.2.2.2.2 mt]; exact Int32.not_le.mpr c_138))) _]), (fun i hi => by (show v2160 403 i = v 403 i; exact hi_88.2.2.2.2.2.1 i hi))⟩⟩, (fa_fr.tr fa_fr.rf (fa_fr.wide (fa_f3.fr hi_88.2.2.2.2.1) (by omega) (by omega)))⟩⟩)
                    · refine lv_aload_n hx hb dX7_number_141 rfl (lv_at hl 0 rfl) ?_
                      refine fa_getr (k := 397) (j := 403) CX HX2164 fl_X7_26 (by omega) rfl rfl hM.2.2.2.2.2.1 dX7_number_142 ?_
                      refine lv_iload hx hb dX7_number_145 (lv_at hl 4 rfl) ?_
                      refine lv_bipush (v := nI (10)) hx hb dX7_number_147 (by decide) ?_
                      refine lv_aload_n hx hb dX7_number_149 rfl (lv_at hl 0 rfl) ?_
                      refine fa_getr (k := 397) (j := 403) CX HX2164 fl_X7_26 (by omega) rfl rfl hM.2.2.2.2.2.1 dX7_number_150 ?_
                      refine lv_iload hx hb dX7_number_153 (lv_at hl 4 rfl) ?_
                      refine fa_iald (k := 403) (j := 4 * no + u) CX HX2164 (by omega) rfl (by omega) (by first | decide | assumption) dX7_number_155 ?_
                      refine lv_imul hx hb dX7_number_156 ?_
                      refine lv_aload_n hx hb dX7_number_157 rfl (lv_at hl 0 rfl) ?_
                      refine fa_getr (k := 397) (j := 405) CX HX2164 fl_X7_32 (by omega) rfl rfl hM.2.2.2.2.2.2.2 dX7_number_158 ?_
                      refine lv_aload_n hx hb dX7_number_161 rfl (lv_at hl 0 rfl) ?_
                      refine fa_geti (k := 397) CX HX2164 fl_X7_134 (by omega) rfl rfl dX7_number_162 ?_
                      rw [show v2160 397 12 = nI (mt) from hi_88.2.2.1]
                      refine fa_cald (k := 405) (j := mt) CX HX2164 (by omega) rfl (by omega) (by first | decide | assumption) dX7_number_165 ?_
                      refine lv_iadd hx hb dX7_number_166 ?_
                      refine lv_bipush (v := nI (48)) hx hb dX7_number_167 (by decide) ?_
                      refine lv_isub hx hb dX7_number_169 ?_
                      refine fa_iast (k := 403) (j := 4 * no + u) CX HX2164 (by omega) rfl (by omega) (by first | decide | assumption) dX7_number_170 (fun H locs v2165 e2166 HX2167 => ?_)
                      refine lv_aload_n hx hb dX7_number_171 rfl (lv_at hl 0 rfl) ?_
                      refine lv_dup hx hb dX7_number_172 rfl ?_
                      refine fa_geti (k := 397) CX HX2167 fl_X7_134 (by omega) rfl rfl dX7_number_173 ?_
                      rw [show v2165 397 12 = nI (mt) from (by rw [e2166, fa_u_n _ _ (by omega)]; exact hi_88.2.2.1)]
                      refine lv_iconst (v := nI (1)) hx hb dX7_number_176 (by decide) ?_
                      refine fa_iaddN hx hb dX7_number_177 ?_
                      refine fa_puti (k := 397) CX HX2167 fl_X7_134 (by omega) rfl rfl rfl rfl dX7_number_178 (fun H locs v2168 e2169 HX2170 => ?_)
                      refine lv_goto (tgt := 88) hx hb dX7_number_181 (by decide) ?_
                      exact ih_88 (mt + 1) (ok) v2168 _ _ _ (by omega) (⟨⟨by omega, by omega⟩, (Or.inr ⟨hk0, by omega, (by rw [(show v2168 403 (4 * no + u) = v2160 403 (4 * no + u) * nI 10 + fa_dg (fa_sg t n9 mt) from by rw [e2169, fa_u_k _ _ (by decide), e2166, fa_u_s, fa_dgeq hd0, ← fa_tens, ← congrFun hi_88.2.2.2.2.2.2 mt])]; exact fa_stepv hk2 hhi (let ⟨e, he, e1, _⟩ := fa_dg_ok _ hd0; ⟨e, he, e1⟩) (show v2160 403 (4 * no + u) * nI 10 + fa_dg (fa_sg t n9 mt) ≤ a3 from by rw [fa_dgeq hd0, ← fa_tens, ← congrFun hi_88.2.2.2.2.2.2 mt]; exact Int32.not_lt.mp c_138)), (by rw [(show v2168 403 (4 * no + u) = v2160 403 (4 * no + u) * nI 10 + fa_dg (fa_sg t n9 mt) from by rw [e2169, fa_u_k _ _ (by decide), e2166, fa_u_s, fa_dgeq hd0, ← fa_tens, ← congrFun hi_88.2.2.2.2.2.2 mt]), ← hk3, show mt + 1 - (na + 1) = mt - (na + 1) + 1 by omega]; exact fa_mre_s (by omega) hd0 (show ¬ v2160 403 (4 * no + u) = 0 from fun z => c_100 (by rw [z]; decide)) (show v2160 403 (4 * no + u) * nI 10 + fa_dg (fa_sg t n9 mt) ≤ a3 from by rw [fa_dgeq hd0, ← fa_tens, ← congrFun hi_88.2.2.2.2.2.2 mt]; exact Int32.not_lt.mp c_138))⟩), (by rw [e2169, fa_u_s]), (by rw [e2169, fa_u_n _ _ (by omega)]; exact (by rw [e2166, fa_u_n _ _ (by omega)]; exact hi_88.2.2.2.1)), (by rw [e2169]; exact fa_f3.w (by rw [e2166]; exact fa_f3.u (fa_f3.tr fa_f3.rf hi_88.2.2.2.2.1)) (by decide)), (fun i hi => by (show v2168 403 i = v 403 i; rw [e2169, fa_u_k _ _ (by decide), e2166, fa_u_n _ _ (by omega)]; exact hi_88.2.2.2.2.2.1 i hi)), (((congrFun e2169 405).trans (fa_u_k _ _ (by decide))).trans (((congrFun e2166 405).trans (fa_u_k _ _ (by decide))).trans hi_88.2.2.2.2.2.2))⟩) (lv_sub hl [0, 1, 2, 3, 4, 5] rfl) HX2170
          exact LOOP_88 (61 - (na + 1) + 1) (na + 1) (nI (1)) v2157 _ _ _ (Nat.lt_succ_self _) (⟨⟨by omega, by omega⟩, (Or.inr ⟨rfl, Nat.le_refl _, (by rw [(show v2157 403 (4 * no + u) = fa_dg (fa_sg t n9 na) from by rw [e2158, fa_u_k _ _ (by decide)]; exact hq)]; exact fa_dg_okv hd0 (by decide)), (by rw [(show v2157 403 (4 * no + u) = fa_dg (fa_sg t n9 na) from by rw [e2158, fa_u_k _ _ (by decide)]; exact hq), hnum.1, show na + 1 - (na + 1) = 0 by omega])⟩), (by rw [e2158, fa_u_s]), (by rw [e2158, fa_u_n _ _ (by omega)]; exact (by rw [e2141, fa_u_n _ _ (by omega)]; exact gO)), (by rw [e2158]; exact fa_f3.w (by rw [e2141]; exact fa_f3.u fa_f3.rf) (by decide)), (fun i hi => by (show v2157 403 i = v 403 i; rw [e2158, fa_u_k _ _ (by decide), e2141, fa_u_n _ _ (by omega)])), (((congrFun e2158 405).trans (fa_u_k _ _ (by decide))).trans (((congrFun e2141 405).trans (fa_u_k _ _ (by decide))).trans h5))⟩) (lv_sub hl [2, 3, 4, 5, 1, 0] rfl) HX2159
    · have hz : fa_dg (fa_sg t n9 na) < a2 ∨ ¬ fa_dg (fa_sg t n9 na) ≤ a3 := Or.inl (Decidable.not_not.mp (fun z => fa_ifn hxs (by first | exact c_27 | exact Decidable.not_not.mp c_27) ((fa_num_dig hlo hdd).mpr z)))
      refine lv_iconst (v := nI (0)) hx hb dX7_number_30 (by decide) ?_
      exact RET _ _ _ _ _ _ _ HX2139 dX7_number_31 (by decide) (⟨rfl, ⟨⟨(by rw [fa_num_f hz]; exact (if_neg fa_n1).symm), na, no, ⟨by omega, by omega, by omega, fa_is.mk (by rw [fa_num_f hz]), fa_is.mk rfl⟩, (show v 397 12 = nI (na) from gA), (show v 397 11 = nI (no) from gO), (show fa_f3 v v from fa_f3.rf), ⟨(fun z => absurd z (by rw [fa_num_f hz]; exact fa_n1)), (fun i hi => rfl)⟩⟩, fa_fr.rf⟩⟩)
  · have hdd : fa_dd a2 (nI 48) := Or.inl ⟨(by first | exact c_12 | exact Decidable.not_not.mp c_12), rfl⟩
    refine lv_bipush (v := nI (48)) hx hb dX7_number_15 (by decide) ?_
    refine lv_goto (tgt := 22) hx hb dX7_number_17 (by decide) ?_
    refine lv_bipush (v := nI (57)) hx hb dX7_number_22 (by decide) ?_
    refine fa_callVip (As := [.int (nI (48)), .int (nI (57))]) (rest := []) CX HX (r_isSign l G n hn v r hM (n9) (na) (no) (by omega) (by omega) (by omega) g9 gA gO t h5 (nI (48)) (nI (57))) ln_X7_137 (by omega) rfl rfl rfl rfl (Nat.le_of_ble_eq_true rfl) hl.1 ⟨Nat.le_of_ble_eq_true rfl, Nat.le_of_ble_eq_true rfl⟩ ⟨Nat.le_refl _, Nat.le_refl _⟩ dX7_number_24 (fun x2172 H locs h2171 HX2173 => ?_)
    have hx_x2172 := h2171
    have hxs := hx_x2172
    refine lv_if_ne (tgt := 32) hx hb dX7_number_27 (by decide) (fun c_27 => ?_) (fun c_27 => ?_)
    · have hdig := (fa_num_dig hlo hdd).mp (fa_ift hxs c_27)
      have hd0 := fa_num_lo hlo hdig
      have hlt := fa_dg_lt hd0
      refine lv_aload_n hx hb dX7_number_32 rfl (lv_at hl 1 rfl) ?_
      refine fa_getr (k := 397) (j := 403) CX HX2173 fl_X7_26 (by omega) rfl rfl hM.2.2.2.2.2.1 dX7_number_33 ?_
      refine lv_iload hx hb dX7_number_36 (lv_at hl 0 rfl) ?_
      refine lv_aload_n hx hb dX7_number_38 rfl (lv_at hl 1 rfl) ?_
      refine fa_getr (k := 397) (j := 405) CX HX2173 fl_X7_32 (by omega) rfl rfl hM.2.2.2.2.2.2.2 dX7_number_39 ?_
      refine lv_aload_n hx hb dX7_number_42 rfl (lv_at hl 1 rfl) ?_
      refine fa_geti (k := 397) CX HX2173 fl_X7_134 (by omega) rfl rfl dX7_number_43 ?_
      rw [show v 397 12 = nI (na) from gA]
      refine fa_cald (k := 405) (j := na) CX HX2173 (by omega) rfl (by omega) (by first | decide | assumption) dX7_number_46 ?_
      refine lv_bipush (v := nI (48)) hx hb dX7_number_47 (by decide) ?_
      refine lv_isub hx hb dX7_number_49 ?_
      refine fa_iast (k := 403) (j := 4 * no + u) CX HX2173 (by omega) rfl (by omega) (by first | decide | assumption) dX7_number_50 (fun H locs v2174 e2175 HX2176 => ?_)
      have hq : v2174 403 (4 * no + u) = fa_dg (fa_sg t n9 na) := by rw [e2175, fa_u_s, fa_dgeq hd0, ← congrFun h5 na]
      refine lv_aload_n hx hb dX7_number_51 rfl (lv_at hl 1 rfl) ?_
      refine fa_getr (k := 397) (j := 403) CX HX2176 fl_X7_26 (by omega) rfl rfl hM.2.2.2.2.2.1 dX7_number_52 ?_
      refine lv_iload hx hb dX7_number_55 (lv_at hl 0 rfl) ?_
      refine fa_iald (k := 403) (j := 4 * no + u) CX HX2176 (by omega) rfl (by omega) (by first | decide | assumption) dX7_number_57 ?_
      refine lv_iload_n hx hb dX7_number_58 rfl (lv_at hl 4 rfl) ?_
      refine lv_icmp_gt (tgt := 66) hx hb dX7_number_59 (by decide) (fun c_59 => ?_) (fun c_59 => ?_)
      · have hz : fa_dg (fa_sg t n9 na) < a2 ∨ ¬ fa_dg (fa_sg t n9 na) ≤ a3 := Or.inr (by
          rw [← hq]
          exact Int32.not_le.mpr c_59)
        refine lv_iconst (v := nI (0)) hx hb dX7_number_66 (by decide) ?_
        refine lv_istore (lv' := [(5, .int (nI (0))), (4, .int (nI (4 * no + u))), (0, .ref (fa_B G + (397))), (1, .int (nI (u))), (2, .int (a2)), (3, .int (a3))]) hx hb dX7_number_67 hl (by decide) rfl (fun ls hl => ?_)
        refine lv_aload_n hx hb dX7_number_69 rfl (lv_at hl 2 rfl) ?_
        refine lv_dup hx hb dX7_number_70 rfl ?_
        refine fa_geti (k := 397) CX HX2176 fl_X7_134 (by omega) rfl rfl dX7_number_71 ?_
        rw [show v2174 397 12 = nI (na) from (by rw [e2175, fa_u_n _ _ (by omega)]; exact gA)]
        refine lv_iload hx hb dX7_number_74 (lv_at hl 0 rfl) ?_
        refine lv_if_eq (tgt := 83) hx hb dX7_number_76 (by decide) (fun c_76 => ?_) (fun c_76 => ?_)
        · refine lv_iconst (v := nI (0)) hx hb dX7_number_83 (by decide) ?_
          refine fa_iaddN hx hb dX7_number_84 ?_
          refine fa_puti (k := 397) CX HX2176 fl_X7_134 (by omega) rfl rfl rfl rfl dX7_number_85 (fun H locs v2177 e2178 HX2179 => ?_)
          have LOOP_88 : ∀ (fu : Nat) (mt : Nat) (ok : Int32) (v2180 : fa_V) (H : Heap) (locs : List Loc) (ls : Array Slot), 61 - mt < fu → ((na ≤ mt ∧ mt ≤ n9) ∧ ((ok = nI 0 ∧ mt = na ∧ fa_num (fa_sg t n9) a2 a3 na = ((-1 : Int32), na)) ∨ (ok = nI 1 ∧ na + 1 ≤ mt ∧ fa_okv 400 (v2180 403 (4 * no + u)) ∧ fa_mre (fa_sg t n9) a3 (60 - (mt - (na + 1))) (v2180 403 (4 * no + u)) mt = fa_num (fa_sg t n9) a2 a3 na)) ∧ v2180 397 12 = nI mt ∧ v2180 397 11 = nI no ∧ fa_f3 v v2180 ∧ (∀ i, ¬ i = (4 * no + u) → v2180 403 i = v 403 i) ∧ v2180 405 = t) → lv_has ls 6 [(0, .ref (fa_B G + (397))), (1, .int (nI (u))), (2, .int (a2)), (3, .int (a3)), (4, .int (nI (4 * no + u))), (5, .int (ok))] → fa_HX G (n) v2180 r s H locs → W p l e (fa_rm 3) s m args below meth c H locs (0) (0) Q (F0 m 88 ls []) := by
            intro fu
            induction fu with
            | zero => intro mt ok v2180 H locs ls hk; exact absurd hk (Nat.not_lt_zero _)
            | succ fu ih_88 =>
              intro mt ok v2180 H locs ls hk_88 hi_88 hl HX2181
              refine lv_iload hx hb dX7_number_88 (lv_at hl 5 rfl) ?_
              refine lv_if_eq (tgt := 184) hx hb dX7_number_90 (by decide) (fun c_90 => ?_) (fun c_90 => ?_)
              · obtain ⟨hk0, hk1, hk2⟩ := hi_88.2.1.resolve_right (fun z => by
                  rw [z.1] at c_90
                  exact absurd c_90 (by decide))
                refine lv_iload hx hb dX7_number_184 (lv_at hl 5 rfl) ?_
                exact RET _ _ _ _ _ _ _ HX2181 dX7_number_186 (by rw [hk0]; decide) (⟨rfl, ⟨⟨(by rw [hk0, hk2]; exact (if_neg fa_n1).symm), mt, no, ⟨by omega, by omega, by omega, fa_is.mk (by rw [hk2]; exact hk1), fa_is.mk rfl⟩, (show v2180 397 12 = nI (mt) from hi_88.2.2.1), (show v2180 397 11 = nI (no) from hi_88.2.2.2.1), (show fa_f3 v v2180 from (fa_f3.tr fa_f3.rf hi_88.2.2.2.2.1)), ⟨(fun z => absurd z (by rw [hk2]; exact fa_n1)), (fun i hi => by (show v2180 403 i = v 403 i; exact hi_88.2.2.2.2.2.1 i hi))⟩⟩, (fa_fr.tr fa_fr.rf (fa_fr.wide (fa_f3.fr hi_88.2.2.2.2.1) (by omega) (by omega)))⟩⟩)
              · obtain ⟨hk0, hk1, hk2, hk3⟩ := hi_88.2.1.resolve_left (fun z => c_90 (by
                  rw [z.1]
                  decide))
                refine lv_aload_n hx hb dX7_number_93 rfl (lv_at hl 0 rfl) ?_
                refine fa_getr (k := 397) (j := 403) CX HX2181 fl_X7_26 (by omega) rfl rfl hM.2.2.2.2.2.1 dX7_number_94 ?_
                refine lv_iload hx hb dX7_number_97 (lv_at hl 4 rfl) ?_
                refine fa_iald (k := 403) (j := 4 * no + u) CX HX2181 (by omega) rfl (by omega) (by first | decide | assumption) dX7_number_99 ?_
                refine lv_if_le (tgt := 184) hx hb dX7_number_100 (by decide) (fun c_100 => ?_) (fun c_100 => ?_)
                · refine lv_iload hx hb dX7_number_184 (lv_at hl 5 rfl) ?_
                  exact RET _ _ _ _ _ _ _ HX2181 dX7_number_186 (by rw [hk0]; decide) (⟨rfl, ⟨⟨(by rw [hk0, ← hk3, fa_mre_e (Or.inr (Or.inl (fa_le0 hk2 (by decide) c_100))) _, if_pos (hk2.pos (by decide))]), mt, no, ⟨by omega, by omega, by omega, fa_is.mk (by rw [← hk3, fa_mre_e (Or.inr (Or.inl (fa_le0 hk2 (by decide) c_100))) _]), fa_is.mk rfl⟩, (show v2180 397 12 = nI (mt) from hi_88.2.2.1), (show v2180 397 11 = nI (no) from hi_88.2.2.2.1), (show fa_f3 v v2180 from (fa_f3.tr fa_f3.rf hi_88.2.2.2.2.1)), ⟨(fun _ => by rw [← hk3, fa_mre_e (Or.inr (Or.inl (fa_le0 hk2 (by decide) c_100))) _]), (fun i hi => by (show v2180 403 i = v 403 i; exact hi_88.2.2.2.2.2.1 i hi))⟩⟩, (fa_fr.tr fa_fr.rf (fa_fr.wide (fa_f3.fr hi_88.2.2.2.2.1) (by omega) (by omega)))⟩⟩)
                · refine lv_aload_n hx hb dX7_number_103 rfl (lv_at hl 0 rfl) ?_
                  refine lv_bipush (v := nI (48)) hx hb dX7_number_104 (by decide) ?_
                  refine lv_bipush (v := nI (57)) hx hb dX7_number_106 (by decide) ?_
                  refine fa_callVip (As := [.int (nI (48)), .int (nI (57))]) (rest := []) CX HX2181 (r_isSign l G n hn v2180 r hM (n9) (mt) (no) (by omega) (by omega) (by omega) ((hi_88.2.2.2.2.1.2 9 (by decide) (by decide)).trans g9) hi_88.2.2.1 hi_88.2.2.2.1 t hi_88.2.2.2.2.2.2 (nI (48)) (nI (57))) ln_X7_137 (by omega) rfl rfl rfl rfl (Nat.le_of_ble_eq_true rfl) hl.1 ⟨Nat.le_of_ble_eq_true rfl, Nat.le_of_ble_eq_true rfl⟩ ⟨Nat.le_refl _, Nat.le_refl _⟩ dX7_number_108 (fun x2183 H locs h2182 HX2184 => ?_)
                  have hx_x2183 := h2182
                  have hxs2 := hx_x2183
                  refine lv_if_eq (tgt := 184) hx hb dX7_number_111 (by decide) (fun c_111 => ?_) (fun c_111 => ?_)
                  · refine lv_iload hx hb dX7_number_184 (lv_at hl 5 rfl) ?_
                    exact RET _ _ _ _ _ _ _ HX2184 dX7_number_186 (by rw [hk0]; decide) (⟨rfl, ⟨⟨(by rw [hk0, ← hk3, fa_mre_e (Or.inl (Decidable.not_not.mp (fun z => fa_ifn hxs2 c_111 (fa_dig2.mpr z)))) _, if_pos (hk2.pos (by decide))]), mt, no, ⟨by omega, by omega, by omega, fa_is.mk (by rw [← hk3, fa_mre_e (Or.inl (Decidable.not_not.mp (fun z => fa_ifn hxs2 c_111 (fa_dig2.mpr z)))) _]), fa_is.mk rfl⟩, (show v2180 397 12 = nI (mt) from hi_88.2.2.1), (show v2180 397 11 = nI (no) from hi_88.2.2.2.1), (show fa_f3 v v2180 from (fa_f3.tr fa_f3.rf hi_88.2.2.2.2.1)), ⟨(fun _ => by rw [← hk3, fa_mre_e (Or.inl (Decidable.not_not.mp (fun z => fa_ifn hxs2 c_111 (fa_dig2.mpr z)))) _]), (fun i hi => by (show v2180 403 i = v 403 i; exact hi_88.2.2.2.2.2.1 i hi))⟩⟩, (fa_fr.tr fa_fr.rf (fa_fr.wide (fa_f3.fr hi_88.2.2.2.2.1) (by omega) (by omega)))⟩⟩)
                  · have hd0 : ¬ fa_dg (fa_sg t n9 mt) < 0 := fa_dig2.mp (fa_ift hxs2 c_111)
                    have hlt2 := fa_dg_lt hd0
                    refine lv_bipush (v := nI (10)) hx hb dX7_number_114 (by decide) ?_
                    refine lv_aload_n hx hb dX7_number_116 rfl (lv_at hl 0 rfl) ?_
                    refine fa_getr (k := 397) (j := 403) CX HX2184 fl_X7_26 (by omega) rfl rfl hM.2.2.2.2.2.1 dX7_number_117 ?_
                    refine lv_iload hx hb dX7_number_120 (lv_at hl 4 rfl) ?_
                    refine fa_iald (k := 403) (j := 4 * no + u) CX HX2184 (by omega) rfl (by omega) (by first | decide | assumption) dX7_number_122 ?_
                    refine lv_imul hx hb dX7_number_123 ?_
                    refine lv_aload_n hx hb dX7_number_124 rfl (lv_at hl 0 rfl) ?_
                    refine fa_getr (k := 397) (j := 405) CX HX2184 fl_X7_32 (by omega) rfl rfl hM.2.2.2.2.2.2.2 dX7_number_125 ?_
                    refine lv_aload_n hx hb dX7_number_128 rfl (lv_at hl 0 rfl) ?_
                    refine fa_geti (k := 397) CX HX2184 fl_X7_134 (by omega) rfl rfl dX7_number_129 ?_
                    rw [show v2180 397 12 = nI (mt) from hi_88.2.2.1]
                    refine fa_cald (k := 405) (j := mt) CX HX2184 (by omega) rfl (by omega) (by first | decide | assumption) dX7_number_132 ?_
                    refine lv_iadd hx hb dX7_number_133 ?_
                    refine lv_bipush (v := nI (48)) hx hb dX7_number_134 (by decide) ?_
                    refine lv_isub hx hb dX7_number_136 ?_
                    refine lv_iload_n hx hb dX7_number_137 rfl (lv_at hl 3 rfl) ?_
                    refine lv_icmp_gt (tgt := 184) hx hb dX7_number_138 (by decide) (fun c_138 => ?_) (fun c_138 => ?_)
                    · refine lv_iload hx hb dX7_number_184 (lv_at hl 5 rfl) ?_
                      exact RET _ _ _ _ _ _ _ HX2184 dX7_number_186 (by rw [hk0]; decide) (⟨rfl, ⟨⟨(by rw [hk0, ← hk3, fa_mre_e (Or.inr (Or.inr (by rw [fa_dgeq hd0, ← fa_tens, ← congrFun hi_88.2.2.2.2.2.2 mt]; exact Int32.not_le.mpr c_138))) _, if_pos (hk2.pos (by decide))]), mt, no, ⟨by omega, by omega, by omega, fa_is.mk (by rw [← hk3, fa_mre_e (Or.inr (Or.inr (by rw [fa_dgeq hd0, ← fa_tens, ← congrFun hi_88.2.2.2.2.2.2 mt]; exact Int32.not_le.mpr c_138))) _]), fa_is.mk rfl⟩, (show v2180 397 12 = nI (mt) from hi_88.2.2.1), (show v2180 397 11 = nI (no) from hi_88.2.2.2.1), (show fa_f3 v v2180 from (fa_f3.tr fa_f3.rf hi_88.2.2.2.2.1)), ⟨(fun _ => by rw [← hk3, fa_mre_e (Or.inr (Or.inr (by rw [fa_dgeq hd0, ← fa_tens, ← congrFun hi_88.2.2.2.2.2.2 mt]; exact Int32.not_le.mpr c_138))) _]), (fun i hi => by (show v2180 403 i = v 403 i; exact hi_88.2.2.2.2.2.1 i hi))⟩⟩, (fa_fr.tr fa_fr.rf (fa_fr.wide (fa_f3.fr hi_88.2.2.2.2.1) (by omega) (by omega)))⟩⟩)
                    · refine lv_aload_n hx hb dX7_number_141 rfl (lv_at hl 0 rfl) ?_
                      refine fa_getr (k := 397) (j := 403) CX HX2184 fl_X7_26 (by omega) rfl rfl hM.2.2.2.2.2.1 dX7_number_142 ?_
                      refine lv_iload hx hb dX7_number_145 (lv_at hl 4 rfl) ?_
                      refine lv_bipush (v := nI (10)) hx hb dX7_number_147 (by decide) ?_
                      refine lv_aload_n hx hb dX7_number_149 rfl (lv_at hl 0 rfl) ?_
                      refine fa_getr (k := 397) (j := 403) CX HX2184 fl_X7_26 (by omega) rfl rfl hM.2.2.2.2.2.1 dX7_number_150 ?_
                      refine lv_iload hx hb dX7_number_153 (lv_at hl 4 rfl) ?_
                      refine fa_iald (k := 403) (j := 4 * no + u) CX HX2184 (by omega) rfl (by omega) (by first | decide | assumption) dX7_number_155 ?_
                      refine lv_imul hx hb dX7_number_156 ?_
                      refine lv_aload_n hx hb dX7_number_157 rfl (lv_at hl 0 rfl) ?_
                      refine fa_getr (k := 397) (j := 405) CX HX2184 fl_X7_32 (by omega) rfl rfl hM.2.2.2.2.2.2.2 dX7_number_158 ?_
                      refine lv_aload_n hx hb dX7_number_161 rfl (lv_at hl 0 rfl) ?_
                      refine fa_geti (k := 397) CX HX2184 fl_X7_134 (by omega) rfl rfl dX7_number_162 ?_
                      rw [show v2180 397 12 = nI (mt) from hi_88.2.2.1]
                      refine fa_cald (k := 405) (j := mt) CX HX2184 (by omega) rfl (by omega) (by first | decide | assumption) dX7_number_165 ?_
                      refine lv_iadd hx hb dX7_number_166 ?_
                      refine lv_bipush (v := nI (48)) hx hb dX7_number_167 (by decide) ?_
                      refine lv_isub hx hb dX7_number_169 ?_
                      refine fa_iast (k := 403) (j := 4 * no + u) CX HX2184 (by omega) rfl (by omega) (by first | decide | assumption) dX7_number_170 (fun H locs v2185 e2186 HX2187 => ?_)
                      refine lv_aload_n hx hb dX7_number_171 rfl (lv_at hl 0 rfl) ?_
                      refine lv_dup hx hb dX7_number_172 rfl ?_
                      refine fa_geti (k := 397) CX HX2187 fl_X7_134 (by omega) rfl rfl dX7_number_173 ?_
                      rw [show v2185 397 12 = nI (mt) from (by rw [e2186, fa_u_n _ _ (by omega)]; exact hi_88.2.2.1)]
                      refine lv_iconst (v := nI (1)) hx hb dX7_number_176 (by decide) ?_
                      refine fa_iaddN hx hb dX7_number_177 ?_
                      refine fa_puti (k := 397) CX HX2187 fl_X7_134 (by omega) rfl rfl rfl rfl dX7_number_178 (fun H locs v2188 e2189 HX2190 => ?_)
                      refine lv_goto (tgt := 88) hx hb dX7_number_181 (by decide) ?_
                      exact ih_88 (mt + 1) (ok) v2188 _ _ _ (by omega) (⟨⟨by omega, by omega⟩, (Or.inr ⟨hk0, by omega, (by rw [(show v2188 403 (4 * no + u) = v2180 403 (4 * no + u) * nI 10 + fa_dg (fa_sg t n9 mt) from by rw [e2189, fa_u_k _ _ (by decide), e2186, fa_u_s, fa_dgeq hd0, ← fa_tens, ← congrFun hi_88.2.2.2.2.2.2 mt])]; exact fa_stepv hk2 hhi (let ⟨e, he, e1, _⟩ := fa_dg_ok _ hd0; ⟨e, he, e1⟩) (show v2180 403 (4 * no + u) * nI 10 + fa_dg (fa_sg t n9 mt) ≤ a3 from by rw [fa_dgeq hd0, ← fa_tens, ← congrFun hi_88.2.2.2.2.2.2 mt]; exact Int32.not_lt.mp c_138)), (by rw [(show v2188 403 (4 * no + u) = v2180 403 (4 * no + u) * nI 10 + fa_dg (fa_sg t n9 mt) from by rw [e2189, fa_u_k _ _ (by decide), e2186, fa_u_s, fa_dgeq hd0, ← fa_tens, ← congrFun hi_88.2.2.2.2.2.2 mt]), ← hk3, show mt + 1 - (na + 1) = mt - (na + 1) + 1 by omega]; exact fa_mre_s (by omega) hd0 (show ¬ v2180 403 (4 * no + u) = 0 from fun z => c_100 (by rw [z]; decide)) (show v2180 403 (4 * no + u) * nI 10 + fa_dg (fa_sg t n9 mt) ≤ a3 from by rw [fa_dgeq hd0, ← fa_tens, ← congrFun hi_88.2.2.2.2.2.2 mt]; exact Int32.not_lt.mp c_138))⟩), (by rw [e2189, fa_u_s]), (by rw [e2189, fa_u_n _ _ (by omega)]; exact (by rw [e2186, fa_u_n _ _ (by omega)]; exact hi_88.2.2.2.1)), (by rw [e2189]; exact fa_f3.w (by rw [e2186]; exact fa_f3.u (fa_f3.tr fa_f3.rf hi_88.2.2.2.2.1)) (by decide)), (fun i hi => by (show v2188 403 i = v 403 i; rw [e2189, fa_u_k _ _ (by decide), e2186, fa_u_n _ _ (by omega)]; exact hi_88.2.2.2.2.2.1 i hi)), (((congrFun e2189 405).trans (fa_u_k _ _ (by decide))).trans (((congrFun e2186 405).trans (fa_u_k _ _ (by decide))).trans hi_88.2.2.2.2.2.2))⟩) (lv_sub hl [0, 1, 2, 3, 4, 5] rfl) HX2190
          exact LOOP_88 (61 - (na + 0) + 1) (na + 0) (nI (0)) v2177 _ _ _ (Nat.lt_succ_self _) (⟨⟨by omega, by omega⟩, (Or.inl ⟨rfl, rfl, fa_num_f hz⟩), (by rw [e2178, fa_u_s]), (by rw [e2178, fa_u_n _ _ (by omega)]; exact (by rw [e2175, fa_u_n _ _ (by omega)]; exact gO)), (by rw [e2178]; exact fa_f3.w (by rw [e2175]; exact fa_f3.u fa_f3.rf) (by decide)), (fun i hi => by (show v2177 403 i = v 403 i; rw [e2178, fa_u_k _ _ (by decide), e2175, fa_u_n _ _ (by omega)])), (((congrFun e2178 405).trans (fa_u_k _ _ (by decide))).trans (((congrFun e2175 405).trans (fa_u_k _ _ (by decide))).trans h5))⟩) (lv_sub hl [2, 3, 4, 5, 1, 0] rfl) HX2179
        · exact absurd (by try decide) c_76
      · have hnum := fa_num_t (t := t) (n := n9) (a := na) hlo hhi (by
          rw [← hq]
          exact fun z => z.elim (by
            rw [hq]
            exact hdig) (fun z => z (Int32.not_lt.mp c_59)))
        refine lv_iconst (v := nI (1)) hx hb dX7_number_62 (by decide) ?_
        refine lv_goto (tgt := 67) hx hb dX7_number_63 (by decide) ?_
        refine lv_istore (lv' := [(5, .int (nI (1))), (4, .int (nI (4 * no + u))), (0, .ref (fa_B G + (397))), (1, .int (nI (u))), (2, .int (a2)), (3, .int (a3))]) hx hb dX7_number_67 hl (by decide) rfl (fun ls hl => ?_)
        refine lv_aload_n hx hb dX7_number_69 rfl (lv_at hl 2 rfl) ?_
        refine lv_dup hx hb dX7_number_70 rfl ?_
        refine fa_geti (k := 397) CX HX2176 fl_X7_134 (by omega) rfl rfl dX7_number_71 ?_
        rw [show v2174 397 12 = nI (na) from (by rw [e2175, fa_u_n _ _ (by omega)]; exact gA)]
        refine lv_iload hx hb dX7_number_74 (lv_at hl 0 rfl) ?_
        refine lv_if_eq (tgt := 83) hx hb dX7_number_76 (by decide) (fun c_76 => ?_) (fun c_76 => ?_)
        · exact absurd c_76 (by try decide)
        · refine lv_iconst (v := nI (1)) hx hb dX7_number_79 (by decide) ?_
          refine lv_goto (tgt := 84) hx hb dX7_number_80 (by decide) ?_
          refine fa_iaddN hx hb dX7_number_84 ?_
          refine fa_puti (k := 397) CX HX2176 fl_X7_134 (by omega) rfl rfl rfl rfl dX7_number_85 (fun H locs v2191 e2192 HX2193 => ?_)
          have LOOP_88 : ∀ (fu : Nat) (mt : Nat) (ok : Int32) (v2194 : fa_V) (H : Heap) (locs : List Loc) (ls : Array Slot), 61 - mt < fu → ((na ≤ mt ∧ mt ≤ n9) ∧ ((ok = nI 0 ∧ mt = na ∧ fa_num (fa_sg t n9) a2 a3 na = ((-1 : Int32), na)) ∨ (ok = nI 1 ∧ na + 1 ≤ mt ∧ fa_okv 400 (v2194 403 (4 * no + u)) ∧ fa_mre (fa_sg t n9) a3 (60 - (mt - (na + 1))) (v2194 403 (4 * no + u)) mt = fa_num (fa_sg t n9) a2 a3 na)) ∧ v2194 397 12 = nI mt ∧ v2194 397 11 = nI no ∧ fa_f3 v v2194 ∧ (∀ i, ¬ i = (4 * no + u) → v2194 403 i = v 403 i) ∧ v2194 405 = t) → lv_has ls 6 [(0, .ref (fa_B G + (397))), (1, .int (nI (u))), (2, .int (a2)), (3, .int (a3)), (4, .int (nI (4 * no + u))), (5, .int (ok))] → fa_HX G (n) v2194 r s H locs → W p l e (fa_rm 3) s m args below meth c H locs (0) (0) Q (F0 m 88 ls []) := by
            intro fu
            induction fu with
            | zero => intro mt ok v2194 H locs ls hk; exact absurd hk (Nat.not_lt_zero _)
            | succ fu ih_88 =>
              intro mt ok v2194 H locs ls hk_88 hi_88 hl HX2195
              refine lv_iload hx hb dX7_number_88 (lv_at hl 5 rfl) ?_
              refine lv_if_eq (tgt := 184) hx hb dX7_number_90 (by decide) (fun c_90 => ?_) (fun c_90 => ?_)
              · obtain ⟨hk0, hk1, hk2⟩ := hi_88.2.1.resolve_right (fun z => by
                  rw [z.1] at c_90
                  exact absurd c_90 (by decide))
                refine lv_iload hx hb dX7_number_184 (lv_at hl 5 rfl) ?_
                exact RET _ _ _ _ _ _ _ HX2195 dX7_number_186 (by rw [hk0]; decide) (⟨rfl, ⟨⟨(by rw [hk0, hk2]; exact (if_neg fa_n1).symm), mt, no, ⟨by omega, by omega, by omega, fa_is.mk (by rw [hk2]; exact hk1), fa_is.mk rfl⟩, (show v2194 397 12 = nI (mt) from hi_88.2.2.1), (show v2194 397 11 = nI (no) from hi_88.2.2.2.1), (show fa_f3 v v2194 from (fa_f3.tr fa_f3.rf hi_88.2.2.2.2.1)), ⟨(fun z => absurd z (by rw [hk2]; exact fa_n1)), (fun i hi => by (show v2194 403 i = v 403 i; exact hi_88.2.2.2.2.2.1 i hi))⟩⟩, (fa_fr.tr fa_fr.rf (fa_fr.wide (fa_f3.fr hi_88.2.2.2.2.1) (by omega) (by omega)))⟩⟩)
              · obtain ⟨hk0, hk1, hk2, hk3⟩ := hi_88.2.1.resolve_left (fun z => c_90 (by
                  rw [z.1]
                  decide))
                refine lv_aload_n hx hb dX7_number_93 rfl (lv_at hl 0 rfl) ?_
                refine fa_getr (k := 397) (j := 403) CX HX2195 fl_X7_26 (by omega) rfl rfl hM.2.2.2.2.2.1 dX7_number_94 ?_
                refine lv_iload hx hb dX7_number_97 (lv_at hl 4 rfl) ?_
                refine fa_iald (k := 403) (j := 4 * no + u) CX HX2195 (by omega) rfl (by omega) (by first | decide | assumption) dX7_number_99 ?_
                refine lv_if_le (tgt := 184) hx hb dX7_number_100 (by decide) (fun c_100 => ?_) (fun c_100 => ?_)
                · refine lv_iload hx hb dX7_number_184 (lv_at hl 5 rfl) ?_
                  exact RET _ _ _ _ _ _ _ HX2195 dX7_number_186 (by rw [hk0]; decide) (⟨rfl, ⟨⟨(by rw [hk0, ← hk3, fa_mre_e (Or.inr (Or.inl (fa_le0 hk2 (by decide) c_100))) _, if_pos (hk2.pos (by decide))]), mt, no, ⟨by omega, by omega, by omega, fa_is.mk (by rw [← hk3, fa_mre_e (Or.inr (Or.inl (fa_le0 hk2 (by decide) c_100))) _]), fa_is.mk rfl⟩, (show v2194 397 12 = nI (mt) from hi_88.2.2.1), (show v2194 397 11 = nI (no) from hi_88.2.2.2.1), (show fa_f3 v v2194 from (fa_f3.tr fa_f3.rf hi_88.2.2.2.2.1)), ⟨(fun _ => by rw [← hk3, fa_mre_e (Or.inr (Or.inl (fa_le0 hk2 (by decide) c_100))) _]), (fun i hi => by (show v2194 403 i = v 403 i; exact hi_88.2.2.2.2.2.1 i hi))⟩⟩, (fa_fr.tr fa_fr.rf (fa_fr.wide (fa_f3.fr hi_88.2.2.2.2.1) (by omega) (by omega)))⟩⟩)
                · refine lv_aload_n hx hb dX7_number_103 rfl (lv_at hl 0 rfl) ?_
                  refine lv_bipush (v := nI (48)) hx hb dX7_number_104 (by decide) ?_
                  refine lv_bipush (v := nI (57)) hx hb dX7_number_106 (by decide) ?_
                  refine fa_callVip (As := [.int (nI (48)), .int (nI (57))]) (rest := []) CX HX2195 (r_isSign l G n hn v2194 r hM (n9) (mt) (no) (by omega) (by omega) (by omega) ((hi_88.2.2.2.2.1.2 9 (by decide) (by decide)).trans g9) hi_88.2.2.1 hi_88.2.2.2.1 t hi_88.2.2.2.2.2.2 (nI (48)) (nI (57))) ln_X7_137 (by omega) rfl rfl rfl rfl (Nat.le_of_ble_eq_true rfl) hl.1 ⟨Nat.le_of_ble_eq_true rfl, Nat.le_of_ble_eq_true rfl⟩ ⟨Nat.le_refl _, Nat.le_refl _⟩ dX7_number_108 (fun x2197 H locs h2196 HX2198 => ?_)
                  have hx_x2197 := h2196
                  have hxs2 := hx_x2197
                  refine lv_if_eq (tgt := 184) hx hb dX7_number_111 (by decide) (fun c_111 => ?_) (fun c_111 => ?_)
                  · refine lv_iload hx hb dX7_number_184 (lv_at hl 5 rfl) ?_
                    exact RET _ _ _ _ _ _ _ HX2198 dX7_number_186 (by rw [hk0]; decide) (⟨rfl, ⟨⟨(by rw [hk0, ← hk3, fa_mre_e (Or.inl (Decidable.not_not.mp (fun z => fa_ifn hxs2 c_111 (fa_dig2.mpr z)))) _, if_pos (hk2.pos (by decide))]), mt, no, ⟨by omega, by omega, by omega, fa_is.mk (by rw [← hk3, fa_mre_e (Or.inl (Decidable.not_not.mp (fun z => fa_ifn hxs2 c_111 (fa_dig2.mpr z)))) _]), fa_is.mk rfl⟩, (show v2194 397 12 = nI (mt) from hi_88.2.2.1), (show v2194 397 11 = nI (no) from hi_88.2.2.2.1), (show fa_f3 v v2194 from (fa_f3.tr fa_f3.rf hi_88.2.2.2.2.1)), ⟨(fun _ => by rw [← hk3, fa_mre_e (Or.inl (Decidable.not_not.mp (fun z => fa_ifn hxs2 c_111 (fa_dig2.mpr z)))) _]), (fun i hi => by (show v2194 403 i = v 403 i; exact hi_88.2.2.2.2.2.1 i hi))⟩⟩, (fa_fr.tr fa_fr.rf (fa_fr.wide (fa_f3.fr hi_88.2.2.2.2.1) (by omega) (by omega)))⟩⟩)
                  · have hd0 : ¬ fa_dg (fa_sg t n9 mt) < 0 := fa_dig2.mp (fa_ift hxs2 c_111)
                    have hlt2 := fa_dg_lt hd0
                    refine lv_bipush (v := nI (10)) hx hb dX7_number_114 (by decide) ?_
                    refine lv_aload_n hx hb dX7_number_116 rfl (lv_at hl 0 rfl) ?_
                    refine fa_getr (k := 397) (j := 403) CX HX2198 fl_X7_26 (by omega) rfl rfl hM.2.2.2.2.2.1 dX7_number_117 ?_
                    refine lv_iload hx hb dX7_number_120 (lv_at hl 4 rfl) ?_
                    refine fa_iald (k := 403) (j := 4 * no + u) CX HX2198 (by omega) rfl (by omega) (by first | decide | assumption) dX7_number_122 ?_
                    refine lv_imul hx hb dX7_number_123 ?_
                    refine lv_aload_n hx hb dX7_number_124 rfl (lv_at hl 0 rfl) ?_
                    refine fa_getr (k := 397) (j := 405) CX HX2198 fl_X7_32 (by omega) rfl rfl hM.2.2.2.2.2.2.2 dX7_number_125 ?_
                    refine lv_aload_n hx hb dX7_number_128 rfl (lv_at hl 0 rfl) ?_
                    refine fa_geti (k := 397) CX HX2198 fl_X7_134 (by omega) rfl rfl dX7_number_129 ?_
                    rw [show v2194 397 12 = nI (mt) from hi_88.2.2.1]
                    refine fa_cald (k := 405) (j := mt) CX HX2198 (by omega) rfl (by omega) (by first | decide | assumption) dX7_number_132 ?_
                    refine lv_iadd hx hb dX7_number_133 ?_
                    refine lv_bipush (v := nI (48)) hx hb dX7_number_134 (by decide) ?_
                    refine lv_isub hx hb dX7_number_136 ?_
                    refine lv_iload_n hx hb dX7_number_137 rfl (lv_at hl 3 rfl) ?_
                    refine lv_icmp_gt (tgt := 184) hx hb dX7_number_138 (by decide) (fun c_138 => ?_) (fun c_138 => ?_)
                    · refine lv_iload hx hb dX7_number_184 (lv_at hl 5 rfl) ?_
                      exact RET _ _ _ _ _ _ _ HX2198 dX7_number_186 (by rw [hk0]; decide) (⟨rfl, ⟨⟨(by rw [hk0, ← hk3, fa_mre_e (Or.inr (Or.inr (by rw [fa_dgeq hd0, ← fa_tens, ← congrFun hi_88.2.2.2.2.2.2 mt]; exact Int32.not_le.mpr c_138))) _, if_pos (hk2.pos (by decide))]), mt, no, ⟨by omega, by omega, by omega, fa_is.mk (by rw [← hk3, fa_mre_e (Or.inr (Or.inr (by rw [fa_dgeq hd0, ← fa_tens, ← congrFun hi_88.2.2.2.2.2.2 mt]; exact Int32.not_le.mpr c_138))) _]), fa_is.mk rfl⟩, (show v2194 397 12 = nI (mt) from hi_88.2.2.1), (show v2194 397 11 = nI (no) from hi_88.2.2.2.1), (show fa_f3 v v2194 from (fa_f3.tr fa_f3.rf hi_88.2.2.2.2.1)), ⟨(fun _ => by rw [← hk3, fa_mre_e (Or.inr (Or.inr (by rw [fa_dgeq hd0, ← fa_tens, ← congrFun hi_88.2.2.2.2.2.2 mt]; exact Int32.not_le.mpr c_138))) _]), (fun i hi => by (show v2194 403 i = v 403 i; exact hi_88.2.2.2.2.2.1 i hi))⟩⟩, (fa_fr.tr fa_fr.rf (fa_fr.wide (fa_f3.fr hi_88.2.2.2.2.1) (by omega) (by omega)))⟩⟩)
                    · refine lv_aload_n hx hb dX7_number_141 rfl (lv_at hl 0 rfl) ?_
                      refine fa_getr (k := 397) (j := 403) CX HX2198 fl_X7_26 (by omega) rfl rfl hM.2.2.2.2.2.1 dX7_number_142 ?_
                      refine lv_iload hx hb dX7_number_145 (lv_at hl 4 rfl) ?_
                      refine lv_bipush (v := nI (10)) hx hb dX7_number_147 (by decide) ?_
                      refine lv_aload_n hx hb dX7_number_149 rfl (lv_at hl 0 rfl) ?_
                      refine fa_getr (k := 397) (j := 403) CX HX2198 fl_X7_26 (by omega) rfl rfl hM.2.2.2.2.2.1 dX7_number_150 ?_
                      refine lv_iload hx hb dX7_number_153 (lv_at hl 4 rfl) ?_
                      refine fa_iald (k := 403) (j := 4 * no + u) CX HX2198 (by omega) rfl (by omega) (by first | decide | assumption) dX7_number_155 ?_
                      refine lv_imul hx hb dX7_number_156 ?_
                      refine lv_aload_n hx hb dX7_number_157 rfl (lv_at hl 0 rfl) ?_
                      refine fa_getr (k := 397) (j := 405) CX HX2198 fl_X7_32 (by omega) rfl rfl hM.2.2.2.2.2.2.2 dX7_number_158 ?_
                      refine lv_aload_n hx hb dX7_number_161 rfl (lv_at hl 0 rfl) ?_
                      refine fa_geti (k := 397) CX HX2198 fl_X7_134 (by omega) rfl rfl dX7_number_162 ?_
                      rw [show v2194 397 12 = nI (mt) from hi_88.2.2.1]
                      refine fa_cald (k := 405) (j := mt) CX HX2198 (by omega) rfl (by omega) (by first | decide | assumption) dX7_number_165 ?_
                      refine lv_iadd hx hb dX7_number_166 ?_
                      refine lv_bipush (v := nI (48)) hx hb dX7_number_167 (by decide) ?_
                      refine lv_isub hx hb dX7_number_169 ?_
                      refine fa_iast (k := 403) (j := 4 * no + u) CX HX2198 (by omega) rfl (by omega) (by first | decide | assumption) dX7_number_170 (fun H locs v2199 e2200 HX2201 => ?_)
                      refine lv_aload_n hx hb dX7_number_171 rfl (lv_at hl 0 rfl) ?_
                      refine lv_dup hx hb dX7_number_172 rfl ?_
                      refine fa_geti (k := 397) CX HX2201 fl_X7_134 (by omega) rfl rfl dX7_number_173 ?_
                      rw [show v2199 397 12 = nI (mt) from (by rw [e2200, fa_u_n _ _ (by omega)]; exact hi_88.2.2.1)]
                      refine lv_iconst (v := nI (1)) hx hb dX7_number_176 (by decide) ?_
                      refine fa_iaddN hx hb dX7_number_177 ?_
                      refine fa_puti (k := 397) CX HX2201 fl_X7_134 (by omega) rfl rfl rfl rfl dX7_number_178 (fun H locs v2202 e2203 HX2204 => ?_)
                      refine lv_goto (tgt := 88) hx hb dX7_number_181 (by decide) ?_
                      exact ih_88 (mt + 1) (ok) v2202 _ _ _ (by omega) (⟨⟨by omega, by omega⟩, (Or.inr ⟨hk0, by omega, (by rw [(show v2202 403 (4 * no + u) = v2194 403 (4 * no + u) * nI 10 + fa_dg (fa_sg t n9 mt) from by rw [e2203, fa_u_k _ _ (by decide), e2200, fa_u_s, fa_dgeq hd0, ← fa_tens, ← congrFun hi_88.2.2.2.2.2.2 mt])]; exact fa_stepv hk2 hhi (let ⟨e, he, e1, _⟩ := fa_dg_ok _ hd0; ⟨e, he, e1⟩) (show v2194 403 (4 * no + u) * nI 10 + fa_dg (fa_sg t n9 mt) ≤ a3 from by rw [fa_dgeq hd0, ← fa_tens, ← congrFun hi_88.2.2.2.2.2.2 mt]; exact Int32.not_lt.mp c_138)), (by rw [(show v2202 403 (4 * no + u) = v2194 403 (4 * no + u) * nI 10 + fa_dg (fa_sg t n9 mt) from by rw [e2203, fa_u_k _ _ (by decide), e2200, fa_u_s, fa_dgeq hd0, ← fa_tens, ← congrFun hi_88.2.2.2.2.2.2 mt]), ← hk3, show mt + 1 - (na + 1) = mt - (na + 1) + 1 by omega]; exact fa_mre_s (by omega) hd0 (show ¬ v2194 403 (4 * no + u) = 0 from fun z => c_100 (by rw [z]; decide)) (show v2194 403 (4 * no + u) * nI 10 + fa_dg (fa_sg t n9 mt) ≤ a3 from by rw [fa_dgeq hd0, ← fa_tens, ← congrFun hi_88.2.2.2.2.2.2 mt]; exact Int32.not_lt.mp c_138))⟩), (by rw [e2203, fa_u_s]), (by rw [e2203, fa_u_n _ _ (by omega)]; exact (by rw [e2200, fa_u_n _ _ (by omega)]; exact hi_88.2.2.2.1)), (by rw [e2203]; exact fa_f3.w (by rw [e2200]; exact fa_f3.u (fa_f3.tr fa_f3.rf hi_88.2.2.2.2.1)) (by decide)), (fun i hi => by (show v2202 403 i = v 403 i; rw [e2203, fa_u_k _ _ (by decide), e2200, fa_u_n _ _ (by omega)]; exact hi_88.2.2.2.2.2.1 i hi)), (((congrFun e2203 405).trans (fa_u_k _ _ (by decide))).trans (((congrFun e2200 405).trans (fa_u_k _ _ (by decide))).trans hi_88.2.2.2.2.2.2))⟩) (lv_sub hl [0, 1, 2, 3, 4, 5] rfl) HX2204
          exact LOOP_88 (61 - (na + 1) + 1) (na + 1) (nI (1)) v2191 _ _ _ (Nat.lt_succ_self _) (⟨⟨by omega, by omega⟩, (Or.inr ⟨rfl, Nat.le_refl _, (by rw [(show v2191 403 (4 * no + u) = fa_dg (fa_sg t n9 na) from by rw [e2192, fa_u_k _ _ (by decide)]; exact hq)]; exact fa_dg_okv hd0 (by decide)), (by rw [(show v2191 403 (4 * no + u) = fa_dg (fa_sg t n9 na) from by rw [e2192, fa_u_k _ _ (by decide)]; exact hq), hnum.1, show na + 1 - (na + 1) = 0 by omega])⟩), (by rw [e2192, fa_u_s]), (by rw [e2192, fa_u_n _ _ (by omega)]; exact (by rw [e2175, fa_u_n _ _ (by omega)]; exact gO)), (by rw [e2192]; exact fa_f3.w (by rw [e2175]; exact fa_f3.u fa_f3.rf) (by decide)), (fun i hi => by (show v2191 403 i = v 403 i; rw [e2192, fa_u_k _ _ (by decide), e2175, fa_u_n _ _ (by omega)])), (((congrFun e2192 405).trans (fa_u_k _ _ (by decide))).trans (((congrFun e2175 405).trans (fa_u_k _ _ (by decide))).trans h5))⟩) (lv_sub hl [2, 3, 4, 5, 1, 0] rfl) HX2193
    · have hz : fa_dg (fa_sg t n9 na) < a2 ∨ ¬ fa_dg (fa_sg t n9 na) ≤ a3 := Or.inl (Decidable.not_not.mp (fun z => fa_ifn hxs (by first | exact c_27 | exact Decidable.not_not.mp c_27) ((fa_num_dig hlo hdd).mpr z)))
      refine lv_iconst (v := nI (0)) hx hb dX7_number_30 (by decide) ?_
      exact RET _ _ _ _ _ _ _ HX2173 dX7_number_31 (by decide) (⟨rfl, ⟨⟨(by rw [fa_num_f hz]; exact (if_neg fa_n1).symm), na, no, ⟨by omega, by omega, by omega, fa_is.mk (by rw [fa_num_f hz]), fa_is.mk rfl⟩, (show v 397 12 = nI (na) from gA), (show v 397 11 = nI (no) from gO), (show fa_f3 v v from fa_f3.rf), ⟨(fun z => absurd z (by rw [fa_num_f hz]; exact fa_n1)), (fun i hi => rfl)⟩⟩, fa_fr.rf⟩⟩)
set_option maxHeartbeats 4000000 in
set_option maxRecDepth 100000 in
theorem r_readsOrder (l : Launch) (G : fa_G) (n : Nat) (hn : 406 ≤ n) (v : fa_V) (r : fa_R) (hM : fa_RM r) (n9 na no : Nat) (h9 : n9 ≤ 60) (hna : na ≤ n9) (hno : 2 * no ≤ na) (g9 : v 397 9 = nI n9) (gA : v 397 12 = nI na) (gO : v 397 11 = nI no) (t : Nat → Int32) (h5 : v 405 = t) : fa_MI l G n yX7_readsOrder cX7_readsOrder 2 (some .boolean) 4 [.ref (fa_B G + (397))] v r (fa_voi r (fun x v1 => ((x = if (fa_ord (fa_sg t n9) na).1 = true then nI 1 else nI 0) ∧ ∃ m o, (na ≤ m ∧ m ≤ n9 ∧ 2 * o ≤ m ∧ fa_is m ((fa_ord (fa_sg t n9) na).2.1) ∧ fa_is o (fa_o1 (fa_ord (fa_sg t n9) na).1 no)) ∧ v1 397 12 = nI m ∧ v1 397 11 = nI o ∧ fa_f3 v v1 ∧ ((∀ i, i < 4 * no → v1 403 i = v 403 i) ∧ v1 403 (4 * no) = nI na ∧ v1 403 (4 * no + 1) = fa_sg t n9 na ∧ ((fa_ord (fa_sg t n9) na).1 = true → v1 403 (4 * no + 2) = (fa_ord (fa_sg t n9) na).2.2.1 ∧ (¬ fa_sg t n9 na = (97 : Int32) → ¬ fa_sg t n9 na = (100 : Int32) → v1 403 (4 * no + 3) = (fa_ord (fa_sg t n9) na).2.2.2)))) ∧ (fa_fr (397) (404) v v1))) := by
  refine fa_startZ (by decide +kernel) (Nat.le_of_ble_eq_true rfl) (fun p e s m args below meth c ls Q CX hl HX RET => ?_)
  have hl : lv_has ls 2 [(0, .ref (fa_B G + (397)))] := hl
  have hx := CX.1.1
  have hb := CX.1.2.1
  refine lv_aload_n hx hb dX7_readsOrder_0 rfl (lv_at hl 0 rfl) ?_
  refine fa_getr (k := 397) (j := 403) CX HX fl_X7_26 (by omega) rfl rfl hM.2.2.2.2.2.1 dX7_readsOrder_1 ?_
  refine lv_iconst (v := nI (4)) hx hb dX7_readsOrder_4 (by decide) ?_
  refine lv_aload_n hx hb dX7_readsOrder_5 rfl (lv_at hl 0 rfl) ?_
  refine fa_geti (k := 397) CX HX fl_X7_141 (by omega) rfl rfl dX7_readsOrder_6 ?_
  rw [show v 397 11 = nI (no) from gO]
  refine fa_imulN hx hb dX7_readsOrder_9 ?_
  refine lv_aload_n hx hb dX7_readsOrder_10 rfl (lv_at hl 0 rfl) ?_
  refine fa_geti (k := 397) CX HX fl_X7_134 (by omega) rfl rfl dX7_readsOrder_11 ?_
  rw [show v 397 12 = nI (na) from gA]
  refine fa_iast (k := 403) (j := 4 * no) CX HX (by omega) rfl (by omega) (by first | decide | assumption) dX7_readsOrder_14 (fun H locs v2205 e2206 HX2207 => ?_)
  refine lv_aload_n hx hb dX7_readsOrder_15 rfl (lv_at hl 0 rfl) ?_
  refine fa_getr (k := 397) (j := 403) CX HX2207 fl_X7_26 (by omega) rfl rfl hM.2.2.2.2.2.1 dX7_readsOrder_16 ?_
  refine lv_iconst (v := nI (4)) hx hb dX7_readsOrder_19 (by decide) ?_
  refine lv_aload_n hx hb dX7_readsOrder_20 rfl (lv_at hl 0 rfl) ?_
  refine fa_geti (k := 397) CX HX2207 fl_X7_141 (by omega) rfl rfl dX7_readsOrder_21 ?_
  rw [show v2205 397 11 = nI (no) from (by rw [e2206, fa_u_n _ _ (by omega)]; exact gO)]
  refine fa_imulN hx hb dX7_readsOrder_24 ?_
  refine lv_iconst (v := nI (1)) hx hb dX7_readsOrder_25 (by decide) ?_
  refine fa_iaddN hx hb dX7_readsOrder_26 ?_
  refine lv_aload_n hx hb dX7_readsOrder_27 rfl (lv_at hl 0 rfl) ?_
  refine fa_geti (k := 397) CX HX2207 fl_X7_134 (by omega) rfl rfl dX7_readsOrder_28 ?_
  rw [show v2205 397 12 = nI (na) from (by rw [e2206, fa_u_n _ _ (by omega)]; exact gA)]
  refine lv_aload_n hx hb dX7_readsOrder_31 rfl (lv_at hl 0 rfl) ?_
  refine fa_geti (k := 397) CX HX2207 fl_X7_131 (by omega) rfl rfl dX7_readsOrder_32 ?_
  rw [show v2205 397 9 = nI (n9) from (by rw [e2206, fa_u_n _ _ (by omega)]; exact g9)]
  refine lv_icmp_ge (tgt := 50) hx hb dX7_readsOrder_35 (by decide) (fun c_35 => ?_) (fun c_35 => ?_)
  · have hge0 := fa_leN (by omega) (by omega) c_35
    refine lv_iconst (v := nI (0)) hx hb dX7_readsOrder_50 (by decide) ?_
    refine fa_iast (k := 403) (j := 4 * no + 1) CX HX2207 (by omega) rfl (by omega) (by first | decide | assumption) dX7_readsOrder_51 (fun H locs v2208 e2209 HX2210 => ?_)
    have hA : ∀ i, i < 4 * no → v2208 403 i = v 403 i := fun i hi => by rw [e2209, fa_u_n _ _ (by omega), e2206, fa_u_n _ _ (by omega)]
    have hB : v2208 403 (4 * no) = nI na := by rw [e2209, fa_u_n _ _ (by omega), e2206, fa_u_s]
    have hC : v2208 403 (4 * no + 1) = fa_sg t n9 na := by rw [e2209, fa_u_s]; exact (show (nI 0 : Int32) = fa_sg t n9 na from by rw [fa_sg_out hge0]; rfl)
    refine lv_aload_n hx hb dX7_readsOrder_52 rfl (lv_at hl 0 rfl) ?_
    refine lv_bipush (v := nI (110)) hx hb dX7_readsOrder_53 (by decide) ?_
    refine fa_callViu (As := [.int (nI (110))]) (rest := []) CX HX2210 (r_accepts l G n hn v2208 r hM (n9) (na) (no) (by omega) (by omega) (by omega) (by rw [e2209, fa_u_n _ _ (by omega)]; exact (by rw [e2206, fa_u_n _ _ (by omega)]; exact g9)) (by rw [e2209, fa_u_n _ _ (by omega)]; exact (by rw [e2206, fa_u_n _ _ (by omega)]; exact gA)) (by rw [e2209, fa_u_n _ _ (by omega)]; exact (by rw [e2206, fa_u_n _ _ (by omega)]; exact gO)) t (((congrFun e2209 405).trans (fa_u_k _ _ (by decide))).trans (((congrFun e2206 405).trans (fa_u_k _ _ (by decide))).trans h5)) (nI (110)) (by decide)) ln_X7_144 (by omega) rfl rfl rfl rfl (Nat.le_of_ble_eq_true rfl) hl.1 ⟨Nat.le_of_ble_eq_true rfl, Nat.le_of_ble_eq_true rfl⟩ ⟨Nat.le_refl _, Nat.le_refl _⟩ dX7_readsOrder_55 (fun x2212 v2213 H locs h2211 HX2214 => ?_)
    obtain ⟨hx_x2212, m_x2212, o_x2212, ⟨ha_x2212, hc_x2212, hd_x2212, hm_x2212, ho_x2212⟩, gm_x2212, go_x2212, hf_x2212, hr_x2212⟩ := h2211.1
    have hxa := hx_x2212
    have hma := hm_x2212
    refine lv_if_eq (tgt := 100) hx hb dX7_readsOrder_58 (by decide) (fun c_58 => ?_) (fun c_58 => ?_)
    · have hS110 : ¬ fa_sg t n9 na = (110 : Int32) := fa_ifn hxa (by first | exact c_58 | exact Decidable.not_not.mp c_58)
      have hp110 := hma.e.trans (fa_acc_f hS110)
      clear ha_x2212 hc_x2212 hd_x2212 hxa hma
      refine lv_aload_n hx hb dX7_readsOrder_100 rfl (lv_at hl 0 rfl) ?_
      refine lv_bipush (v := nI (97)) hx hb dX7_readsOrder_101 (by decide) ?_
      refine fa_callViu (As := [.int (nI (97))]) (rest := []) CX HX2214 (r_accepts l G n hn v2213 r hM (n9) (na) (no) (by omega) (by omega) (by omega) ((hf_x2212.2 9 (by decide) (by decide)).trans (by rw [e2209, fa_u_n _ _ (by omega)]; exact (by rw [e2206, fa_u_n _ _ (by omega)]; exact g9))) ((gm_x2212).trans (congrArg nI hp110)) (go_x2212.trans (congrArg nI ho_x2212.e)) t ((h2211.2 405 (by omega)).trans (((congrFun e2209 405).trans (fa_u_k _ _ (by decide))).trans (((congrFun e2206 405).trans (fa_u_k _ _ (by decide))).trans h5))) (nI (97)) (by decide)) ln_X7_144 (by omega) rfl rfl rfl rfl (Nat.le_of_ble_eq_true rfl) hl.1 ⟨Nat.le_of_ble_eq_true rfl, Nat.le_of_ble_eq_true rfl⟩ ⟨Nat.le_refl _, Nat.le_refl _⟩ dX7_readsOrder_103 (fun x2216 v2217 H locs h2215 HX2218 => ?_)
      obtain ⟨hx_x2216, m_x2216, o_x2216, ⟨ha_x2216, hc_x2216, hd_x2216, hm_x2216, ho_x2216⟩, gm_x2216, go_x2216, hf_x2216, hr_x2216⟩ := h2215.1
      have hxa := hx_x2216
      have hma := hm_x2216
      refine lv_if_eq (tgt := 122) hx hb dX7_readsOrder_106 (by decide) (fun c_106 => ?_) (fun c_106 => ?_)
      · have hS97 : ¬ fa_sg t n9 na = (97 : Int32) := fa_ifn hxa (by first | exact c_106 | exact Decidable.not_not.mp c_106)
        have hp97 := hma.e.trans (fa_acc_f hS97)
        clear ha_x2216 hc_x2216 hd_x2216 hxa hma
        refine lv_aload_n hx hb dX7_readsOrder_122 rfl (lv_at hl 0 rfl) ?_
        refine lv_bipush (v := nI (115)) hx hb dX7_readsOrder_123 (by decide) ?_
        refine fa_callViu (As := [.int (nI (115))]) (rest := []) CX HX2218 (r_accepts l G n hn v2217 r hM (n9) (na) (no) (by omega) (by omega) (by omega) ((hf_x2216.2 9 (by decide) (by decide)).trans ((hf_x2212.2 9 (by decide) (by decide)).trans (by rw [e2209, fa_u_n _ _ (by omega)]; exact (by rw [e2206, fa_u_n _ _ (by omega)]; exact g9)))) ((gm_x2216).trans (congrArg nI hp97)) (go_x2216.trans (congrArg nI ho_x2216.e)) t ((h2215.2 405 (by omega)).trans ((h2211.2 405 (by omega)).trans (((congrFun e2209 405).trans (fa_u_k _ _ (by decide))).trans (((congrFun e2206 405).trans (fa_u_k _ _ (by decide))).trans h5)))) (nI (115)) (by decide)) ln_X7_144 (by omega) rfl rfl rfl rfl (Nat.le_of_ble_eq_true rfl) hl.1 ⟨Nat.le_of_ble_eq_true rfl, Nat.le_of_ble_eq_true rfl⟩ ⟨Nat.le_refl _, Nat.le_refl _⟩ dX7_readsOrder_125 (fun x2220 v2221 H locs h2219 HX2222 => ?_)
        obtain ⟨hx_x2220, m_x2220, o_x2220, ⟨ha_x2220, hc_x2220, hd_x2220, hm_x2220, ho_x2220⟩, gm_x2220, go_x2220, hf_x2220, hr_x2220⟩ := h2219.1
        have hxa := hx_x2220
        have hma := hm_x2220
        refine lv_if_ne (tgt := 140) hx hb dX7_readsOrder_128 (by decide) (fun c_128 => ?_) (fun c_128 => ?_)
        · have hS115 : fa_sg t n9 na = (115 : Int32) := fa_ift hxa c_128
          have hp115 := hma.e.trans (fa_acc_t hS115)
          have hlt : na < n9 := fa_sg_nz hS115 (by decide)
          clear ha_x2220 hc_x2220 hd_x2220
          refine lv_aload_n hx hb dX7_readsOrder_140 rfl (lv_at hl 0 rfl) ?_
          refine lv_iconst (v := nI (2)) hx hb dX7_readsOrder_141 (by decide) ?_
          refine lv_iconst (v := nI (0)) hx hb dX7_readsOrder_142 (by decide) ?_
          refine lv_bipush (v := nI (7)) hx hb dX7_readsOrder_143 (by decide) ?_
          refine fa_callViu (As := [.int (nI (2)), .int (nI (0)), .int (nI (7))]) (rest := []) CX HX2222 (r_number l G n hn v2221 r hM (n9) (na + 1) (no) (by omega) (by omega) (by omega) ((hf_x2220.2 9 (by decide) (by decide)).trans ((hf_x2216.2 9 (by decide) (by decide)).trans ((hf_x2212.2 9 (by decide) (by decide)).trans (by rw [e2209, fa_u_n _ _ (by omega)]; exact (by rw [e2206, fa_u_n _ _ (by omega)]; exact g9))))) ((gm_x2220).trans (congrArg nI hp115)) (go_x2220.trans (congrArg nI ho_x2220.e)) t ((h2219.2 405 (by omega)).trans ((h2215.2 405 (by omega)).trans ((h2211.2 405 (by omega)).trans (((congrFun e2209 405).trans (fa_u_k _ _ (by decide))).trans (((congrFun e2206 405).trans (fa_u_k _ _ (by decide))).trans h5))))) (2) (nI (0)) (nI (7)) (by omega) ⟨0, by decide, rfl⟩ ⟨7, by decide, rfl⟩) ln_X7_148 (by omega) rfl rfl rfl rfl (Nat.le_of_ble_eq_true rfl) hl.1 ⟨Nat.le_of_ble_eq_true rfl, Nat.le_of_ble_eq_true rfl⟩ ⟨Nat.le_refl _, Nat.le_refl _⟩ dX7_readsOrder_145 (fun x2224 v2225 H locs h2223 HX2226 => ?_)
          obtain ⟨hx_x2224, m_x2224, o_x2224, ⟨ha_x2224, hc_x2224, hd_x2224, hm_x2224, ho_x2224⟩, gm_x2224, go_x2224, hf_x2224, hr_x2224⟩ := h2223.1
          have hxn1 := hx_x2224
          have hmn1 := hm_x2224
          refine lv_if_eq (tgt := 176) hx hb dX7_readsOrder_148 (by decide) (fun c_148 => ?_) (fun c_148 => ?_)
          · have hn1 := fa_ifn hxn1 c_148
            refine lv_iconst (v := nI (0)) hx hb dX7_readsOrder_176 (by decide) ?_
            refine lv_istore_n (lv' := [(1, .int (nI (0))), (0, .ref (fa_B G + (397)))]) hx hb dX7_readsOrder_177 rfl hl (by decide) rfl (fun ls hl => ?_)
            refine lv_goto (tgt := 259) hx hb dX7_readsOrder_178 (by decide) ?_
            refine lv_aload_n hx hb dX7_readsOrder_259 rfl (lv_at hl 1 rfl) ?_
            refine lv_dup hx hb dX7_readsOrder_260 rfl ?_
            refine fa_geti (k := 397) CX HX2226 fl_X7_141 (by omega) rfl rfl dX7_readsOrder_261 ?_
            rw [show v2225 397 11 = nI (no) from (go_x2224.trans (congrArg nI ho_x2224.e))]
            refine lv_iload_n hx hb dX7_readsOrder_264 rfl (lv_at hl 0 rfl) ?_
            refine lv_if_eq (tgt := 272) hx hb dX7_readsOrder_265 (by decide) (fun c_265 => ?_) (fun c_265 => ?_)
            · refine lv_iconst (v := nI (0)) hx hb dX7_readsOrder_272 (by decide) ?_
              refine fa_iaddN hx hb dX7_readsOrder_273 ?_
              refine fa_puti (k := 397) CX HX2226 fl_X7_141 (by omega) rfl rfl rfl rfl dX7_readsOrder_274 (fun H locs v2227 e2228 HX2229 => ?_)
              refine lv_iload_n hx hb dX7_readsOrder_277 rfl (lv_at hl 0 rfl) ?_
              exact RET _ _ _ _ _ _ _ HX2229 dX7_readsOrder_278 (by decide) (⟨rfl, ⟨⟨(by rw [((fa_ord_s (Or.inl hS115)).trans (fa_two_f hn1))]; exact rfl), m_x2224, no + 0, ⟨by omega, by omega, by omega, fa_is.mk (by rw [((fa_ord_s (Or.inl hS115)).trans (fa_two_f hn1))]; exact hmn1.e), fa_is.mk (by rw [((fa_ord_s (Or.inl hS115)).trans (fa_two_f hn1))]; exact (show no + 0 = no by omega))⟩, (show v2227 397 12 = nI (m_x2224) from (by rw [e2228, fa_u_n _ _ (by omega)]; exact gm_x2224)), (show v2227 397 11 = nI (no + 0) from (by rw [e2228, fa_u_s])), (show fa_f3 v v2227 from (by rw [e2228]; exact fa_f3.w (fa_f3.tr (fa_f3.tr (fa_f3.tr (fa_f3.tr (by rw [e2209]; exact fa_f3.u (by rw [e2206]; exact fa_f3.u fa_f3.rf)) hf_x2212) hf_x2216) hf_x2220) hf_x2224) (by decide))), (by rw [((fa_ord_s (Or.inl hS115)).trans (fa_two_f hn1))]; exact ⟨(fun i hi => (by show v2227 403 i = _; rw [e2228, fa_u_k _ _ (by decide), hr_x2224.2 i (by omega), hr_x2220, hr_x2216, hr_x2212]; exact hA i hi)), (by show v2227 403 (4 * no) = _; rw [e2228, fa_u_k _ _ (by decide), hr_x2224.2 (4 * no) (by omega), hr_x2220, hr_x2216, hr_x2212]; exact hB), (by show v2227 403 (4 * no + 1) = _; rw [e2228, fa_u_k _ _ (by decide), hr_x2224.2 (4 * no + 1) (by omega), hr_x2220, hr_x2216, hr_x2212]; exact hC), (fun z => absurd (show false = true from z) (by decide))⟩)⟩, (by rw [e2228]; exact fa_fr.u (fa_fr.tr (fa_fr.tr (fa_fr.tr (fa_fr.tr (by rw [e2209]; exact fa_fr.u (by rw [e2206]; exact fa_fr.u fa_fr.rf (by omega)) (by omega)) (fa_fr.wide h2211.2 (by omega) (by omega))) (fa_fr.wide h2215.2 (by omega) (by omega))) (fa_fr.wide h2219.2 (by omega) (by omega))) (fa_fr.wide h2223.2 (by omega) (by omega))) (by omega))⟩⟩)
            · exact absurd (by try decide) c_265
          · have hn1 := fa_ift hxn1 c_148
            refine lv_aload_n hx hb dX7_readsOrder_151 rfl (lv_at hl 0 rfl) ?_
            refine lv_bipush (v := nI (44)) hx hb dX7_readsOrder_152 (by decide) ?_
            refine fa_callViu (As := [.int (nI (44))]) (rest := []) CX HX2226 (r_accepts l G n hn v2225 r hM (n9) (m_x2224) (no) (by omega) (by omega) (by omega) ((hf_x2224.2 9 (by decide) (by decide)).trans ((hf_x2220.2 9 (by decide) (by decide)).trans ((hf_x2216.2 9 (by decide) (by decide)).trans ((hf_x2212.2 9 (by decide) (by decide)).trans (by rw [e2209, fa_u_n _ _ (by omega)]; exact (by rw [e2206, fa_u_n _ _ (by omega)]; exact g9)))))) gm_x2224 (go_x2224.trans (congrArg nI ho_x2224.e)) t ((h2223.2 405 (by omega)).trans ((h2219.2 405 (by omega)).trans ((h2215.2 405 (by omega)).trans ((h2211.2 405 (by omega)).trans (((congrFun e2209 405).trans (fa_u_k _ _ (by decide))).trans (((congrFun e2206 405).trans (fa_u_k _ _ (by decide))).trans h5)))))) (nI (44)) (by decide)) ln_X7_144 (by omega) rfl rfl rfl rfl (Nat.le_of_ble_eq_true rfl) hl.1 ⟨Nat.le_of_ble_eq_true rfl, Nat.le_of_ble_eq_true rfl⟩ ⟨Nat.le_refl _, Nat.le_refl _⟩ dX7_readsOrder_154 (fun x2231 v2232 H locs h2230 HX2233 => ?_)
            obtain ⟨hx_x2231, m_x2231, o_x2231, ⟨ha_x2231, hc_x2231, hd_x2231, hm_x2231, ho_x2231⟩, gm_x2231, go_x2231, hf_x2231, hr_x2231⟩ := h2230.1
            have hxc := hx_x2231
            have hmc := hm_x2231
            refine lv_if_eq (tgt := 176) hx hb dX7_readsOrder_157 (by decide) (fun c_157 => ?_) (fun c_157 => ?_)
            · have hcm := fa_ifn hxc c_157
              have hpc := hmc.e.trans (fa_acc_f hcm)
              refine lv_iconst (v := nI (0)) hx hb dX7_readsOrder_176 (by decide) ?_
              refine lv_istore_n (lv' := [(1, .int (nI (0))), (0, .ref (fa_B G + (397)))]) hx hb dX7_readsOrder_177 rfl hl (by decide) rfl (fun ls hl => ?_)
              refine lv_goto (tgt := 259) hx hb dX7_readsOrder_178 (by decide) ?_
              refine lv_aload_n hx hb dX7_readsOrder_259 rfl (lv_at hl 1 rfl) ?_
              refine lv_dup hx hb dX7_readsOrder_260 rfl ?_
              refine fa_geti (k := 397) CX HX2233 fl_X7_141 (by omega) rfl rfl dX7_readsOrder_261 ?_
              rw [show v2232 397 11 = nI (no) from (go_x2231.trans (congrArg nI ho_x2231.e))]
              refine lv_iload_n hx hb dX7_readsOrder_264 rfl (lv_at hl 0 rfl) ?_
              refine lv_if_eq (tgt := 272) hx hb dX7_readsOrder_265 (by decide) (fun c_265 => ?_) (fun c_265 => ?_)
              · refine lv_iconst (v := nI (0)) hx hb dX7_readsOrder_272 (by decide) ?_
                refine fa_iaddN hx hb dX7_readsOrder_273 ?_
                refine fa_puti (k := 397) CX HX2233 fl_X7_141 (by omega) rfl rfl rfl rfl dX7_readsOrder_274 (fun H locs v2234 e2235 HX2236 => ?_)
                refine lv_iload_n hx hb dX7_readsOrder_277 rfl (lv_at hl 0 rfl) ?_
                exact RET _ _ _ _ _ _ _ HX2236 dX7_readsOrder_278 (by decide) (⟨rfl, ⟨⟨(by rw [((fa_ord_s (Or.inl hS115)).trans (fa_two_c hn1 hmn1.e hcm))]; exact rfl), m_x2224, no + 0, ⟨by omega, by omega, by omega, fa_is.mk (by rw [((fa_ord_s (Or.inl hS115)).trans (fa_two_c hn1 hmn1.e hcm))]), fa_is.mk (by rw [((fa_ord_s (Or.inl hS115)).trans (fa_two_c hn1 hmn1.e hcm))]; exact (show no + 0 = no by omega))⟩, (show v2234 397 12 = nI (m_x2224) from (by rw [e2235, fa_u_n _ _ (by omega)]; exact ((gm_x2231).trans (congrArg nI hpc)))), (show v2234 397 11 = nI (no + 0) from (by rw [e2235, fa_u_s])), (show fa_f3 v v2234 from (by rw [e2235]; exact fa_f3.w (fa_f3.tr (fa_f3.tr (fa_f3.tr (fa_f3.tr (fa_f3.tr (by rw [e2209]; exact fa_f3.u (by rw [e2206]; exact fa_f3.u fa_f3.rf)) hf_x2212) hf_x2216) hf_x2220) hf_x2224) hf_x2231) (by decide))), (by rw [((fa_ord_s (Or.inl hS115)).trans (fa_two_c hn1 hmn1.e hcm))]; exact ⟨(fun i hi => (by show v2234 403 i = _; rw [e2235, fa_u_k _ _ (by decide), hr_x2231, hr_x2224.2 i (by omega), hr_x2220, hr_x2216, hr_x2212]; exact hA i hi)), (by show v2234 403 (4 * no) = _; rw [e2235, fa_u_k _ _ (by decide), hr_x2231, hr_x2224.2 (4 * no) (by omega), hr_x2220, hr_x2216, hr_x2212]; exact hB), (by show v2234 403 (4 * no + 1) = _; rw [e2235, fa_u_k _ _ (by decide), hr_x2231, hr_x2224.2 (4 * no + 1) (by omega), hr_x2220, hr_x2216, hr_x2212]; exact hC), (fun z => absurd (show false = true from z) (by decide))⟩)⟩, (by rw [e2235]; exact fa_fr.u (fa_fr.tr (fa_fr.tr (fa_fr.tr (fa_fr.tr (fa_fr.tr (by rw [e2209]; exact fa_fr.u (by rw [e2206]; exact fa_fr.u fa_fr.rf (by omega)) (by omega)) (fa_fr.wide h2211.2 (by omega) (by omega))) (fa_fr.wide h2215.2 (by omega) (by omega))) (fa_fr.wide h2219.2 (by omega) (by omega))) (fa_fr.wide h2223.2 (by omega) (by omega))) (fa_fr.wide h2230.2 (by omega) (by omega))) (by omega))⟩⟩)
              · exact absurd (by try decide) c_265
            · have hcm := fa_ift hxc c_157
              have hpc := hmc.e.trans (fa_acc_t hcm)
              refine lv_aload_n hx hb dX7_readsOrder_160 rfl (lv_at hl 0 rfl) ?_
              refine lv_iconst (v := nI (3)) hx hb dX7_readsOrder_161 (by decide) ?_
              refine lv_iconst (v := nI (0)) hx hb dX7_readsOrder_162 (by decide) ?_
              refine lv_sipush (v := nI (199)) hx hb dX7_readsOrder_163 (by decide) ?_
              refine fa_callViu (As := [.int (nI (3)), .int (nI (0)), .int (nI (199))]) (rest := []) CX HX2233 (r_number l G n hn v2232 r hM (n9) (m_x2224 + 1) (no) (by omega) (by omega) (by omega) ((hf_x2231.2 9 (by decide) (by decide)).trans ((hf_x2224.2 9 (by decide) (by decide)).trans ((hf_x2220.2 9 (by decide) (by decide)).trans ((hf_x2216.2 9 (by decide) (by decide)).trans ((hf_x2212.2 9 (by decide) (by decide)).trans (by rw [e2209, fa_u_n _ _ (by omega)]; exact (by rw [e2206, fa_u_n _ _ (by omega)]; exact g9))))))) ((gm_x2231).trans (congrArg nI hpc)) (go_x2231.trans (congrArg nI ho_x2231.e)) t ((h2230.2 405 (by omega)).trans ((h2223.2 405 (by omega)).trans ((h2219.2 405 (by omega)).trans ((h2215.2 405 (by omega)).trans ((h2211.2 405 (by omega)).trans (((congrFun e2209 405).trans (fa_u_k _ _ (by decide))).trans (((congrFun e2206 405).trans (fa_u_k _ _ (by decide))).trans h5))))))) (3) (nI (0)) (nI (199)) (by omega) ⟨0, by decide, rfl⟩ ⟨199, by decide, rfl⟩) ln_X7_148 (by omega) rfl rfl rfl rfl (Nat.le_of_ble_eq_true rfl) hl.1 ⟨Nat.le_of_ble_eq_true rfl, Nat.le_of_ble_eq_true rfl⟩ ⟨Nat.le_refl _, Nat.le_refl _⟩ dX7_readsOrder_166 (fun x2238 v2239 H locs h2237 HX2240 => ?_)
              obtain ⟨hx_x2238, m_x2238, o_x2238, ⟨ha_x2238, hc_x2238, hd_x2238, hm_x2238, ho_x2238⟩, gm_x2238, go_x2238, hf_x2238, hr_x2238⟩ := h2237.1
              have hxn2 := hx_x2238
              have hmn2 := hm_x2238
              refine lv_if_eq (tgt := 176) hx hb dX7_readsOrder_169 (by decide) (fun c_169 => ?_) (fun c_169 => ?_)
              · have hn2 := fa_ifn hxn2 c_169
                refine lv_iconst (v := nI (0)) hx hb dX7_readsOrder_176 (by decide) ?_
                refine lv_istore_n (lv' := [(1, .int (nI (0))), (0, .ref (fa_B G + (397)))]) hx hb dX7_readsOrder_177 rfl hl (by decide) rfl (fun ls hl => ?_)
                refine lv_goto (tgt := 259) hx hb dX7_readsOrder_178 (by decide) ?_
                refine lv_aload_n hx hb dX7_readsOrder_259 rfl (lv_at hl 1 rfl) ?_
                refine lv_dup hx hb dX7_readsOrder_260 rfl ?_
                refine fa_geti (k := 397) CX HX2240 fl_X7_141 (by omega) rfl rfl dX7_readsOrder_261 ?_
                rw [show v2239 397 11 = nI (no) from (go_x2238.trans (congrArg nI ho_x2238.e))]
                refine lv_iload_n hx hb dX7_readsOrder_264 rfl (lv_at hl 0 rfl) ?_
                refine lv_if_eq (tgt := 272) hx hb dX7_readsOrder_265 (by decide) (fun c_265 => ?_) (fun c_265 => ?_)
                · refine lv_iconst (v := nI (0)) hx hb dX7_readsOrder_272 (by decide) ?_
                  refine fa_iaddN hx hb dX7_readsOrder_273 ?_
                  refine fa_puti (k := 397) CX HX2240 fl_X7_141 (by omega) rfl rfl rfl rfl dX7_readsOrder_274 (fun H locs v2241 e2242 HX2243 => ?_)
                  refine lv_iload_n hx hb dX7_readsOrder_277 rfl (lv_at hl 0 rfl) ?_
                  exact RET _ _ _ _ _ _ _ HX2243 dX7_readsOrder_278 (by decide) (⟨rfl, ⟨⟨(by rw [((fa_ord_s (Or.inl hS115)).trans (fa_two_n hn1 hmn1.e hcm hn2))]; exact rfl), m_x2238, no + 0, ⟨by omega, by omega, by omega, fa_is.mk (by rw [((fa_ord_s (Or.inl hS115)).trans (fa_two_n hn1 hmn1.e hcm hn2))]; exact hmn2.e), fa_is.mk (by rw [((fa_ord_s (Or.inl hS115)).trans (fa_two_n hn1 hmn1.e hcm hn2))]; exact (show no + 0 = no by omega))⟩, (show v2241 397 12 = nI (m_x2238) from (by rw [e2242, fa_u_n _ _ (by omega)]; exact gm_x2238)), (show v2241 397 11 = nI (no + 0) from (by rw [e2242, fa_u_s])), (show fa_f3 v v2241 from (by rw [e2242]; exact fa_f3.w (fa_f3.tr (fa_f3.tr (fa_f3.tr (fa_f3.tr (fa_f3.tr (fa_f3.tr (by rw [e2209]; exact fa_f3.u (by rw [e2206]; exact fa_f3.u fa_f3.rf)) hf_x2212) hf_x2216) hf_x2220) hf_x2224) hf_x2231) hf_x2238) (by decide))), (by rw [((fa_ord_s (Or.inl hS115)).trans (fa_two_n hn1 hmn1.e hcm hn2))]; exact ⟨(fun i hi => (by show v2241 403 i = _; rw [e2242, fa_u_k _ _ (by decide), hr_x2238.2 i (by omega), hr_x2231, hr_x2224.2 i (by omega), hr_x2220, hr_x2216, hr_x2212]; exact hA i hi)), (by show v2241 403 (4 * no) = _; rw [e2242, fa_u_k _ _ (by decide), hr_x2238.2 (4 * no) (by omega), hr_x2231, hr_x2224.2 (4 * no) (by omega), hr_x2220, hr_x2216, hr_x2212]; exact hB), (by show v2241 403 (4 * no + 1) = _; rw [e2242, fa_u_k _ _ (by decide), hr_x2238.2 (4 * no + 1) (by omega), hr_x2231, hr_x2224.2 (4 * no + 1) (by omega), hr_x2220, hr_x2216, hr_x2212]; exact hC), (fun z => absurd (show false = true from z) (by decide))⟩)⟩, (by rw [e2242]; exact fa_fr.u (fa_fr.tr (fa_fr.tr (fa_fr.tr (fa_fr.tr (fa_fr.tr (fa_fr.tr (by rw [e2209]; exact fa_fr.u (by rw [e2206]; exact fa_fr.u fa_fr.rf (by omega)) (by omega)) (fa_fr.wide h2211.2 (by omega) (by omega))) (fa_fr.wide h2215.2 (by omega) (by omega))) (fa_fr.wide h2219.2 (by omega) (by omega))) (fa_fr.wide h2223.2 (by omega) (by omega))) (fa_fr.wide h2230.2 (by omega) (by omega))) (fa_fr.wide h2237.2 (by omega) (by omega))) (by omega))⟩⟩)
                · exact absurd (by try decide) c_265
              · have hn2 := fa_ift hxn2 c_169
                refine lv_iconst (v := nI (1)) hx hb dX7_readsOrder_172 (by decide) ?_
                refine lv_goto (tgt := 177) hx hb dX7_readsOrder_173 (by decide) ?_
                refine lv_istore_n (lv' := [(1, .int (nI (1))), (0, .ref (fa_B G + (397)))]) hx hb dX7_readsOrder_177 rfl hl (by decide) rfl (fun ls hl => ?_)
                refine lv_goto (tgt := 259) hx hb dX7_readsOrder_178 (by decide) ?_
                refine lv_aload_n hx hb dX7_readsOrder_259 rfl (lv_at hl 1 rfl) ?_
                refine lv_dup hx hb dX7_readsOrder_260 rfl ?_
                refine fa_geti (k := 397) CX HX2240 fl_X7_141 (by omega) rfl rfl dX7_readsOrder_261 ?_
                rw [show v2239 397 11 = nI (no) from (go_x2238.trans (congrArg nI ho_x2238.e))]
                refine lv_iload_n hx hb dX7_readsOrder_264 rfl (lv_at hl 0 rfl) ?_
                refine lv_if_eq (tgt := 272) hx hb dX7_readsOrder_265 (by decide) (fun c_265 => ?_) (fun c_265 => ?_)
                · exact absurd c_265 (by try decide)
                · refine lv_iconst (v := nI (1)) hx hb dX7_readsOrder_268 (by decide) ?_
                  refine lv_goto (tgt := 273) hx hb dX7_readsOrder_269 (by decide) ?_
                  refine fa_iaddN hx hb dX7_readsOrder_273 ?_
                  refine fa_puti (k := 397) CX HX2240 fl_X7_141 (by omega) rfl rfl rfl rfl dX7_readsOrder_274 (fun H locs v2244 e2245 HX2246 => ?_)
                  refine lv_iload_n hx hb dX7_readsOrder_277 rfl (lv_at hl 0 rfl) ?_
                  exact RET _ _ _ _ _ _ _ HX2246 dX7_readsOrder_278 (by decide) (⟨rfl, ⟨⟨(by rw [((fa_ord_s (Or.inl hS115)).trans (fa_two_y hn1 hmn1.e hcm hn2))]; exact rfl), m_x2238, no + 1, ⟨by omega, by omega, (by have hfx := (show na + 2 ≤ m_x2238 from by have z := (fa_ord_le (t := t) hna).2.2; rw [((fa_ord_s (Or.inl hS115)).trans (fa_two_y hn1 hmn1.e hcm hn2))] at z; rw [hmn2.e]; exact z rfl); omega), fa_is.mk (by rw [((fa_ord_s (Or.inl hS115)).trans (fa_two_y hn1 hmn1.e hcm hn2))]; exact hmn2.e), fa_is.mk (by rw [((fa_ord_s (Or.inl hS115)).trans (fa_two_y hn1 hmn1.e hcm hn2))]; exact (show no + 1 = no + 1 by omega))⟩, (show v2244 397 12 = nI (m_x2238) from (by rw [e2245, fa_u_n _ _ (by omega)]; exact gm_x2238)), (show v2244 397 11 = nI (no + 1) from (by rw [e2245, fa_u_s])), (show fa_f3 v v2244 from (by rw [e2245]; exact fa_f3.w (fa_f3.tr (fa_f3.tr (fa_f3.tr (fa_f3.tr (fa_f3.tr (fa_f3.tr (by rw [e2209]; exact fa_f3.u (by rw [e2206]; exact fa_f3.u fa_f3.rf)) hf_x2212) hf_x2216) hf_x2220) hf_x2224) hf_x2231) hf_x2238) (by decide))), (by rw [((fa_ord_s (Or.inl hS115)).trans (fa_two_y hn1 hmn1.e hcm hn2))]; exact ⟨(fun i hi => (by show v2244 403 i = _; rw [e2245, fa_u_k _ _ (by decide), hr_x2238.2 i (by omega), hr_x2231, hr_x2224.2 i (by omega), hr_x2220, hr_x2216, hr_x2212]; exact hA i hi)), (by show v2244 403 (4 * no) = _; rw [e2245, fa_u_k _ _ (by decide), hr_x2238.2 (4 * no) (by omega), hr_x2231, hr_x2224.2 (4 * no) (by omega), hr_x2220, hr_x2216, hr_x2212]; exact hB), (by show v2244 403 (4 * no + 1) = _; rw [e2245, fa_u_k _ _ (by decide), hr_x2238.2 (4 * no + 1) (by omega), hr_x2231, hr_x2224.2 (4 * no + 1) (by omega), hr_x2220, hr_x2216, hr_x2212]; exact hC), (fun _ => ⟨(by show v2244 403 (4 * no + 2) = _; rw [e2245, fa_u_k _ _ (by decide), hr_x2238.2 (4 * no + 2) (by omega), hr_x2231]; exact hr_x2224.1 hn1), (fun _ _ => (by show v2244 403 (4 * no + 3) = _; rw [e2245, fa_u_k _ _ (by decide)]; exact hr_x2238.1 hn2))⟩)⟩)⟩, (by rw [e2245]; exact fa_fr.u (fa_fr.tr (fa_fr.tr (fa_fr.tr (fa_fr.tr (fa_fr.tr (fa_fr.tr (by rw [e2209]; exact fa_fr.u (by rw [e2206]; exact fa_fr.u fa_fr.rf (by omega)) (by omega)) (fa_fr.wide h2211.2 (by omega) (by omega))) (fa_fr.wide h2215.2 (by omega) (by omega))) (fa_fr.wide h2219.2 (by omega) (by omega))) (fa_fr.wide h2223.2 (by omega) (by omega))) (fa_fr.wide h2230.2 (by omega) (by omega))) (fa_fr.wide h2237.2 (by omega) (by omega))) (by omega))⟩⟩)
        · have hS115 : ¬ fa_sg t n9 na = (115 : Int32) := fa_ifn hxa (by first | exact c_128 | exact Decidable.not_not.mp c_128)
          have hp115 := hma.e.trans (fa_acc_f hS115)
          clear ha_x2220 hc_x2220 hd_x2220 hxa hma
          refine lv_aload_n hx hb dX7_readsOrder_131 rfl (lv_at hl 0 rfl) ?_
          refine lv_bipush (v := nI (108)) hx hb dX7_readsOrder_132 (by decide) ?_
          refine fa_callViu (As := [.int (nI (108))]) (rest := []) CX HX2222 (r_accepts l G n hn v2221 r hM (n9) (na) (no) (by omega) (by omega) (by omega) ((hf_x2220.2 9 (by decide) (by decide)).trans ((hf_x2216.2 9 (by decide) (by decide)).trans ((hf_x2212.2 9 (by decide) (by decide)).trans (by rw [e2209, fa_u_n _ _ (by omega)]; exact (by rw [e2206, fa_u_n _ _ (by omega)]; exact g9))))) ((gm_x2220).trans (congrArg nI hp115)) (go_x2220.trans (congrArg nI ho_x2220.e)) t ((h2219.2 405 (by omega)).trans ((h2215.2 405 (by omega)).trans ((h2211.2 405 (by omega)).trans (((congrFun e2209 405).trans (fa_u_k _ _ (by decide))).trans (((congrFun e2206 405).trans (fa_u_k _ _ (by decide))).trans h5))))) (nI (108)) (by decide)) ln_X7_144 (by omega) rfl rfl rfl rfl (Nat.le_of_ble_eq_true rfl) hl.1 ⟨Nat.le_of_ble_eq_true rfl, Nat.le_of_ble_eq_true rfl⟩ ⟨Nat.le_refl _, Nat.le_refl _⟩ dX7_readsOrder_134 (fun x2248 v2249 H locs h2247 HX2250 => ?_)
          obtain ⟨hx_x2248, m_x2248, o_x2248, ⟨ha_x2248, hc_x2248, hd_x2248, hm_x2248, ho_x2248⟩, gm_x2248, go_x2248, hf_x2248, hr_x2248⟩ := h2247.1
          have hxa := hx_x2248
          have hma := hm_x2248
          refine lv_if_eq (tgt := 181) hx hb dX7_readsOrder_137 (by decide) (fun c_137 => ?_) (fun c_137 => ?_)
          · have hS108 : ¬ fa_sg t n9 na = (108 : Int32) := fa_ifn hxa (by first | exact c_137 | exact Decidable.not_not.mp c_137)
            have hp108 := hma.e.trans (fa_acc_f hS108)
            clear ha_x2248 hc_x2248 hd_x2248 hxa hma
            refine lv_aload_n hx hb dX7_readsOrder_181 rfl (lv_at hl 0 rfl) ?_
            refine lv_bipush (v := nI (102)) hx hb dX7_readsOrder_182 (by decide) ?_
            refine fa_callViu (As := [.int (nI (102))]) (rest := []) CX HX2250 (r_accepts l G n hn v2249 r hM (n9) (na) (no) (by omega) (by omega) (by omega) ((hf_x2248.2 9 (by decide) (by decide)).trans ((hf_x2220.2 9 (by decide) (by decide)).trans ((hf_x2216.2 9 (by decide) (by decide)).trans ((hf_x2212.2 9 (by decide) (by decide)).trans (by rw [e2209, fa_u_n _ _ (by omega)]; exact (by rw [e2206, fa_u_n _ _ (by omega)]; exact g9)))))) ((gm_x2248).trans (congrArg nI hp108)) (go_x2248.trans (congrArg nI ho_x2248.e)) t ((h2247.2 405 (by omega)).trans ((h2219.2 405 (by omega)).trans ((h2215.2 405 (by omega)).trans ((h2211.2 405 (by omega)).trans (((congrFun e2209 405).trans (fa_u_k _ _ (by decide))).trans (((congrFun e2206 405).trans (fa_u_k _ _ (by decide))).trans h5)))))) (nI (102)) (by decide)) ln_X7_144 (by omega) rfl rfl rfl rfl (Nat.le_of_ble_eq_true rfl) hl.1 ⟨Nat.le_of_ble_eq_true rfl, Nat.le_of_ble_eq_true rfl⟩ ⟨Nat.le_refl _, Nat.le_refl _⟩ dX7_readsOrder_184 (fun x2252 v2253 H locs h2251 HX2254 => ?_)
            obtain ⟨hx_x2252, m_x2252, o_x2252, ⟨ha_x2252, hc_x2252, hd_x2252, hm_x2252, ho_x2252⟩, gm_x2252, go_x2252, hf_x2252, hr_x2252⟩ := h2251.1
            have hxa := hx_x2252
            have hma := hm_x2252
            refine lv_if_eq (tgt := 232) hx hb dX7_readsOrder_187 (by decide) (fun c_187 => ?_) (fun c_187 => ?_)
            · have hS102 : ¬ fa_sg t n9 na = (102 : Int32) := fa_ifn hxa (by first | exact c_187 | exact Decidable.not_not.mp c_187)
              have hp102 := hma.e.trans (fa_acc_f hS102)
              clear ha_x2252 hc_x2252 hd_x2252 hxa hma
              refine lv_aload_n hx hb dX7_readsOrder_232 rfl (lv_at hl 0 rfl) ?_
              refine lv_bipush (v := nI (100)) hx hb dX7_readsOrder_233 (by decide) ?_
              refine fa_callViu (As := [.int (nI (100))]) (rest := []) CX HX2254 (r_accepts l G n hn v2253 r hM (n9) (na) (no) (by omega) (by omega) (by omega) ((hf_x2252.2 9 (by decide) (by decide)).trans ((hf_x2248.2 9 (by decide) (by decide)).trans ((hf_x2220.2 9 (by decide) (by decide)).trans ((hf_x2216.2 9 (by decide) (by decide)).trans ((hf_x2212.2 9 (by decide) (by decide)).trans (by rw [e2209, fa_u_n _ _ (by omega)]; exact (by rw [e2206, fa_u_n _ _ (by omega)]; exact g9))))))) ((gm_x2252).trans (congrArg nI hp102)) (go_x2252.trans (congrArg nI ho_x2252.e)) t ((h2251.2 405 (by omega)).trans ((h2247.2 405 (by omega)).trans ((h2219.2 405 (by omega)).trans ((h2215.2 405 (by omega)).trans ((h2211.2 405 (by omega)).trans (((congrFun e2209 405).trans (fa_u_k _ _ (by decide))).trans (((congrFun e2206 405).trans (fa_u_k _ _ (by decide))).trans h5))))))) (nI (100)) (by decide)) ln_X7_144 (by omega) rfl rfl rfl rfl (Nat.le_of_ble_eq_true rfl) hl.1 ⟨Nat.le_of_ble_eq_true rfl, Nat.le_of_ble_eq_true rfl⟩ ⟨Nat.le_refl _, Nat.le_refl _⟩ dX7_readsOrder_235 (fun x2256 v2257 H locs h2255 HX2258 => ?_)
              obtain ⟨hx_x2256, m_x2256, o_x2256, ⟨ha_x2256, hc_x2256, hd_x2256, hm_x2256, ho_x2256⟩, gm_x2256, go_x2256, hf_x2256, hr_x2256⟩ := h2255.1
              have hxa := hx_x2256
              have hma := hm_x2256
              refine lv_if_eq (tgt := 257) hx hb dX7_readsOrder_238 (by decide) (fun c_238 => ?_) (fun c_238 => ?_)
              · have hS100 : ¬ fa_sg t n9 na = (100 : Int32) := fa_ifn hxa (by first | exact c_238 | exact Decidable.not_not.mp c_238)
                have hp100 := hma.e.trans (fa_acc_f hS100)
                clear ha_x2256 hc_x2256 hd_x2256 hxa hma
                refine lv_iconst (v := nI (0)) hx hb dX7_readsOrder_257 (by decide) ?_
                refine lv_istore_n (lv' := [(1, .int (nI (0))), (0, .ref (fa_B G + (397)))]) hx hb dX7_readsOrder_258 rfl hl (by decide) rfl (fun ls hl => ?_)
                refine lv_aload_n hx hb dX7_readsOrder_259 rfl (lv_at hl 1 rfl) ?_
                refine lv_dup hx hb dX7_readsOrder_260 rfl ?_
                refine fa_geti (k := 397) CX HX2258 fl_X7_141 (by omega) rfl rfl dX7_readsOrder_261 ?_
                rw [show v2257 397 11 = nI (no) from (go_x2256.trans (congrArg nI ho_x2256.e))]
                refine lv_iload_n hx hb dX7_readsOrder_264 rfl (lv_at hl 0 rfl) ?_
                refine lv_if_eq (tgt := 272) hx hb dX7_readsOrder_265 (by decide) (fun c_265 => ?_) (fun c_265 => ?_)
                · refine lv_iconst (v := nI (0)) hx hb dX7_readsOrder_272 (by decide) ?_
                  refine fa_iaddN hx hb dX7_readsOrder_273 ?_
                  refine fa_puti (k := 397) CX HX2258 fl_X7_141 (by omega) rfl rfl rfl rfl dX7_readsOrder_274 (fun H locs v2259 e2260 HX2261 => ?_)
                  refine lv_iload_n hx hb dX7_readsOrder_277 rfl (lv_at hl 0 rfl) ?_
                  exact RET _ _ _ _ _ _ _ HX2261 dX7_readsOrder_278 (by decide) (⟨rfl, ⟨⟨(by rw [(fa_ord_no hS110 hS97 hS115 hS108 hS102 hS100)]; exact rfl), na, no + 0, ⟨by omega, by omega, by omega, fa_is.mk (by rw [(fa_ord_no hS110 hS97 hS115 hS108 hS102 hS100)]), fa_is.mk (by rw [(fa_ord_no hS110 hS97 hS115 hS108 hS102 hS100)]; exact (show no + 0 = no by omega))⟩, (show v2259 397 12 = nI (na) from (by rw [e2260, fa_u_n _ _ (by omega)]; exact ((gm_x2256).trans (congrArg nI hp100)))), (show v2259 397 11 = nI (no + 0) from (by rw [e2260, fa_u_s])), (show fa_f3 v v2259 from (by rw [e2260]; exact fa_f3.w (fa_f3.tr (fa_f3.tr (fa_f3.tr (fa_f3.tr (fa_f3.tr (fa_f3.tr (by rw [e2209]; exact fa_f3.u (by rw [e2206]; exact fa_f3.u fa_f3.rf)) hf_x2212) hf_x2216) hf_x2220) hf_x2248) hf_x2252) hf_x2256) (by decide))), (by rw [(fa_ord_no hS110 hS97 hS115 hS108 hS102 hS100)]; exact ⟨(fun i hi => (by show v2259 403 i = _; rw [e2260, fa_u_k _ _ (by decide), hr_x2256, hr_x2252, hr_x2248, hr_x2220, hr_x2216, hr_x2212]; exact hA i hi)), (by show v2259 403 (4 * no) = _; rw [e2260, fa_u_k _ _ (by decide), hr_x2256, hr_x2252, hr_x2248, hr_x2220, hr_x2216, hr_x2212]; exact hB), (by show v2259 403 (4 * no + 1) = _; rw [e2260, fa_u_k _ _ (by decide), hr_x2256, hr_x2252, hr_x2248, hr_x2220, hr_x2216, hr_x2212]; exact hC), (fun z => absurd (show false = true from z) (by decide))⟩)⟩, (by rw [e2260]; exact fa_fr.u (fa_fr.tr (fa_fr.tr (fa_fr.tr (fa_fr.tr (fa_fr.tr (fa_fr.tr (by rw [e2209]; exact fa_fr.u (by rw [e2206]; exact fa_fr.u fa_fr.rf (by omega)) (by omega)) (fa_fr.wide h2211.2 (by omega) (by omega))) (fa_fr.wide h2215.2 (by omega) (by omega))) (fa_fr.wide h2219.2 (by omega) (by omega))) (fa_fr.wide h2247.2 (by omega) (by omega))) (fa_fr.wide h2251.2 (by omega) (by omega))) (fa_fr.wide h2255.2 (by omega) (by omega))) (by omega))⟩⟩)
                · exact absurd (by try decide) c_265
              · have hS100 : fa_sg t n9 na = (100 : Int32) := fa_ift hxa c_238
                have hp100 := hma.e.trans (fa_acc_t hS100)
                have hlt : na < n9 := fa_sg_nz hS100 (by decide)
                clear ha_x2256 hc_x2256 hd_x2256
                refine lv_aload_n hx hb dX7_readsOrder_241 rfl (lv_at hl 0 rfl) ?_
                refine lv_iconst (v := nI (2)) hx hb dX7_readsOrder_242 (by decide) ?_
                refine lv_iconst (v := nI (1)) hx hb dX7_readsOrder_243 (by decide) ?_
                refine lv_sipush (v := nI (400)) hx hb dX7_readsOrder_244 (by decide) ?_
                refine fa_callViu (As := [.int (nI (2)), .int (nI (1)), .int (nI (400))]) (rest := []) CX HX2258 (r_number l G n hn v2257 r hM (n9) (na + 1) (no) (by omega) (by omega) (by omega) ((hf_x2256.2 9 (by decide) (by decide)).trans ((hf_x2252.2 9 (by decide) (by decide)).trans ((hf_x2248.2 9 (by decide) (by decide)).trans ((hf_x2220.2 9 (by decide) (by decide)).trans ((hf_x2216.2 9 (by decide) (by decide)).trans ((hf_x2212.2 9 (by decide) (by decide)).trans (by rw [e2209, fa_u_n _ _ (by omega)]; exact (by rw [e2206, fa_u_n _ _ (by omega)]; exact g9)))))))) ((gm_x2256).trans (congrArg nI hp100)) (go_x2256.trans (congrArg nI ho_x2256.e)) t ((h2255.2 405 (by omega)).trans ((h2251.2 405 (by omega)).trans ((h2247.2 405 (by omega)).trans ((h2219.2 405 (by omega)).trans ((h2215.2 405 (by omega)).trans ((h2211.2 405 (by omega)).trans (((congrFun e2209 405).trans (fa_u_k _ _ (by decide))).trans (((congrFun e2206 405).trans (fa_u_k _ _ (by decide))).trans h5)))))))) (2) (nI (1)) (nI (400)) (by omega) ⟨1, by decide, rfl⟩ ⟨400, by decide, rfl⟩) ln_X7_148 (by omega) rfl rfl rfl rfl (Nat.le_of_ble_eq_true rfl) hl.1 ⟨Nat.le_of_ble_eq_true rfl, Nat.le_of_ble_eq_true rfl⟩ ⟨Nat.le_refl _, Nat.le_refl _⟩ dX7_readsOrder_247 (fun x2263 v2264 H locs h2262 HX2265 => ?_)
                obtain ⟨hx_x2263, m_x2263, o_x2263, ⟨ha_x2263, hc_x2263, hd_x2263, hm_x2263, ho_x2263⟩, gm_x2263, go_x2263, hf_x2263, hr_x2263⟩ := h2262.1
                have hxn1 := hx_x2263
                have hmn1 := hm_x2263
                refine lv_if_eq (tgt := 257) hx hb dX7_readsOrder_250 (by decide) (fun c_250 => ?_) (fun c_250 => ?_)
                · have hn1 := fa_ifn hxn1 c_250
                  refine lv_iconst (v := nI (0)) hx hb dX7_readsOrder_257 (by decide) ?_
                  refine lv_istore_n (lv' := [(1, .int (nI (0))), (0, .ref (fa_B G + (397)))]) hx hb dX7_readsOrder_258 rfl hl (by decide) rfl (fun ls hl => ?_)
                  refine lv_aload_n hx hb dX7_readsOrder_259 rfl (lv_at hl 1 rfl) ?_
                  refine lv_dup hx hb dX7_readsOrder_260 rfl ?_
                  refine fa_geti (k := 397) CX HX2265 fl_X7_141 (by omega) rfl rfl dX7_readsOrder_261 ?_
                  rw [show v2264 397 11 = nI (no) from (go_x2263.trans (congrArg nI ho_x2263.e))]
                  refine lv_iload_n hx hb dX7_readsOrder_264 rfl (lv_at hl 0 rfl) ?_
                  refine lv_if_eq (tgt := 272) hx hb dX7_readsOrder_265 (by decide) (fun c_265 => ?_) (fun c_265 => ?_)
                  · refine lv_iconst (v := nI (0)) hx hb dX7_readsOrder_272 (by decide) ?_
                    refine fa_iaddN hx hb dX7_readsOrder_273 ?_
                    refine fa_puti (k := 397) CX HX2265 fl_X7_141 (by omega) rfl rfl rfl rfl dX7_readsOrder_274 (fun H locs v2266 e2267 HX2268 => ?_)
                    refine lv_iload_n hx hb dX7_readsOrder_277 rfl (lv_at hl 0 rfl) ?_
                    exact RET _ _ _ _ _ _ _ HX2268 dX7_readsOrder_278 (by decide) (⟨rfl, ⟨⟨(by rw [((fa_ord_d hS100).trans (fa_one_f hn1))]; exact rfl), m_x2263, no + 0, ⟨by omega, by omega, by omega, fa_is.mk (by rw [((fa_ord_d hS100).trans (fa_one_f hn1))]; exact hmn1.e), fa_is.mk (by rw [((fa_ord_d hS100).trans (fa_one_f hn1))]; exact (show no + 0 = no by omega))⟩, (show v2266 397 12 = nI (m_x2263) from (by rw [e2267, fa_u_n _ _ (by omega)]; exact gm_x2263)), (show v2266 397 11 = nI (no + 0) from (by rw [e2267, fa_u_s])), (show fa_f3 v v2266 from (by rw [e2267]; exact fa_f3.w (fa_f3.tr (fa_f3.tr (fa_f3.tr (fa_f3.tr (fa_f3.tr (fa_f3.tr (fa_f3.tr (by rw [e2209]; exact fa_f3.u (by rw [e2206]; exact fa_f3.u fa_f3.rf)) hf_x2212) hf_x2216) hf_x2220) hf_x2248) hf_x2252) hf_x2256) hf_x2263) (by decide))), (by rw [((fa_ord_d hS100).trans (fa_one_f hn1))]; exact ⟨(fun i hi => (by show v2266 403 i = _; rw [e2267, fa_u_k _ _ (by decide), hr_x2263.2 i (by omega), hr_x2256, hr_x2252, hr_x2248, hr_x2220, hr_x2216, hr_x2212]; exact hA i hi)), (by show v2266 403 (4 * no) = _; rw [e2267, fa_u_k _ _ (by decide), hr_x2263.2 (4 * no) (by omega), hr_x2256, hr_x2252, hr_x2248, hr_x2220, hr_x2216, hr_x2212]; exact hB), (by show v2266 403 (4 * no + 1) = _; rw [e2267, fa_u_k _ _ (by decide), hr_x2263.2 (4 * no + 1) (by omega), hr_x2256, hr_x2252, hr_x2248, hr_x2220, hr_x2216, hr_x2212]; exact hC), (fun z => absurd (show false = true from z) (by decide))⟩)⟩, (by rw [e2267]; exact fa_fr.u (fa_fr.tr (fa_fr.tr (fa_fr.tr (fa_fr.tr (fa_fr.tr (fa_fr.tr (fa_fr.tr (by rw [e2209]; exact fa_fr.u (by rw [e2206]; exact fa_fr.u fa_fr.rf (by omega)) (by omega)) (fa_fr.wide h2211.2 (by omega) (by omega))) (fa_fr.wide h2215.2 (by omega) (by omega))) (fa_fr.wide h2219.2 (by omega) (by omega))) (fa_fr.wide h2247.2 (by omega) (by omega))) (fa_fr.wide h2251.2 (by omega) (by omega))) (fa_fr.wide h2255.2 (by omega) (by omega))) (fa_fr.wide h2262.2 (by omega) (by omega))) (by omega))⟩⟩)
                  · exact absurd (by try decide) c_265
                · have hn1 := fa_ift hxn1 c_250
                  refine lv_iconst (v := nI (1)) hx hb dX7_readsOrder_253 (by decide) ?_
                  refine lv_goto (tgt := 258) hx hb dX7_readsOrder_254 (by decide) ?_
                  refine lv_istore_n (lv' := [(1, .int (nI (1))), (0, .ref (fa_B G + (397)))]) hx hb dX7_readsOrder_258 rfl hl (by decide) rfl (fun ls hl => ?_)
                  refine lv_aload_n hx hb dX7_readsOrder_259 rfl (lv_at hl 1 rfl) ?_
                  refine lv_dup hx hb dX7_readsOrder_260 rfl ?_
                  refine fa_geti (k := 397) CX HX2265 fl_X7_141 (by omega) rfl rfl dX7_readsOrder_261 ?_
                  rw [show v2264 397 11 = nI (no) from (go_x2263.trans (congrArg nI ho_x2263.e))]
                  refine lv_iload_n hx hb dX7_readsOrder_264 rfl (lv_at hl 0 rfl) ?_
                  refine lv_if_eq (tgt := 272) hx hb dX7_readsOrder_265 (by decide) (fun c_265 => ?_) (fun c_265 => ?_)
                  · exact absurd c_265 (by try decide)
                  · refine lv_iconst (v := nI (1)) hx hb dX7_readsOrder_268 (by decide) ?_
                    refine lv_goto (tgt := 273) hx hb dX7_readsOrder_269 (by decide) ?_
                    refine fa_iaddN hx hb dX7_readsOrder_273 ?_
                    refine fa_puti (k := 397) CX HX2265 fl_X7_141 (by omega) rfl rfl rfl rfl dX7_readsOrder_274 (fun H locs v2269 e2270 HX2271 => ?_)
                    refine lv_iload_n hx hb dX7_readsOrder_277 rfl (lv_at hl 0 rfl) ?_
                    exact RET _ _ _ _ _ _ _ HX2271 dX7_readsOrder_278 (by decide) (⟨rfl, ⟨⟨(by rw [((fa_ord_d hS100).trans (fa_one_t hn1))]; exact rfl), m_x2263, no + 1, ⟨by omega, by omega, (by have hfx := (show na + 2 ≤ m_x2263 from by have z := (fa_ord_le (t := t) hna).2.2; rw [((fa_ord_d hS100).trans (fa_one_t hn1))] at z; rw [hmn1.e]; exact z rfl); omega), fa_is.mk (by rw [((fa_ord_d hS100).trans (fa_one_t hn1))]; exact hmn1.e), fa_is.mk (by rw [((fa_ord_d hS100).trans (fa_one_t hn1))]; exact (show no + 1 = no + 1 by omega))⟩, (show v2269 397 12 = nI (m_x2263) from (by rw [e2270, fa_u_n _ _ (by omega)]; exact gm_x2263)), (show v2269 397 11 = nI (no + 1) from (by rw [e2270, fa_u_s])), (show fa_f3 v v2269 from (by rw [e2270]; exact fa_f3.w (fa_f3.tr (fa_f3.tr (fa_f3.tr (fa_f3.tr (fa_f3.tr (fa_f3.tr (fa_f3.tr (by rw [e2209]; exact fa_f3.u (by rw [e2206]; exact fa_f3.u fa_f3.rf)) hf_x2212) hf_x2216) hf_x2220) hf_x2248) hf_x2252) hf_x2256) hf_x2263) (by decide))), (by rw [((fa_ord_d hS100).trans (fa_one_t hn1))]; exact ⟨(fun i hi => (by show v2269 403 i = _; rw [e2270, fa_u_k _ _ (by decide), hr_x2263.2 i (by omega), hr_x2256, hr_x2252, hr_x2248, hr_x2220, hr_x2216, hr_x2212]; exact hA i hi)), (by show v2269 403 (4 * no) = _; rw [e2270, fa_u_k _ _ (by decide), hr_x2263.2 (4 * no) (by omega), hr_x2256, hr_x2252, hr_x2248, hr_x2220, hr_x2216, hr_x2212]; exact hB), (by show v2269 403 (4 * no + 1) = _; rw [e2270, fa_u_k _ _ (by decide), hr_x2263.2 (4 * no + 1) (by omega), hr_x2256, hr_x2252, hr_x2248, hr_x2220, hr_x2216, hr_x2212]; exact hC), (fun _ => ⟨(by show v2269 403 (4 * no + 2) = _; rw [e2270, fa_u_k _ _ (by decide)]; exact hr_x2263.1 hn1), (fun y1 y2 => by first | exact absurd hS97 y1 | exact absurd hS100 y2)⟩)⟩)⟩, (by rw [e2270]; exact fa_fr.u (fa_fr.tr (fa_fr.tr (fa_fr.tr (fa_fr.tr (fa_fr.tr (fa_fr.tr (fa_fr.tr (by rw [e2209]; exact fa_fr.u (by rw [e2206]; exact fa_fr.u fa_fr.rf (by omega)) (by omega)) (fa_fr.wide h2211.2 (by omega) (by omega))) (fa_fr.wide h2215.2 (by omega) (by omega))) (fa_fr.wide h2219.2 (by omega) (by omega))) (fa_fr.wide h2247.2 (by omega) (by omega))) (fa_fr.wide h2251.2 (by omega) (by omega))) (fa_fr.wide h2255.2 (by omega) (by omega))) (fa_fr.wide h2262.2 (by omega) (by omega))) (by omega))⟩⟩)
            · have hS102 : fa_sg t n9 na = (102 : Int32) := fa_ift hxa c_187
              have hp102 := hma.e.trans (fa_acc_t hS102)
              have hlt : na < n9 := fa_sg_nz hS102 (by decide)
              clear ha_x2252 hc_x2252 hd_x2252
              refine lv_aload_n hx hb dX7_readsOrder_190 rfl (lv_at hl 0 rfl) ?_
              refine lv_iconst (v := nI (2)) hx hb dX7_readsOrder_191 (by decide) ?_
              refine lv_iconst (v := nI (0)) hx hb dX7_readsOrder_192 (by decide) ?_
              refine lv_sipush (v := nI (199)) hx hb dX7_readsOrder_193 (by decide) ?_
              refine fa_callViu (As := [.int (nI (2)), .int (nI (0)), .int (nI (199))]) (rest := []) CX HX2254 (r_number l G n hn v2253 r hM (n9) (na + 1) (no) (by omega) (by omega) (by omega) ((hf_x2252.2 9 (by decide) (by decide)).trans ((hf_x2248.2 9 (by decide) (by decide)).trans ((hf_x2220.2 9 (by decide) (by decide)).trans ((hf_x2216.2 9 (by decide) (by decide)).trans ((hf_x2212.2 9 (by decide) (by decide)).trans (by rw [e2209, fa_u_n _ _ (by omega)]; exact (by rw [e2206, fa_u_n _ _ (by omega)]; exact g9))))))) ((gm_x2252).trans (congrArg nI hp102)) (go_x2252.trans (congrArg nI ho_x2252.e)) t ((h2251.2 405 (by omega)).trans ((h2247.2 405 (by omega)).trans ((h2219.2 405 (by omega)).trans ((h2215.2 405 (by omega)).trans ((h2211.2 405 (by omega)).trans (((congrFun e2209 405).trans (fa_u_k _ _ (by decide))).trans (((congrFun e2206 405).trans (fa_u_k _ _ (by decide))).trans h5))))))) (2) (nI (0)) (nI (199)) (by omega) ⟨0, by decide, rfl⟩ ⟨199, by decide, rfl⟩) ln_X7_148 (by omega) rfl rfl rfl rfl (Nat.le_of_ble_eq_true rfl) hl.1 ⟨Nat.le_of_ble_eq_true rfl, Nat.le_of_ble_eq_true rfl⟩ ⟨Nat.le_refl _, Nat.le_refl _⟩ dX7_readsOrder_196 (fun x2273 v2274 H locs h2272 HX2275 => ?_)
              obtain ⟨hx_x2273, m_x2273, o_x2273, ⟨ha_x2273, hc_x2273, hd_x2273, hm_x2273, ho_x2273⟩, gm_x2273, go_x2273, hf_x2273, hr_x2273⟩ := h2272.1
              have hxn1 := hx_x2273
              have hmn1 := hm_x2273
              refine lv_if_eq (tgt := 227) hx hb dX7_readsOrder_199 (by decide) (fun c_199 => ?_) (fun c_199 => ?_)
              · have hn1 := fa_ifn hxn1 c_199
                refine lv_iconst (v := nI (0)) hx hb dX7_readsOrder_227 (by decide) ?_
                refine lv_istore_n (lv' := [(1, .int (nI (0))), (0, .ref (fa_B G + (397)))]) hx hb dX7_readsOrder_228 rfl hl (by decide) rfl (fun ls hl => ?_)
                refine lv_goto (tgt := 259) hx hb dX7_readsOrder_229 (by decide) ?_
                refine lv_aload_n hx hb dX7_readsOrder_259 rfl (lv_at hl 1 rfl) ?_
                refine lv_dup hx hb dX7_readsOrder_260 rfl ?_
                refine fa_geti (k := 397) CX HX2275 fl_X7_141 (by omega) rfl rfl dX7_readsOrder_261 ?_
                rw [show v2274 397 11 = nI (no) from (go_x2273.trans (congrArg nI ho_x2273.e))]
                refine lv_iload_n hx hb dX7_readsOrder_264 rfl (lv_at hl 0 rfl) ?_
                refine lv_if_eq (tgt := 272) hx hb dX7_readsOrder_265 (by decide) (fun c_265 => ?_) (fun c_265 => ?_)
                · refine lv_iconst (v := nI (0)) hx hb dX7_readsOrder_272 (by decide) ?_
                  refine fa_iaddN hx hb dX7_readsOrder_273 ?_
                  refine fa_puti (k := 397) CX HX2275 fl_X7_141 (by omega) rfl rfl rfl rfl dX7_readsOrder_274 (fun H locs v2276 e2277 HX2278 => ?_)
                  refine lv_iload_n hx hb dX7_readsOrder_277 rfl (lv_at hl 0 rfl) ?_
                  exact RET _ _ _ _ _ _ _ HX2278 dX7_readsOrder_278 (by decide) (⟨rfl, ⟨⟨(by rw [((fa_ord_f hS102).trans (fa_two_f hn1))]; exact rfl), m_x2273, no + 0, ⟨by omega, by omega, by omega, fa_is.mk (by rw [((fa_ord_f hS102).trans (fa_two_f hn1))]; exact hmn1.e), fa_is.mk (by rw [((fa_ord_f hS102).trans (fa_two_f hn1))]; exact (show no + 0 = no by omega))⟩, (show v2276 397 12 = nI (m_x2273) from (by rw [e2277, fa_u_n _ _ (by omega)]; exact gm_x2273)), (show v2276 397 11 = nI (no + 0) from (by rw [e2277, fa_u_s])), (show fa_f3 v v2276 from (by rw [e2277]; exact fa_f3.w (fa_f3.tr (fa_f3.tr (fa_f3.tr (fa_f3.tr (fa_f3.tr (fa_f3.tr (by rw [e2209]; exact fa_f3.u (by rw [e2206]; exact fa_f3.u fa_f3.rf)) hf_x2212) hf_x2216) hf_x2220) hf_x2248) hf_x2252) hf_x2273) (by decide))), (by rw [((fa_ord_f hS102).trans (fa_two_f hn1))]; exact ⟨(fun i hi => (by show v2276 403 i = _; rw [e2277, fa_u_k _ _ (by decide), hr_x2273.2 i (by omega), hr_x2252, hr_x2248, hr_x2220, hr_x2216, hr_x2212]; exact hA i hi)), (by show v2276 403 (4 * no) = _; rw [e2277, fa_u_k _ _ (by decide), hr_x2273.2 (4 * no) (by omega), hr_x2252, hr_x2248, hr_x2220, hr_x2216, hr_x2212]; exact hB), (by show v2276 403 (4 * no + 1) = _; rw [e2277, fa_u_k _ _ (by decide), hr_x2273.2 (4 * no + 1) (by omega), hr_x2252, hr_x2248, hr_x2220, hr_x2216, hr_x2212]; exact hC), (fun z => absurd (show false = true from z) (by decide))⟩)⟩, (by rw [e2277]; exact fa_fr.u (fa_fr.tr (fa_fr.tr (fa_fr.tr (fa_fr.tr (fa_fr.tr (fa_fr.tr (by rw [e2209]; exact fa_fr.u (by rw [e2206]; exact fa_fr.u fa_fr.rf (by omega)) (by omega)) (fa_fr.wide h2211.2 (by omega) (by omega))) (fa_fr.wide h2215.2 (by omega) (by omega))) (fa_fr.wide h2219.2 (by omega) (by omega))) (fa_fr.wide h2247.2 (by omega) (by omega))) (fa_fr.wide h2251.2 (by omega) (by omega))) (fa_fr.wide h2272.2 (by omega) (by omega))) (by omega))⟩⟩)
                · exact absurd (by try decide) c_265
              · have hn1 := fa_ift hxn1 c_199
                refine lv_aload_n hx hb dX7_readsOrder_202 rfl (lv_at hl 0 rfl) ?_
                refine lv_bipush (v := nI (44)) hx hb dX7_readsOrder_203 (by decide) ?_
                refine fa_callViu (As := [.int (nI (44))]) (rest := []) CX HX2275 (r_accepts l G n hn v2274 r hM (n9) (m_x2273) (no) (by omega) (by omega) (by omega) ((hf_x2273.2 9 (by decide) (by decide)).trans ((hf_x2252.2 9 (by decide) (by decide)).trans ((hf_x2248.2 9 (by decide) (by decide)).trans ((hf_x2220.2 9 (by decide) (by decide)).trans ((hf_x2216.2 9 (by decide) (by decide)).trans ((hf_x2212.2 9 (by decide) (by decide)).trans (by rw [e2209, fa_u_n _ _ (by omega)]; exact (by rw [e2206, fa_u_n _ _ (by omega)]; exact g9)))))))) gm_x2273 (go_x2273.trans (congrArg nI ho_x2273.e)) t ((h2272.2 405 (by omega)).trans ((h2251.2 405 (by omega)).trans ((h2247.2 405 (by omega)).trans ((h2219.2 405 (by omega)).trans ((h2215.2 405 (by omega)).trans ((h2211.2 405 (by omega)).trans (((congrFun e2209 405).trans (fa_u_k _ _ (by decide))).trans (((congrFun e2206 405).trans (fa_u_k _ _ (by decide))).trans h5)))))))) (nI (44)) (by decide)) ln_X7_144 (by omega) rfl rfl rfl rfl (Nat.le_of_ble_eq_true rfl) hl.1 ⟨Nat.le_of_ble_eq_true rfl, Nat.le_of_ble_eq_true rfl⟩ ⟨Nat.le_refl _, Nat.le_refl _⟩ dX7_readsOrder_205 (fun x2280 v2281 H locs h2279 HX2282 => ?_)
                obtain ⟨hx_x2280, m_x2280, o_x2280, ⟨ha_x2280, hc_x2280, hd_x2280, hm_x2280, ho_x2280⟩, gm_x2280, go_x2280, hf_x2280, hr_x2280⟩ := h2279.1
                have hxc := hx_x2280
                have hmc := hm_x2280
                refine lv_if_eq (tgt := 227) hx hb dX7_readsOrder_208 (by decide) (fun c_208 => ?_) (fun c_208 => ?_)
                · have hcm := fa_ifn hxc c_208
                  have hpc := hmc.e.trans (fa_acc_f hcm)
                  refine lv_iconst (v := nI (0)) hx hb dX7_readsOrder_227 (by decide) ?_
                  refine lv_istore_n (lv' := [(1, .int (nI (0))), (0, .ref (fa_B G + (397)))]) hx hb dX7_readsOrder_228 rfl hl (by decide) rfl (fun ls hl => ?_)
                  refine lv_goto (tgt := 259) hx hb dX7_readsOrder_229 (by decide) ?_
                  refine lv_aload_n hx hb dX7_readsOrder_259 rfl (lv_at hl 1 rfl) ?_
                  refine lv_dup hx hb dX7_readsOrder_260 rfl ?_
                  refine fa_geti (k := 397) CX HX2282 fl_X7_141 (by omega) rfl rfl dX7_readsOrder_261 ?_
                  rw [show v2281 397 11 = nI (no) from (go_x2280.trans (congrArg nI ho_x2280.e))]
                  refine lv_iload_n hx hb dX7_readsOrder_264 rfl (lv_at hl 0 rfl) ?_
                  refine lv_if_eq (tgt := 272) hx hb dX7_readsOrder_265 (by decide) (fun c_265 => ?_) (fun c_265 => ?_)
                  · refine lv_iconst (v := nI (0)) hx hb dX7_readsOrder_272 (by decide) ?_
                    refine fa_iaddN hx hb dX7_readsOrder_273 ?_
                    refine fa_puti (k := 397) CX HX2282 fl_X7_141 (by omega) rfl rfl rfl rfl dX7_readsOrder_274 (fun H locs v2283 e2284 HX2285 => ?_)
                    refine lv_iload_n hx hb dX7_readsOrder_277 rfl (lv_at hl 0 rfl) ?_
                    exact RET _ _ _ _ _ _ _ HX2285 dX7_readsOrder_278 (by decide) (⟨rfl, ⟨⟨(by rw [((fa_ord_f hS102).trans (fa_two_c hn1 hmn1.e hcm))]; exact rfl), m_x2273, no + 0, ⟨by omega, by omega, by omega, fa_is.mk (by rw [((fa_ord_f hS102).trans (fa_two_c hn1 hmn1.e hcm))]), fa_is.mk (by rw [((fa_ord_f hS102).trans (fa_two_c hn1 hmn1.e hcm))]; exact (show no + 0 = no by omega))⟩, (show v2283 397 12 = nI (m_x2273) from (by rw [e2284, fa_u_n _ _ (by omega)]; exact ((gm_x2280).trans (congrArg nI hpc)))), (show v2283 397 11 = nI (no + 0) from (by rw [e2284, fa_u_s])), (show fa_f3 v v2283 from (by rw [e2284]; exact fa_f3.w (fa_f3.tr (fa_f3.tr (fa_f3.tr (fa_f3.tr (fa_f3.tr (fa_f3.tr (fa_f3.tr (by rw [e2209]; exact fa_f3.u (by rw [e2206]; exact fa_f3.u fa_f3.rf)) hf_x2212) hf_x2216) hf_x2220) hf_x2248) hf_x2252) hf_x2273) hf_x2280) (by decide))), (by rw [((fa_ord_f hS102).trans (fa_two_c hn1 hmn1.e hcm))]; exact ⟨(fun i hi => (by show v2283 403 i = _; rw [e2284, fa_u_k _ _ (by decide), hr_x2280, hr_x2273.2 i (by omega), hr_x2252, hr_x2248, hr_x2220, hr_x2216, hr_x2212]; exact hA i hi)), (by show v2283 403 (4 * no) = _; rw [e2284, fa_u_k _ _ (by decide), hr_x2280, hr_x2273.2 (4 * no) (by omega), hr_x2252, hr_x2248, hr_x2220, hr_x2216, hr_x2212]; exact hB), (by show v2283 403 (4 * no + 1) = _; rw [e2284, fa_u_k _ _ (by decide), hr_x2280, hr_x2273.2 (4 * no + 1) (by omega), hr_x2252, hr_x2248, hr_x2220, hr_x2216, hr_x2212]; exact hC), (fun z => absurd (show false = true from z) (by decide))⟩)⟩, (by rw [e2284]; exact fa_fr.u (fa_fr.tr (fa_fr.tr (fa_fr.tr (fa_fr.tr (fa_fr.tr (fa_fr.tr (fa_fr.tr (by rw [e2209]; exact fa_fr.u (by rw [e2206]; exact fa_fr.u fa_fr.rf (by omega)) (by omega)) (fa_fr.wide h2211.2 (by omega) (by omega))) (fa_fr.wide h2215.2 (by omega) (by omega))) (fa_fr.wide h2219.2 (by omega) (by omega))) (fa_fr.wide h2247.2 (by omega) (by omega))) (fa_fr.wide h2251.2 (by omega) (by omega))) (fa_fr.wide h2272.2 (by omega) (by omega))) (fa_fr.wide h2279.2 (by omega) (by omega))) (by omega))⟩⟩)
                  · exact absurd (by try decide) c_265
                · have hcm := fa_ift hxc c_208
                  have hpc := hmc.e.trans (fa_acc_t hcm)
                  refine lv_aload_n hx hb dX7_readsOrder_211 rfl (lv_at hl 0 rfl) ?_
                  refine lv_iconst (v := nI (3)) hx hb dX7_readsOrder_212 (by decide) ?_
                  refine lv_iconst (v := nI (0)) hx hb dX7_readsOrder_213 (by decide) ?_
                  refine lv_sipush (v := nI (199)) hx hb dX7_readsOrder_214 (by decide) ?_
                  refine fa_callViu (As := [.int (nI (3)), .int (nI (0)), .int (nI (199))]) (rest := []) CX HX2282 (r_number l G n hn v2281 r hM (n9) (m_x2273 + 1) (no) (by omega) (by omega) (by omega) ((hf_x2280.2 9 (by decide) (by decide)).trans ((hf_x2273.2 9 (by decide) (by decide)).trans ((hf_x2252.2 9 (by decide) (by decide)).trans ((hf_x2248.2 9 (by decide) (by decide)).trans ((hf_x2220.2 9 (by decide) (by decide)).trans ((hf_x2216.2 9 (by decide) (by decide)).trans ((hf_x2212.2 9 (by decide) (by decide)).trans (by rw [e2209, fa_u_n _ _ (by omega)]; exact (by rw [e2206, fa_u_n _ _ (by omega)]; exact g9))))))))) ((gm_x2280).trans (congrArg nI hpc)) (go_x2280.trans (congrArg nI ho_x2280.e)) t ((h2279.2 405 (by omega)).trans ((h2272.2 405 (by omega)).trans ((h2251.2 405 (by omega)).trans ((h2247.2 405 (by omega)).trans ((h2219.2 405 (by omega)).trans ((h2215.2 405 (by omega)).trans ((h2211.2 405 (by omega)).trans (((congrFun e2209 405).trans (fa_u_k _ _ (by decide))).trans (((congrFun e2206 405).trans (fa_u_k _ _ (by decide))).trans h5))))))))) (3) (nI (0)) (nI (199)) (by omega) ⟨0, by decide, rfl⟩ ⟨199, by decide, rfl⟩) ln_X7_148 (by omega) rfl rfl rfl rfl (Nat.le_of_ble_eq_true rfl) hl.1 ⟨Nat.le_of_ble_eq_true rfl, Nat.le_of_ble_eq_true rfl⟩ ⟨Nat.le_refl _, Nat.le_refl _⟩ dX7_readsOrder_217 (fun x2287 v2288 H locs h2286 HX2289 => ?_)
                  obtain ⟨hx_x2287, m_x2287, o_x2287, ⟨ha_x2287, hc_x2287, hd_x2287, hm_x2287, ho_x2287⟩, gm_x2287, go_x2287, hf_x2287, hr_x2287⟩ := h2286.1
                  have hxn2 := hx_x2287
                  have hmn2 := hm_x2287
                  refine lv_if_eq (tgt := 227) hx hb dX7_readsOrder_220 (by decide) (fun c_220 => ?_) (fun c_220 => ?_)
                  · have hn2 := fa_ifn hxn2 c_220
                    refine lv_iconst (v := nI (0)) hx hb dX7_readsOrder_227 (by decide) ?_
                    refine lv_istore_n (lv' := [(1, .int (nI (0))), (0, .ref (fa_B G + (397)))]) hx hb dX7_readsOrder_228 rfl hl (by decide) rfl (fun ls hl => ?_)
                    refine lv_goto (tgt := 259) hx hb dX7_readsOrder_229 (by decide) ?_
                    refine lv_aload_n hx hb dX7_readsOrder_259 rfl (lv_at hl 1 rfl) ?_
                    refine lv_dup hx hb dX7_readsOrder_260 rfl ?_
                    refine fa_geti (k := 397) CX HX2289 fl_X7_141 (by omega) rfl rfl dX7_readsOrder_261 ?_
                    rw [show v2288 397 11 = nI (no) from (go_x2287.trans (congrArg nI ho_x2287.e))]
                    refine lv_iload_n hx hb dX7_readsOrder_264 rfl (lv_at hl 0 rfl) ?_
                    refine lv_if_eq (tgt := 272) hx hb dX7_readsOrder_265 (by decide) (fun c_265 => ?_) (fun c_265 => ?_)
                    · refine lv_iconst (v := nI (0)) hx hb dX7_readsOrder_272 (by decide) ?_
                      refine fa_iaddN hx hb dX7_readsOrder_273 ?_
                      refine fa_puti (k := 397) CX HX2289 fl_X7_141 (by omega) rfl rfl rfl rfl dX7_readsOrder_274 (fun H locs v2290 e2291 HX2292 => ?_)
                      refine lv_iload_n hx hb dX7_readsOrder_277 rfl (lv_at hl 0 rfl) ?_
                      exact RET _ _ _ _ _ _ _ HX2292 dX7_readsOrder_278 (by decide) (⟨rfl, ⟨⟨(by rw [((fa_ord_f hS102).trans (fa_two_n hn1 hmn1.e hcm hn2))]; exact rfl), m_x2287, no + 0, ⟨by omega, by omega, by omega, fa_is.mk (by rw [((fa_ord_f hS102).trans (fa_two_n hn1 hmn1.e hcm hn2))]; exact hmn2.e), fa_is.mk (by rw [((fa_ord_f hS102).trans (fa_two_n hn1 hmn1.e hcm hn2))]; exact (show no + 0 = no by omega))⟩, (show v2290 397 12 = nI (m_x2287) from (by rw [e2291, fa_u_n _ _ (by omega)]; exact gm_x2287)), (show v2290 397 11 = nI (no + 0) from (by rw [e2291, fa_u_s])), (show fa_f3 v v2290 from (by rw [e2291]; exact fa_f3.w (fa_f3.tr (fa_f3.tr (fa_f3.tr (fa_f3.tr (fa_f3.tr (fa_f3.tr (fa_f3.tr (fa_f3.tr (by rw [e2209]; exact fa_f3.u (by rw [e2206]; exact fa_f3.u fa_f3.rf)) hf_x2212) hf_x2216) hf_x2220) hf_x2248) hf_x2252) hf_x2273) hf_x2280) hf_x2287) (by decide))), (by rw [((fa_ord_f hS102).trans (fa_two_n hn1 hmn1.e hcm hn2))]; exact ⟨(fun i hi => (by show v2290 403 i = _; rw [e2291, fa_u_k _ _ (by decide), hr_x2287.2 i (by omega), hr_x2280, hr_x2273.2 i (by omega), hr_x2252, hr_x2248, hr_x2220, hr_x2216, hr_x2212]; exact hA i hi)), (by show v2290 403 (4 * no) = _; rw [e2291, fa_u_k _ _ (by decide), hr_x2287.2 (4 * no) (by omega), hr_x2280, hr_x2273.2 (4 * no) (by omega), hr_x2252, hr_x2248, hr_x2220, hr_x2216, hr_x2212]; exact hB), (by show v2290 403 (4 * no + 1) = _; rw [e2291, fa_u_k _ _ (by decide), hr_x2287.2 (4 * no + 1) (by omega), hr_x2280, hr_x2273.2 (4 * no + 1) (by omega), hr_x2252, hr_x2248, hr_x2220, hr_x2216, hr_x2212]; exact hC), (fun z => absurd (show false = true from z) (by decide))⟩)⟩, (by rw [e2291]; exact fa_fr.u (fa_fr.tr (fa_fr.tr (fa_fr.tr (fa_fr.tr (fa_fr.tr (fa_fr.tr (fa_fr.tr (fa_fr.tr (by rw [e2209]; exact fa_fr.u (by rw [e2206]; exact fa_fr.u fa_fr.rf (by omega)) (by omega)) (fa_fr.wide h2211.2 (by omega) (by omega))) (fa_fr.wide h2215.2 (by omega) (by omega))) (fa_fr.wide h2219.2 (by omega) (by omega))) (fa_fr.wide h2247.2 (by omega) (by omega))) (fa_fr.wide h2251.2 (by omega) (by omega))) (fa_fr.wide h2272.2 (by omega) (by omega))) (fa_fr.wide h2279.2 (by omega) (by omega))) (fa_fr.wide h2286.2 (by omega) (by omega))) (by omega))⟩⟩)
                    · exact absurd (by try decide) c_265
                  · have hn2 := fa_ift hxn2 c_220
                    refine lv_iconst (v := nI (1)) hx hb dX7_readsOrder_223 (by decide) ?_
                    refine lv_goto (tgt := 228) hx hb dX7_readsOrder_224 (by decide) ?_
                    refine lv_istore_n (lv' := [(1, .int (nI (1))), (0, .ref (fa_B G + (397)))]) hx hb dX7_readsOrder_228 rfl hl (by decide) rfl (fun ls hl => ?_)
                    refine lv_goto (tgt := 259) hx hb dX7_readsOrder_229 (by decide) ?_
                    refine lv_aload_n hx hb dX7_readsOrder_259 rfl (lv_at hl 1 rfl) ?_
                    refine lv_dup hx hb dX7_readsOrder_260 rfl ?_
                    refine fa_geti (k := 397) CX HX2289 fl_X7_141 (by omega) rfl rfl dX7_readsOrder_261 ?_
                    rw [show v2288 397 11 = nI (no) from (go_x2287.trans (congrArg nI ho_x2287.e))]
                    refine lv_iload_n hx hb dX7_readsOrder_264 rfl (lv_at hl 0 rfl) ?_
                    refine lv_if_eq (tgt := 272) hx hb dX7_readsOrder_265 (by decide) (fun c_265 => ?_) (fun c_265 => ?_)
                    · exact absurd c_265 (by try decide)
                    · refine lv_iconst (v := nI (1)) hx hb dX7_readsOrder_268 (by decide) ?_
                      refine lv_goto (tgt := 273) hx hb dX7_readsOrder_269 (by decide) ?_
                      refine fa_iaddN hx hb dX7_readsOrder_273 ?_
                      refine fa_puti (k := 397) CX HX2289 fl_X7_141 (by omega) rfl rfl rfl rfl dX7_readsOrder_274 (fun H locs v2293 e2294 HX2295 => ?_)
                      refine lv_iload_n hx hb dX7_readsOrder_277 rfl (lv_at hl 0 rfl) ?_
                      exact RET _ _ _ _ _ _ _ HX2295 dX7_readsOrder_278 (by decide) (⟨rfl, ⟨⟨(by rw [((fa_ord_f hS102).trans (fa_two_y hn1 hmn1.e hcm hn2))]; exact rfl), m_x2287, no + 1, ⟨by omega, by omega, (by have hfx := (show na + 2 ≤ m_x2287 from by have z := (fa_ord_le (t := t) hna).2.2; rw [((fa_ord_f hS102).trans (fa_two_y hn1 hmn1.e hcm hn2))] at z; rw [hmn2.e]; exact z rfl); omega), fa_is.mk (by rw [((fa_ord_f hS102).trans (fa_two_y hn1 hmn1.e hcm hn2))]; exact hmn2.e), fa_is.mk (by rw [((fa_ord_f hS102).trans (fa_two_y hn1 hmn1.e hcm hn2))]; exact (show no + 1 = no + 1 by omega))⟩, (show v2293 397 12 = nI (m_x2287) from (by rw [e2294, fa_u_n _ _ (by omega)]; exact gm_x2287)), (show v2293 397 11 = nI (no + 1) from (by rw [e2294, fa_u_s])), (show fa_f3 v v2293 from (by rw [e2294]; exact fa_f3.w (fa_f3.tr (fa_f3.tr (fa_f3.tr (fa_f3.tr (fa_f3.tr (fa_f3.tr (fa_f3.tr (fa_f3.tr (by rw [e2209]; exact fa_f3.u (by rw [e2206]; exact fa_f3.u fa_f3.rf)) hf_x2212) hf_x2216) hf_x2220) hf_x2248) hf_x2252) hf_x2273) hf_x2280) hf_x2287) (by decide))), (by rw [((fa_ord_f hS102).trans (fa_two_y hn1 hmn1.e hcm hn2))]; exact ⟨(fun i hi => (by show v2293 403 i = _; rw [e2294, fa_u_k _ _ (by decide), hr_x2287.2 i (by omega), hr_x2280, hr_x2273.2 i (by omega), hr_x2252, hr_x2248, hr_x2220, hr_x2216, hr_x2212]; exact hA i hi)), (by show v2293 403 (4 * no) = _; rw [e2294, fa_u_k _ _ (by decide), hr_x2287.2 (4 * no) (by omega), hr_x2280, hr_x2273.2 (4 * no) (by omega), hr_x2252, hr_x2248, hr_x2220, hr_x2216, hr_x2212]; exact hB), (by show v2293 403 (4 * no + 1) = _; rw [e2294, fa_u_k _ _ (by decide), hr_x2287.2 (4 * no + 1) (by omega), hr_x2280, hr_x2273.2 (4 * no + 1) (by omega), hr_x2252, hr_x2248, hr_x2220, hr_x2216, hr_x2212]; exact hC), (fun _ => ⟨(by show v2293 403 (4 * no + 2) = _; rw [e2294, fa_u_k _ _ (by decide), hr_x2287.2 (4 * no + 2) (by omega), hr_x2280]; exact hr_x2273.1 hn1), (fun _ _ => (by show v2293 403 (4 * no + 3) = _; rw [e2294, fa_u_k _ _ (by decide)]; exact hr_x2287.1 hn2))⟩)⟩)⟩, (by rw [e2294]; exact fa_fr.u (fa_fr.tr (fa_fr.tr (fa_fr.tr (fa_fr.tr (fa_fr.tr (fa_fr.tr (fa_fr.tr (fa_fr.tr (by rw [e2209]; exact fa_fr.u (by rw [e2206]; exact fa_fr.u fa_fr.rf (by omega)) (by omega)) (fa_fr.wide h2211.2 (by omega) (by omega))) (fa_fr.wide h2215.2 (by omega) (by omega))) (fa_fr.wide h2219.2 (by omega) (by omega))) (fa_fr.wide h2247.2 (by omega) (by omega))) (fa_fr.wide h2251.2 (by omega) (by omega))) (fa_fr.wide h2272.2 (by omega) (by omega))) (fa_fr.wide h2279.2 (by omega) (by omega))) (fa_fr.wide h2286.2 (by omega) (by omega))) (by omega))⟩⟩)
          · have hS108 : fa_sg t n9 na = (108 : Int32) := fa_ift hxa c_137
            have hp108 := hma.e.trans (fa_acc_t hS108)
            have hlt : na < n9 := fa_sg_nz hS108 (by decide)
            clear ha_x2248 hc_x2248 hd_x2248
            refine lv_aload_n hx hb dX7_readsOrder_140 rfl (lv_at hl 0 rfl) ?_
            refine lv_iconst (v := nI (2)) hx hb dX7_readsOrder_141 (by decide) ?_
            refine lv_iconst (v := nI (0)) hx hb dX7_readsOrder_142 (by decide) ?_
            refine lv_bipush (v := nI (7)) hx hb dX7_readsOrder_143 (by decide) ?_
            refine fa_callViu (As := [.int (nI (2)), .int (nI (0)), .int (nI (7))]) (rest := []) CX HX2250 (r_number l G n hn v2249 r hM (n9) (na + 1) (no) (by omega) (by omega) (by omega) ((hf_x2248.2 9 (by decide) (by decide)).trans ((hf_x2220.2 9 (by decide) (by decide)).trans ((hf_x2216.2 9 (by decide) (by decide)).trans ((hf_x2212.2 9 (by decide) (by decide)).trans (by rw [e2209, fa_u_n _ _ (by omega)]; exact (by rw [e2206, fa_u_n _ _ (by omega)]; exact g9)))))) ((gm_x2248).trans (congrArg nI hp108)) (go_x2248.trans (congrArg nI ho_x2248.e)) t ((h2247.2 405 (by omega)).trans ((h2219.2 405 (by omega)).trans ((h2215.2 405 (by omega)).trans ((h2211.2 405 (by omega)).trans (((congrFun e2209 405).trans (fa_u_k _ _ (by decide))).trans (((congrFun e2206 405).trans (fa_u_k _ _ (by decide))).trans h5)))))) (2) (nI (0)) (nI (7)) (by omega) ⟨0, by decide, rfl⟩ ⟨7, by decide, rfl⟩) ln_X7_148 (by omega) rfl rfl rfl rfl (Nat.le_of_ble_eq_true rfl) hl.1 ⟨Nat.le_of_ble_eq_true rfl, Nat.le_of_ble_eq_true rfl⟩ ⟨Nat.le_refl _, Nat.le_refl _⟩ dX7_readsOrder_145 (fun x2297 v2298 H locs h2296 HX2299 => ?_)
            obtain ⟨hx_x2297, m_x2297, o_x2297, ⟨ha_x2297, hc_x2297, hd_x2297, hm_x2297, ho_x2297⟩, gm_x2297, go_x2297, hf_x2297, hr_x2297⟩ := h2296.1
            have hxn1 := hx_x2297
            have hmn1 := hm_x2297
            refine lv_if_eq (tgt := 176) hx hb dX7_readsOrder_148 (by decide) (fun c_148 => ?_) (fun c_148 => ?_)
            · have hn1 := fa_ifn hxn1 c_148
              refine lv_iconst (v := nI (0)) hx hb dX7_readsOrder_176 (by decide) ?_
              refine lv_istore_n (lv' := [(1, .int (nI (0))), (0, .ref (fa_B G + (397)))]) hx hb dX7_readsOrder_177 rfl hl (by decide) rfl (fun ls hl => ?_)
              refine lv_goto (tgt := 259) hx hb dX7_readsOrder_178 (by decide) ?_
              refine lv_aload_n hx hb dX7_readsOrder_259 rfl (lv_at hl 1 rfl) ?_
              refine lv_dup hx hb dX7_readsOrder_260 rfl ?_
              refine fa_geti (k := 397) CX HX2299 fl_X7_141 (by omega) rfl rfl dX7_readsOrder_261 ?_
              rw [show v2298 397 11 = nI (no) from (go_x2297.trans (congrArg nI ho_x2297.e))]
              refine lv_iload_n hx hb dX7_readsOrder_264 rfl (lv_at hl 0 rfl) ?_
              refine lv_if_eq (tgt := 272) hx hb dX7_readsOrder_265 (by decide) (fun c_265 => ?_) (fun c_265 => ?_)
              · refine lv_iconst (v := nI (0)) hx hb dX7_readsOrder_272 (by decide) ?_
                refine fa_iaddN hx hb dX7_readsOrder_273 ?_
                refine fa_puti (k := 397) CX HX2299 fl_X7_141 (by omega) rfl rfl rfl rfl dX7_readsOrder_274 (fun H locs v2300 e2301 HX2302 => ?_)
                refine lv_iload_n hx hb dX7_readsOrder_277 rfl (lv_at hl 0 rfl) ?_
                exact RET _ _ _ _ _ _ _ HX2302 dX7_readsOrder_278 (by decide) (⟨rfl, ⟨⟨(by rw [((fa_ord_s (Or.inr hS108)).trans (fa_two_f hn1))]; exact rfl), m_x2297, no + 0, ⟨by omega, by omega, by omega, fa_is.mk (by rw [((fa_ord_s (Or.inr hS108)).trans (fa_two_f hn1))]; exact hmn1.e), fa_is.mk (by rw [((fa_ord_s (Or.inr hS108)).trans (fa_two_f hn1))]; exact (show no + 0 = no by omega))⟩, (show v2300 397 12 = nI (m_x2297) from (by rw [e2301, fa_u_n _ _ (by omega)]; exact gm_x2297)), (show v2300 397 11 = nI (no + 0) from (by rw [e2301, fa_u_s])), (show fa_f3 v v2300 from (by rw [e2301]; exact fa_f3.w (fa_f3.tr (fa_f3.tr (fa_f3.tr (fa_f3.tr (fa_f3.tr (by rw [e2209]; exact fa_f3.u (by rw [e2206]; exact fa_f3.u fa_f3.rf)) hf_x2212) hf_x2216) hf_x2220) hf_x2248) hf_x2297) (by decide))), (by rw [((fa_ord_s (Or.inr hS108)).trans (fa_two_f hn1))]; exact ⟨(fun i hi => (by show v2300 403 i = _; rw [e2301, fa_u_k _ _ (by decide), hr_x2297.2 i (by omega), hr_x2248, hr_x2220, hr_x2216, hr_x2212]; exact hA i hi)), (by show v2300 403 (4 * no) = _; rw [e2301, fa_u_k _ _ (by decide), hr_x2297.2 (4 * no) (by omega), hr_x2248, hr_x2220, hr_x2216, hr_x2212]; exact hB), (by show v2300 403 (4 * no + 1) = _; rw [e2301, fa_u_k _ _ (by decide), hr_x2297.2 (4 * no + 1) (by omega), hr_x2248, hr_x2220, hr_x2216, hr_x2212]; exact hC), (fun z => absurd (show false = true from z) (by decide))⟩)⟩, (by rw [e2301]; exact fa_fr.u (fa_fr.tr (fa_fr.tr (fa_fr.tr (fa_fr.tr (fa_fr.tr (by rw [e2209]; exact fa_fr.u (by rw [e2206]; exact fa_fr.u fa_fr.rf (by omega)) (by omega)) (fa_fr.wide h2211.2 (by omega) (by omega))) (fa_fr.wide h2215.2 (by omega) (by omega))) (fa_fr.wide h2219.2 (by omega) (by omega))) (fa_fr.wide h2247.2 (by omega) (by omega))) (fa_fr.wide h2296.2 (by omega) (by omega))) (by omega))⟩⟩)
              · exact absurd (by try decide) c_265
            · have hn1 := fa_ift hxn1 c_148
              refine lv_aload_n hx hb dX7_readsOrder_151 rfl (lv_at hl 0 rfl) ?_
              refine lv_bipush (v := nI (44)) hx hb dX7_readsOrder_152 (by decide) ?_
              refine fa_callViu (As := [.int (nI (44))]) (rest := []) CX HX2299 (r_accepts l G n hn v2298 r hM (n9) (m_x2297) (no) (by omega) (by omega) (by omega) ((hf_x2297.2 9 (by decide) (by decide)).trans ((hf_x2248.2 9 (by decide) (by decide)).trans ((hf_x2220.2 9 (by decide) (by decide)).trans ((hf_x2216.2 9 (by decide) (by decide)).trans ((hf_x2212.2 9 (by decide) (by decide)).trans (by rw [e2209, fa_u_n _ _ (by omega)]; exact (by rw [e2206, fa_u_n _ _ (by omega)]; exact g9))))))) gm_x2297 (go_x2297.trans (congrArg nI ho_x2297.e)) t ((h2296.2 405 (by omega)).trans ((h2247.2 405 (by omega)).trans ((h2219.2 405 (by omega)).trans ((h2215.2 405 (by omega)).trans ((h2211.2 405 (by omega)).trans (((congrFun e2209 405).trans (fa_u_k _ _ (by decide))).trans (((congrFun e2206 405).trans (fa_u_k _ _ (by decide))).trans h5))))))) (nI (44)) (by decide)) ln_X7_144 (by omega) rfl rfl rfl rfl (Nat.le_of_ble_eq_true rfl) hl.1 ⟨Nat.le_of_ble_eq_true rfl, Nat.le_of_ble_eq_true rfl⟩ ⟨Nat.le_refl _, Nat.le_refl _⟩ dX7_readsOrder_154 (fun x2304 v2305 H locs h2303 HX2306 => ?_)
              obtain ⟨hx_x2304, m_x2304, o_x2304, ⟨ha_x2304, hc_x2304, hd_x2304, hm_x2304, ho_x2304⟩, gm_x2304, go_x2304, hf_x2304, hr_x2304⟩ := h2303.1
              have hxc := hx_x2304
              have hmc := hm_x2304
              refine lv_if_eq (tgt := 176) hx hb dX7_readsOrder_157 (by decide) (fun c_157 => ?_) (fun c_157 => ?_)
              · have hcm := fa_ifn hxc c_157
                have hpc := hmc.e.trans (fa_acc_f hcm)
                refine lv_iconst (v := nI (0)) hx hb dX7_readsOrder_176 (by decide) ?_
                refine lv_istore_n (lv' := [(1, .int (nI (0))), (0, .ref (fa_B G + (397)))]) hx hb dX7_readsOrder_177 rfl hl (by decide) rfl (fun ls hl => ?_)
                refine lv_goto (tgt := 259) hx hb dX7_readsOrder_178 (by decide) ?_
                refine lv_aload_n hx hb dX7_readsOrder_259 rfl (lv_at hl 1 rfl) ?_
                refine lv_dup hx hb dX7_readsOrder_260 rfl ?_
                refine fa_geti (k := 397) CX HX2306 fl_X7_141 (by omega) rfl rfl dX7_readsOrder_261 ?_
                rw [show v2305 397 11 = nI (no) from (go_x2304.trans (congrArg nI ho_x2304.e))]
                refine lv_iload_n hx hb dX7_readsOrder_264 rfl (lv_at hl 0 rfl) ?_
                refine lv_if_eq (tgt := 272) hx hb dX7_readsOrder_265 (by decide) (fun c_265 => ?_) (fun c_265 => ?_)
                · refine lv_iconst (v := nI (0)) hx hb dX7_readsOrder_272 (by decide) ?_
                  refine fa_iaddN hx hb dX7_readsOrder_273 ?_
                  refine fa_puti (k := 397) CX HX2306 fl_X7_141 (by omega) rfl rfl rfl rfl dX7_readsOrder_274 (fun H locs v2307 e2308 HX2309 => ?_)
                  refine lv_iload_n hx hb dX7_readsOrder_277 rfl (lv_at hl 0 rfl) ?_
                  exact RET _ _ _ _ _ _ _ HX2309 dX7_readsOrder_278 (by decide) (⟨rfl, ⟨⟨(by rw [((fa_ord_s (Or.inr hS108)).trans (fa_two_c hn1 hmn1.e hcm))]; exact rfl), m_x2297, no + 0, ⟨by omega, by omega, by omega, fa_is.mk (by rw [((fa_ord_s (Or.inr hS108)).trans (fa_two_c hn1 hmn1.e hcm))]), fa_is.mk (by rw [((fa_ord_s (Or.inr hS108)).trans (fa_two_c hn1 hmn1.e hcm))]; exact (show no + 0 = no by omega))⟩, (show v2307 397 12 = nI (m_x2297) from (by rw [e2308, fa_u_n _ _ (by omega)]; exact ((gm_x2304).trans (congrArg nI hpc)))), (show v2307 397 11 = nI (no + 0) from (by rw [e2308, fa_u_s])), (show fa_f3 v v2307 from (by rw [e2308]; exact fa_f3.w (fa_f3.tr (fa_f3.tr (fa_f3.tr (fa_f3.tr (fa_f3.tr (fa_f3.tr (by rw [e2209]; exact fa_f3.u (by rw [e2206]; exact fa_f3.u fa_f3.rf)) hf_x2212) hf_x2216) hf_x2220) hf_x2248) hf_x2297) hf_x2304) (by decide))), (by rw [((fa_ord_s (Or.inr hS108)).trans (fa_two_c hn1 hmn1.e hcm))]; exact ⟨(fun i hi => (by show v2307 403 i = _; rw [e2308, fa_u_k _ _ (by decide), hr_x2304, hr_x2297.2 i (by omega), hr_x2248, hr_x2220, hr_x2216, hr_x2212]; exact hA i hi)), (by show v2307 403 (4 * no) = _; rw [e2308, fa_u_k _ _ (by decide), hr_x2304, hr_x2297.2 (4 * no) (by omega), hr_x2248, hr_x2220, hr_x2216, hr_x2212]; exact hB), (by show v2307 403 (4 * no + 1) = _; rw [e2308, fa_u_k _ _ (by decide), hr_x2304, hr_x2297.2 (4 * no + 1) (by omega), hr_x2248, hr_x2220, hr_x2216, hr_x2212]; exact hC), (fun z => absurd (show false = true from z) (by decide))⟩)⟩, (by rw [e2308]; exact fa_fr.u (fa_fr.tr (fa_fr.tr (fa_fr.tr (fa_fr.tr (fa_fr.tr (fa_fr.tr (by rw [e2209]; exact fa_fr.u (by rw [e2206]; exact fa_fr.u fa_fr.rf (by omega)) (by omega)) (fa_fr.wide h2211.2 (by omega) (by omega))) (fa_fr.wide h2215.2 (by omega) (by omega))) (fa_fr.wide h2219.2 (by omega) (by omega))) (fa_fr.wide h2247.2 (by omega) (by omega))) (fa_fr.wide h2296.2 (by omega) (by omega))) (fa_fr.wide h2303.2 (by omega) (by omega))) (by omega))⟩⟩)
                · exact absurd (by try decide) c_265
              · have hcm := fa_ift hxc c_157
                have hpc := hmc.e.trans (fa_acc_t hcm)
                refine lv_aload_n hx hb dX7_readsOrder_160 rfl (lv_at hl 0 rfl) ?_
                refine lv_iconst (v := nI (3)) hx hb dX7_readsOrder_161 (by decide) ?_
                refine lv_iconst (v := nI (0)) hx hb dX7_readsOrder_162 (by decide) ?_
                refine lv_sipush (v := nI (199)) hx hb dX7_readsOrder_163 (by decide) ?_
                refine fa_callViu (As := [.int (nI (3)), .int (nI (0)), .int (nI (199))]) (rest := []) CX HX2306 (r_number l G n hn v2305 r hM (n9) (m_x2297 + 1) (no) (by omega) (by omega) (by omega) ((hf_x2304.2 9 (by decide) (by decide)).trans ((hf_x2297.2 9 (by decide) (by decide)).trans ((hf_x2248.2 9 (by decide) (by decide)).trans ((hf_x2220.2 9 (by decide) (by decide)).trans ((hf_x2216.2 9 (by decide) (by decide)).trans ((hf_x2212.2 9 (by decide) (by decide)).trans (by rw [e2209, fa_u_n _ _ (by omega)]; exact (by rw [e2206, fa_u_n _ _ (by omega)]; exact g9)))))))) ((gm_x2304).trans (congrArg nI hpc)) (go_x2304.trans (congrArg nI ho_x2304.e)) t ((h2303.2 405 (by omega)).trans ((h2296.2 405 (by omega)).trans ((h2247.2 405 (by omega)).trans ((h2219.2 405 (by omega)).trans ((h2215.2 405 (by omega)).trans ((h2211.2 405 (by omega)).trans (((congrFun e2209 405).trans (fa_u_k _ _ (by decide))).trans (((congrFun e2206 405).trans (fa_u_k _ _ (by decide))).trans h5)))))))) (3) (nI (0)) (nI (199)) (by omega) ⟨0, by decide, rfl⟩ ⟨199, by decide, rfl⟩) ln_X7_148 (by omega) rfl rfl rfl rfl (Nat.le_of_ble_eq_true rfl) hl.1 ⟨Nat.le_of_ble_eq_true rfl, Nat.le_of_ble_eq_true rfl⟩ ⟨Nat.le_refl _, Nat.le_refl _⟩ dX7_readsOrder_166 (fun x2311 v2312 H locs h2310 HX2313 => ?_)
                obtain ⟨hx_x2311, m_x2311, o_x2311, ⟨ha_x2311, hc_x2311, hd_x2311, hm_x2311, ho_x2311⟩, gm_x2311, go_x2311, hf_x2311, hr_x2311⟩ := h2310.1
                have hxn2 := hx_x2311
                have hmn2 := hm_x2311
                refine lv_if_eq (tgt := 176) hx hb dX7_readsOrder_169 (by decide) (fun c_169 => ?_) (fun c_169 => ?_)
                · have hn2 := fa_ifn hxn2 c_169
                  refine lv_iconst (v := nI (0)) hx hb dX7_readsOrder_176 (by decide) ?_
                  refine lv_istore_n (lv' := [(1, .int (nI (0))), (0, .ref (fa_B G + (397)))]) hx hb dX7_readsOrder_177 rfl hl (by decide) rfl (fun ls hl => ?_)
                  refine lv_goto (tgt := 259) hx hb dX7_readsOrder_178 (by decide) ?_
                  refine lv_aload_n hx hb dX7_readsOrder_259 rfl (lv_at hl 1 rfl) ?_
                  refine lv_dup hx hb dX7_readsOrder_260 rfl ?_
                  refine fa_geti (k := 397) CX HX2313 fl_X7_141 (by omega) rfl rfl dX7_readsOrder_261 ?_
                  rw [show v2312 397 11 = nI (no) from (go_x2311.trans (congrArg nI ho_x2311.e))]
                  refine lv_iload_n hx hb dX7_readsOrder_264 rfl (lv_at hl 0 rfl) ?_
                  refine lv_if_eq (tgt := 272) hx hb dX7_readsOrder_265 (by decide) (fun c_265 => ?_) (fun c_265 => ?_)
                  · refine lv_iconst (v := nI (0)) hx hb dX7_readsOrder_272 (by decide) ?_
                    refine fa_iaddN hx hb dX7_readsOrder_273 ?_
                    refine fa_puti (k := 397) CX HX2313 fl_X7_141 (by omega) rfl rfl rfl rfl dX7_readsOrder_274 (fun H locs v2314 e2315 HX2316 => ?_)
                    refine lv_iload_n hx hb dX7_readsOrder_277 rfl (lv_at hl 0 rfl) ?_
                    exact RET _ _ _ _ _ _ _ HX2316 dX7_readsOrder_278 (by decide) (⟨rfl, ⟨⟨(by rw [((fa_ord_s (Or.inr hS108)).trans (fa_two_n hn1 hmn1.e hcm hn2))]; exact rfl), m_x2311, no + 0, ⟨by omega, by omega, by omega, fa_is.mk (by rw [((fa_ord_s (Or.inr hS108)).trans (fa_two_n hn1 hmn1.e hcm hn2))]; exact hmn2.e), fa_is.mk (by rw [((fa_ord_s (Or.inr hS108)).trans (fa_two_n hn1 hmn1.e hcm hn2))]; exact (show no + 0 = no by omega))⟩, (show v2314 397 12 = nI (m_x2311) from (by rw [e2315, fa_u_n _ _ (by omega)]; exact gm_x2311)), (show v2314 397 11 = nI (no + 0) from (by rw [e2315, fa_u_s])), (show fa_f3 v v2314 from (by rw [e2315]; exact fa_f3.w (fa_f3.tr (fa_f3.tr (fa_f3.tr (fa_f3.tr (fa_f3.tr (fa_f3.tr (fa_f3.tr (by rw [e2209]; exact fa_f3.u (by rw [e2206]; exact fa_f3.u fa_f3.rf)) hf_x2212) hf_x2216) hf_x2220) hf_x2248) hf_x2297) hf_x2304) hf_x2311) (by decide))), (by rw [((fa_ord_s (Or.inr hS108)).trans (fa_two_n hn1 hmn1.e hcm hn2))]; exact ⟨(fun i hi => (by show v2314 403 i = _; rw [e2315, fa_u_k _ _ (by decide), hr_x2311.2 i (by omega), hr_x2304, hr_x2297.2 i (by omega), hr_x2248, hr_x2220, hr_x2216, hr_x2212]; exact hA i hi)), (by show v2314 403 (4 * no) = _; rw [e2315, fa_u_k _ _ (by decide), hr_x2311.2 (4 * no) (by omega), hr_x2304, hr_x2297.2 (4 * no) (by omega), hr_x2248, hr_x2220, hr_x2216, hr_x2212]; exact hB), (by show v2314 403 (4 * no + 1) = _; rw [e2315, fa_u_k _ _ (by decide), hr_x2311.2 (4 * no + 1) (by omega), hr_x2304, hr_x2297.2 (4 * no + 1) (by omega), hr_x2248, hr_x2220, hr_x2216, hr_x2212]; exact hC), (fun z => absurd (show false = true from z) (by decide))⟩)⟩, (by rw [e2315]; exact fa_fr.u (fa_fr.tr (fa_fr.tr (fa_fr.tr (fa_fr.tr (fa_fr.tr (fa_fr.tr (fa_fr.tr (by rw [e2209]; exact fa_fr.u (by rw [e2206]; exact fa_fr.u fa_fr.rf (by omega)) (by omega)) (fa_fr.wide h2211.2 (by omega) (by omega))) (fa_fr.wide h2215.2 (by omega) (by omega))) (fa_fr.wide h2219.2 (by omega) (by omega))) (fa_fr.wide h2247.2 (by omega) (by omega))) (fa_fr.wide h2296.2 (by omega) (by omega))) (fa_fr.wide h2303.2 (by omega) (by omega))) (fa_fr.wide h2310.2 (by omega) (by omega))) (by omega))⟩⟩)
                  · exact absurd (by try decide) c_265
                · have hn2 := fa_ift hxn2 c_169
                  refine lv_iconst (v := nI (1)) hx hb dX7_readsOrder_172 (by decide) ?_
                  refine lv_goto (tgt := 177) hx hb dX7_readsOrder_173 (by decide) ?_
                  refine lv_istore_n (lv' := [(1, .int (nI (1))), (0, .ref (fa_B G + (397)))]) hx hb dX7_readsOrder_177 rfl hl (by decide) rfl (fun ls hl => ?_)
                  refine lv_goto (tgt := 259) hx hb dX7_readsOrder_178 (by decide) ?_
                  refine lv_aload_n hx hb dX7_readsOrder_259 rfl (lv_at hl 1 rfl) ?_
                  refine lv_dup hx hb dX7_readsOrder_260 rfl ?_
                  refine fa_geti (k := 397) CX HX2313 fl_X7_141 (by omega) rfl rfl dX7_readsOrder_261 ?_
                  rw [show v2312 397 11 = nI (no) from (go_x2311.trans (congrArg nI ho_x2311.e))]
                  refine lv_iload_n hx hb dX7_readsOrder_264 rfl (lv_at hl 0 rfl) ?_
                  refine lv_if_eq (tgt := 272) hx hb dX7_readsOrder_265 (by decide) (fun c_265 => ?_) (fun c_265 => ?_)
                  · exact absurd c_265 (by try decide)
                  · refine lv_iconst (v := nI (1)) hx hb dX7_readsOrder_268 (by decide) ?_
                    refine lv_goto (tgt := 273) hx hb dX7_readsOrder_269 (by decide) ?_
                    refine fa_iaddN hx hb dX7_readsOrder_273 ?_
                    refine fa_puti (k := 397) CX HX2313 fl_X7_141 (by omega) rfl rfl rfl rfl dX7_readsOrder_274 (fun H locs v2317 e2318 HX2319 => ?_)
                    refine lv_iload_n hx hb dX7_readsOrder_277 rfl (lv_at hl 0 rfl) ?_
                    exact RET _ _ _ _ _ _ _ HX2319 dX7_readsOrder_278 (by decide) (⟨rfl, ⟨⟨(by rw [((fa_ord_s (Or.inr hS108)).trans (fa_two_y hn1 hmn1.e hcm hn2))]; exact rfl), m_x2311, no + 1, ⟨by omega, by omega, (by have hfx := (show na + 2 ≤ m_x2311 from by have z := (fa_ord_le (t := t) hna).2.2; rw [((fa_ord_s (Or.inr hS108)).trans (fa_two_y hn1 hmn1.e hcm hn2))] at z; rw [hmn2.e]; exact z rfl); omega), fa_is.mk (by rw [((fa_ord_s (Or.inr hS108)).trans (fa_two_y hn1 hmn1.e hcm hn2))]; exact hmn2.e), fa_is.mk (by rw [((fa_ord_s (Or.inr hS108)).trans (fa_two_y hn1 hmn1.e hcm hn2))]; exact (show no + 1 = no + 1 by omega))⟩, (show v2317 397 12 = nI (m_x2311) from (by rw [e2318, fa_u_n _ _ (by omega)]; exact gm_x2311)), (show v2317 397 11 = nI (no + 1) from (by rw [e2318, fa_u_s])), (show fa_f3 v v2317 from (by rw [e2318]; exact fa_f3.w (fa_f3.tr (fa_f3.tr (fa_f3.tr (fa_f3.tr (fa_f3.tr (fa_f3.tr (fa_f3.tr (by rw [e2209]; exact fa_f3.u (by rw [e2206]; exact fa_f3.u fa_f3.rf)) hf_x2212) hf_x2216) hf_x2220) hf_x2248) hf_x2297) hf_x2304) hf_x2311) (by decide))), (by rw [((fa_ord_s (Or.inr hS108)).trans (fa_two_y hn1 hmn1.e hcm hn2))]; exact ⟨(fun i hi => (by show v2317 403 i = _; rw [e2318, fa_u_k _ _ (by decide), hr_x2311.2 i (by omega), hr_x2304, hr_x2297.2 i (by omega), hr_x2248, hr_x2220, hr_x2216, hr_x2212]; exact hA i hi)), (by show v2317 403 (4 * no) = _; rw [e2318, fa_u_k _ _ (by decide), hr_x2311.2 (4 * no) (by omega), hr_x2304, hr_x2297.2 (4 * no) (by omega), hr_x2248, hr_x2220, hr_x2216, hr_x2212]; exact hB), (by show v2317 403 (4 * no + 1) = _; rw [e2318, fa_u_k _ _ (by decide), hr_x2311.2 (4 * no + 1) (by omega), hr_x2304, hr_x2297.2 (4 * no + 1) (by omega), hr_x2248, hr_x2220, hr_x2216, hr_x2212]; exact hC), (fun _ => ⟨(by show v2317 403 (4 * no + 2) = _; rw [e2318, fa_u_k _ _ (by decide), hr_x2311.2 (4 * no + 2) (by omega), hr_x2304]; exact hr_x2297.1 hn1), (fun _ _ => (by show v2317 403 (4 * no + 3) = _; rw [e2318, fa_u_k _ _ (by decide)]; exact hr_x2311.1 hn2))⟩)⟩)⟩, (by rw [e2318]; exact fa_fr.u (fa_fr.tr (fa_fr.tr (fa_fr.tr (fa_fr.tr (fa_fr.tr (fa_fr.tr (fa_fr.tr (by rw [e2209]; exact fa_fr.u (by rw [e2206]; exact fa_fr.u fa_fr.rf (by omega)) (by omega)) (fa_fr.wide h2211.2 (by omega) (by omega))) (fa_fr.wide h2215.2 (by omega) (by omega))) (fa_fr.wide h2219.2 (by omega) (by omega))) (fa_fr.wide h2247.2 (by omega) (by omega))) (fa_fr.wide h2296.2 (by omega) (by omega))) (fa_fr.wide h2303.2 (by omega) (by omega))) (fa_fr.wide h2310.2 (by omega) (by omega))) (by omega))⟩⟩)
      · have hS97 : fa_sg t n9 na = (97 : Int32) := fa_ift hxa c_106
        have hp97 := hma.e.trans (fa_acc_t hS97)
        have hlt : na < n9 := fa_sg_nz hS97 (by decide)
        clear ha_x2216 hc_x2216 hd_x2216
        refine lv_aload_n hx hb dX7_readsOrder_109 rfl (lv_at hl 0 rfl) ?_
        refine lv_iconst (v := nI (2)) hx hb dX7_readsOrder_110 (by decide) ?_
        refine lv_iconst (v := nI (0)) hx hb dX7_readsOrder_111 (by decide) ?_
        refine lv_sipush (v := nI (199)) hx hb dX7_readsOrder_112 (by decide) ?_
        refine fa_callViu (As := [.int (nI (2)), .int (nI (0)), .int (nI (199))]) (rest := []) CX HX2218 (r_number l G n hn v2217 r hM (n9) (na + 1) (no) (by omega) (by omega) (by omega) ((hf_x2216.2 9 (by decide) (by decide)).trans ((hf_x2212.2 9 (by decide) (by decide)).trans (by rw [e2209, fa_u_n _ _ (by omega)]; exact (by rw [e2206, fa_u_n _ _ (by omega)]; exact g9)))) ((gm_x2216).trans (congrArg nI hp97)) (go_x2216.trans (congrArg nI ho_x2216.e)) t ((h2215.2 405 (by omega)).trans ((h2211.2 405 (by omega)).trans (((congrFun e2209 405).trans (fa_u_k _ _ (by decide))).trans (((congrFun e2206 405).trans (fa_u_k _ _ (by decide))).trans h5)))) (2) (nI (0)) (nI (199)) (by omega) ⟨0, by decide, rfl⟩ ⟨199, by decide, rfl⟩) ln_X7_148 (by omega) rfl rfl rfl rfl (Nat.le_of_ble_eq_true rfl) hl.1 ⟨Nat.le_of_ble_eq_true rfl, Nat.le_of_ble_eq_true rfl⟩ ⟨Nat.le_refl _, Nat.le_refl _⟩ dX7_readsOrder_115 (fun x2321 v2322 H locs h2320 HX2323 => ?_)
        obtain ⟨hx_x2321, m_x2321, o_x2321, ⟨ha_x2321, hc_x2321, hd_x2321, hm_x2321, ho_x2321⟩, gm_x2321, go_x2321, hf_x2321, hr_x2321⟩ := h2320.1
        have hxn1 := hx_x2321
        have hmn1 := hm_x2321
        refine lv_istore_n (lv' := [(1, .int (x2321)), (0, .ref (fa_B G + (397)))]) hx hb dX7_readsOrder_118 rfl hl (by decide) rfl (fun ls hl => ?_)
        refine lv_goto (tgt := 259) hx hb dX7_readsOrder_119 (by decide) ?_
        refine lv_aload_n hx hb dX7_readsOrder_259 rfl (lv_at hl 1 rfl) ?_
        refine lv_dup hx hb dX7_readsOrder_260 rfl ?_
        refine fa_geti (k := 397) CX HX2323 fl_X7_141 (by omega) rfl rfl dX7_readsOrder_261 ?_
        rw [show v2322 397 11 = nI (no) from (go_x2321.trans (congrArg nI ho_x2321.e))]
        refine lv_iload_n hx hb dX7_readsOrder_264 rfl (lv_at hl 0 rfl) ?_
        refine lv_if_eq (tgt := 272) hx hb dX7_readsOrder_265 (by decide) (fun c_265 => ?_) (fun c_265 => ?_)
        · have hn1 := fa_ifn hxn1 c_265
          refine lv_iconst (v := nI (0)) hx hb dX7_readsOrder_272 (by decide) ?_
          refine fa_iaddN hx hb dX7_readsOrder_273 ?_
          refine fa_puti (k := 397) CX HX2323 fl_X7_141 (by omega) rfl rfl rfl rfl dX7_readsOrder_274 (fun H locs v2324 e2325 HX2326 => ?_)
          refine lv_iload_n hx hb dX7_readsOrder_277 rfl (lv_at hl 0 rfl) ?_
          exact RET _ _ _ _ _ _ _ HX2326 dX7_readsOrder_278 (fa_if_nar hxn1) (⟨rfl, ⟨⟨(by rw [((fa_ord_a hS97).trans (fa_one_f hn1))]; exact (hxn1.trans (if_neg hn1))), m_x2321, no + 0, ⟨by omega, by omega, by omega, fa_is.mk (by rw [((fa_ord_a hS97).trans (fa_one_f hn1))]; exact hmn1.e), fa_is.mk (by rw [((fa_ord_a hS97).trans (fa_one_f hn1))]; exact (show no + 0 = no by omega))⟩, (show v2324 397 12 = nI (m_x2321) from (by rw [e2325, fa_u_n _ _ (by omega)]; exact gm_x2321)), (show v2324 397 11 = nI (no + 0) from (by rw [e2325, fa_u_s])), (show fa_f3 v v2324 from (by rw [e2325]; exact fa_f3.w (fa_f3.tr (fa_f3.tr (fa_f3.tr (by rw [e2209]; exact fa_f3.u (by rw [e2206]; exact fa_f3.u fa_f3.rf)) hf_x2212) hf_x2216) hf_x2321) (by decide))), (by rw [((fa_ord_a hS97).trans (fa_one_f hn1))]; exact ⟨(fun i hi => (by show v2324 403 i = _; rw [e2325, fa_u_k _ _ (by decide), hr_x2321.2 i (by omega), hr_x2216, hr_x2212]; exact hA i hi)), (by show v2324 403 (4 * no) = _; rw [e2325, fa_u_k _ _ (by decide), hr_x2321.2 (4 * no) (by omega), hr_x2216, hr_x2212]; exact hB), (by show v2324 403 (4 * no + 1) = _; rw [e2325, fa_u_k _ _ (by decide), hr_x2321.2 (4 * no + 1) (by omega), hr_x2216, hr_x2212]; exact hC), (fun z => absurd (show false = true from z) (by decide))⟩)⟩, (by rw [e2325]; exact fa_fr.u (fa_fr.tr (fa_fr.tr (fa_fr.tr (by rw [e2209]; exact fa_fr.u (by rw [e2206]; exact fa_fr.u fa_fr.rf (by omega)) (by omega)) (fa_fr.wide h2211.2 (by omega) (by omega))) (fa_fr.wide h2215.2 (by omega) (by omega))) (fa_fr.wide h2320.2 (by omega) (by omega))) (by omega))⟩⟩)
        · have hn1 := fa_ift hxn1 c_265
          refine lv_iconst (v := nI (1)) hx hb dX7_readsOrder_268 (by decide) ?_
          refine lv_goto (tgt := 273) hx hb dX7_readsOrder_269 (by decide) ?_
          refine fa_iaddN hx hb dX7_readsOrder_273 ?_
          refine fa_puti (k := 397) CX HX2323 fl_X7_141 (by omega) rfl rfl rfl rfl dX7_readsOrder_274 (fun H locs v2327 e2328 HX2329 => ?_)
          refine lv_iload_n hx hb dX7_readsOrder_277 rfl (lv_at hl 0 rfl) ?_
          exact RET _ _ _ _ _ _ _ HX2329 dX7_readsOrder_278 (fa_if_nar hxn1) (⟨rfl, ⟨⟨(by rw [((fa_ord_a hS97).trans (fa_one_t hn1))]; exact (hxn1.trans (if_pos hn1))), m_x2321, no + 1, ⟨by omega, by omega, (by have hfx := (show na + 2 ≤ m_x2321 from by have z := (fa_ord_le (t := t) hna).2.2; rw [((fa_ord_a hS97).trans (fa_one_t hn1))] at z; rw [hmn1.e]; exact z rfl); omega), fa_is.mk (by rw [((fa_ord_a hS97).trans (fa_one_t hn1))]; exact hmn1.e), fa_is.mk (by rw [((fa_ord_a hS97).trans (fa_one_t hn1))]; exact (show no + 1 = no + 1 by omega))⟩, (show v2327 397 12 = nI (m_x2321) from (by rw [e2328, fa_u_n _ _ (by omega)]; exact gm_x2321)), (show v2327 397 11 = nI (no + 1) from (by rw [e2328, fa_u_s])), (show fa_f3 v v2327 from (by rw [e2328]; exact fa_f3.w (fa_f3.tr (fa_f3.tr (fa_f3.tr (by rw [e2209]; exact fa_f3.u (by rw [e2206]; exact fa_f3.u fa_f3.rf)) hf_x2212) hf_x2216) hf_x2321) (by decide))), (by rw [((fa_ord_a hS97).trans (fa_one_t hn1))]; exact ⟨(fun i hi => (by show v2327 403 i = _; rw [e2328, fa_u_k _ _ (by decide), hr_x2321.2 i (by omega), hr_x2216, hr_x2212]; exact hA i hi)), (by show v2327 403 (4 * no) = _; rw [e2328, fa_u_k _ _ (by decide), hr_x2321.2 (4 * no) (by omega), hr_x2216, hr_x2212]; exact hB), (by show v2327 403 (4 * no + 1) = _; rw [e2328, fa_u_k _ _ (by decide), hr_x2321.2 (4 * no + 1) (by omega), hr_x2216, hr_x2212]; exact hC), (fun _ => ⟨(by show v2327 403 (4 * no + 2) = _; rw [e2328, fa_u_k _ _ (by decide)]; exact hr_x2321.1 hn1), (fun y1 y2 => by first | exact absurd hS97 y1 | exact absurd hS100 y2)⟩)⟩)⟩, (by rw [e2328]; exact fa_fr.u (fa_fr.tr (fa_fr.tr (fa_fr.tr (by rw [e2209]; exact fa_fr.u (by rw [e2206]; exact fa_fr.u fa_fr.rf (by omega)) (by omega)) (fa_fr.wide h2211.2 (by omega) (by omega))) (fa_fr.wide h2215.2 (by omega) (by omega))) (fa_fr.wide h2320.2 (by omega) (by omega))) (by omega))⟩⟩)
    · have hS110 : fa_sg t n9 na = (110 : Int32) := fa_ift hxa c_58
      have hp110 := hma.e.trans (fa_acc_t hS110)
      have hlt : na < n9 := fa_sg_nz hS110 (by decide)
      clear ha_x2212 hc_x2212 hd_x2212
      refine lv_aload_n hx hb dX7_readsOrder_61 rfl (lv_at hl 0 rfl) ?_
      refine lv_iconst (v := nI (2)) hx hb dX7_readsOrder_62 (by decide) ?_
      refine lv_iconst (v := nI (0)) hx hb dX7_readsOrder_63 (by decide) ?_
      refine lv_iconst (v := nI (4)) hx hb dX7_readsOrder_64 (by decide) ?_
      refine fa_callViu (As := [.int (nI (2)), .int (nI (0)), .int (nI (4))]) (rest := []) CX HX2214 (r_number l G n hn v2213 r hM (n9) (na + 1) (no) (by omega) (by omega) (by omega) ((hf_x2212.2 9 (by decide) (by decide)).trans (by rw [e2209, fa_u_n _ _ (by omega)]; exact (by rw [e2206, fa_u_n _ _ (by omega)]; exact g9))) ((gm_x2212).trans (congrArg nI hp110)) (go_x2212.trans (congrArg nI ho_x2212.e)) t ((h2211.2 405 (by omega)).trans (((congrFun e2209 405).trans (fa_u_k _ _ (by decide))).trans (((congrFun e2206 405).trans (fa_u_k _ _ (by decide))).trans h5))) (2) (nI (0)) (nI (4)) (by omega) ⟨0, by decide, rfl⟩ ⟨4, by decide, rfl⟩) ln_X7_148 (by omega) rfl rfl rfl rfl (Nat.le_of_ble_eq_true rfl) hl.1 ⟨Nat.le_of_ble_eq_true rfl, Nat.le_of_ble_eq_true rfl⟩ ⟨Nat.le_refl _, Nat.le_refl _⟩ dX7_readsOrder_65 (fun x2331 v2332 H locs h2330 HX2333 => ?_)
      obtain ⟨hx_x2331, m_x2331, o_x2331, ⟨ha_x2331, hc_x2331, hd_x2331, hm_x2331, ho_x2331⟩, gm_x2331, go_x2331, hf_x2331, hr_x2331⟩ := h2330.1
      have hxn1 := hx_x2331
      have hmn1 := hm_x2331
      refine lv_if_eq (tgt := 95) hx hb dX7_readsOrder_68 (by decide) (fun c_68 => ?_) (fun c_68 => ?_)
      · have hn1 := fa_ifn hxn1 c_68
        refine lv_iconst (v := nI (0)) hx hb dX7_readsOrder_95 (by decide) ?_
        refine lv_istore_n (lv' := [(1, .int (nI (0))), (0, .ref (fa_B G + (397)))]) hx hb dX7_readsOrder_96 rfl hl (by decide) rfl (fun ls hl => ?_)
        refine lv_goto (tgt := 259) hx hb dX7_readsOrder_97 (by decide) ?_
        refine lv_aload_n hx hb dX7_readsOrder_259 rfl (lv_at hl 1 rfl) ?_
        refine lv_dup hx hb dX7_readsOrder_260 rfl ?_
        refine fa_geti (k := 397) CX HX2333 fl_X7_141 (by omega) rfl rfl dX7_readsOrder_261 ?_
        rw [show v2332 397 11 = nI (no) from (go_x2331.trans (congrArg nI ho_x2331.e))]
        refine lv_iload_n hx hb dX7_readsOrder_264 rfl (lv_at hl 0 rfl) ?_
        refine lv_if_eq (tgt := 272) hx hb dX7_readsOrder_265 (by decide) (fun c_265 => ?_) (fun c_265 => ?_)
        · refine lv_iconst (v := nI (0)) hx hb dX7_readsOrder_272 (by decide) ?_
          refine fa_iaddN hx hb dX7_readsOrder_273 ?_
          refine fa_puti (k := 397) CX HX2333 fl_X7_141 (by omega) rfl rfl rfl rfl dX7_readsOrder_274 (fun H locs v2334 e2335 HX2336 => ?_)
          refine lv_iload_n hx hb dX7_readsOrder_277 rfl (lv_at hl 0 rfl) ?_
          exact RET _ _ _ _ _ _ _ HX2336 dX7_readsOrder_278 (by decide) (⟨rfl, ⟨⟨(by rw [((fa_ord_n hS110).trans (fa_two_f hn1))]; exact rfl), m_x2331, no + 0, ⟨by omega, by omega, by omega, fa_is.mk (by rw [((fa_ord_n hS110).trans (fa_two_f hn1))]; exact hmn1.e), fa_is.mk (by rw [((fa_ord_n hS110).trans (fa_two_f hn1))]; exact (show no + 0 = no by omega))⟩, (show v2334 397 12 = nI (m_x2331) from (by rw [e2335, fa_u_n _ _ (by omega)]; exact gm_x2331)), (show v2334 397 11 = nI (no + 0) from (by rw [e2335, fa_u_s])), (show fa_f3 v v2334 from (by rw [e2335]; exact fa_f3.w (fa_f3.tr (fa_f3.tr (by rw [e2209]; exact fa_f3.u (by rw [e2206]; exact fa_f3.u fa_f3.rf)) hf_x2212) hf_x2331) (by decide))), (by rw [((fa_ord_n hS110).trans (fa_two_f hn1))]; exact ⟨(fun i hi => (by show v2334 403 i = _; rw [e2335, fa_u_k _ _ (by decide), hr_x2331.2 i (by omega), hr_x2212]; exact hA i hi)), (by show v2334 403 (4 * no) = _; rw [e2335, fa_u_k _ _ (by decide), hr_x2331.2 (4 * no) (by omega), hr_x2212]; exact hB), (by show v2334 403 (4 * no + 1) = _; rw [e2335, fa_u_k _ _ (by decide), hr_x2331.2 (4 * no + 1) (by omega), hr_x2212]; exact hC), (fun z => absurd (show false = true from z) (by decide))⟩)⟩, (by rw [e2335]; exact fa_fr.u (fa_fr.tr (fa_fr.tr (by rw [e2209]; exact fa_fr.u (by rw [e2206]; exact fa_fr.u fa_fr.rf (by omega)) (by omega)) (fa_fr.wide h2211.2 (by omega) (by omega))) (fa_fr.wide h2330.2 (by omega) (by omega))) (by omega))⟩⟩)
        · exact absurd (by try decide) c_265
      · have hn1 := fa_ift hxn1 c_68
        refine lv_aload_n hx hb dX7_readsOrder_71 rfl (lv_at hl 0 rfl) ?_
        refine lv_bipush (v := nI (44)) hx hb dX7_readsOrder_72 (by decide) ?_
        refine fa_callViu (As := [.int (nI (44))]) (rest := []) CX HX2333 (r_accepts l G n hn v2332 r hM (n9) (m_x2331) (no) (by omega) (by omega) (by omega) ((hf_x2331.2 9 (by decide) (by decide)).trans ((hf_x2212.2 9 (by decide) (by decide)).trans (by rw [e2209, fa_u_n _ _ (by omega)]; exact (by rw [e2206, fa_u_n _ _ (by omega)]; exact g9)))) gm_x2331 (go_x2331.trans (congrArg nI ho_x2331.e)) t ((h2330.2 405 (by omega)).trans ((h2211.2 405 (by omega)).trans (((congrFun e2209 405).trans (fa_u_k _ _ (by decide))).trans (((congrFun e2206 405).trans (fa_u_k _ _ (by decide))).trans h5)))) (nI (44)) (by decide)) ln_X7_144 (by omega) rfl rfl rfl rfl (Nat.le_of_ble_eq_true rfl) hl.1 ⟨Nat.le_of_ble_eq_true rfl, Nat.le_of_ble_eq_true rfl⟩ ⟨Nat.le_refl _, Nat.le_refl _⟩ dX7_readsOrder_74 (fun x2338 v2339 H locs h2337 HX2340 => ?_)
        obtain ⟨hx_x2338, m_x2338, o_x2338, ⟨ha_x2338, hc_x2338, hd_x2338, hm_x2338, ho_x2338⟩, gm_x2338, go_x2338, hf_x2338, hr_x2338⟩ := h2337.1
        have hxc := hx_x2338
        have hmc := hm_x2338
        refine lv_if_eq (tgt := 95) hx hb dX7_readsOrder_77 (by decide) (fun c_77 => ?_) (fun c_77 => ?_)
        · have hcm := fa_ifn hxc c_77
          have hpc := hmc.e.trans (fa_acc_f hcm)
          refine lv_iconst (v := nI (0)) hx hb dX7_readsOrder_95 (by decide) ?_
          refine lv_istore_n (lv' := [(1, .int (nI (0))), (0, .ref (fa_B G + (397)))]) hx hb dX7_readsOrder_96 rfl hl (by decide) rfl (fun ls hl => ?_)
          refine lv_goto (tgt := 259) hx hb dX7_readsOrder_97 (by decide) ?_
          refine lv_aload_n hx hb dX7_readsOrder_259 rfl (lv_at hl 1 rfl) ?_
          refine lv_dup hx hb dX7_readsOrder_260 rfl ?_
          refine fa_geti (k := 397) CX HX2340 fl_X7_141 (by omega) rfl rfl dX7_readsOrder_261 ?_
          rw [show v2339 397 11 = nI (no) from (go_x2338.trans (congrArg nI ho_x2338.e))]
          refine lv_iload_n hx hb dX7_readsOrder_264 rfl (lv_at hl 0 rfl) ?_
          refine lv_if_eq (tgt := 272) hx hb dX7_readsOrder_265 (by decide) (fun c_265 => ?_) (fun c_265 => ?_)
          · refine lv_iconst (v := nI (0)) hx hb dX7_readsOrder_272 (by decide) ?_
            refine fa_iaddN hx hb dX7_readsOrder_273 ?_
            refine fa_puti (k := 397) CX HX2340 fl_X7_141 (by omega) rfl rfl rfl rfl dX7_readsOrder_274 (fun H locs v2341 e2342 HX2343 => ?_)
            refine lv_iload_n hx hb dX7_readsOrder_277 rfl (lv_at hl 0 rfl) ?_
            exact RET _ _ _ _ _ _ _ HX2343 dX7_readsOrder_278 (by decide) (⟨rfl, ⟨⟨(by rw [((fa_ord_n hS110).trans (fa_two_c hn1 hmn1.e hcm))]; exact rfl), m_x2331, no + 0, ⟨by omega, by omega, by omega, fa_is.mk (by rw [((fa_ord_n hS110).trans (fa_two_c hn1 hmn1.e hcm))]), fa_is.mk (by rw [((fa_ord_n hS110).trans (fa_two_c hn1 hmn1.e hcm))]; exact (show no + 0 = no by omega))⟩, (show v2341 397 12 = nI (m_x2331) from (by rw [e2342, fa_u_n _ _ (by omega)]; exact ((gm_x2338).trans (congrArg nI hpc)))), (show v2341 397 11 = nI (no + 0) from (by rw [e2342, fa_u_s])), (show fa_f3 v v2341 from (by rw [e2342]; exact fa_f3.w (fa_f3.tr (fa_f3.tr (fa_f3.tr (by rw [e2209]; exact fa_f3.u (by rw [e2206]; exact fa_f3.u fa_f3.rf)) hf_x2212) hf_x2331) hf_x2338) (by decide))), (by rw [((fa_ord_n hS110).trans (fa_two_c hn1 hmn1.e hcm))]; exact ⟨(fun i hi => (by show v2341 403 i = _; rw [e2342, fa_u_k _ _ (by decide), hr_x2338, hr_x2331.2 i (by omega), hr_x2212]; exact hA i hi)), (by show v2341 403 (4 * no) = _; rw [e2342, fa_u_k _ _ (by decide), hr_x2338, hr_x2331.2 (4 * no) (by omega), hr_x2212]; exact hB), (by show v2341 403 (4 * no + 1) = _; rw [e2342, fa_u_k _ _ (by decide), hr_x2338, hr_x2331.2 (4 * no + 1) (by omega), hr_x2212]; exact hC), (fun z => absurd (show false = true from z) (by decide))⟩)⟩, (by rw [e2342]; exact fa_fr.u (fa_fr.tr (fa_fr.tr (fa_fr.tr (by rw [e2209]; exact fa_fr.u (by rw [e2206]; exact fa_fr.u fa_fr.rf (by omega)) (by omega)) (fa_fr.wide h2211.2 (by omega) (by omega))) (fa_fr.wide h2330.2 (by omega) (by omega))) (fa_fr.wide h2337.2 (by omega) (by omega))) (by omega))⟩⟩)
          · exact absurd (by try decide) c_265
        · have hcm := fa_ift hxc c_77
          have hpc := hmc.e.trans (fa_acc_t hcm)
          refine lv_aload_n hx hb dX7_readsOrder_80 rfl (lv_at hl 0 rfl) ?_
          refine lv_iconst (v := nI (3)) hx hb dX7_readsOrder_81 (by decide) ?_
          refine lv_iconst (v := nI (1)) hx hb dX7_readsOrder_82 (by decide) ?_
          refine lv_bipush (v := nI (50)) hx hb dX7_readsOrder_83 (by decide) ?_
          refine fa_callViu (As := [.int (nI (3)), .int (nI (1)), .int (nI (50))]) (rest := []) CX HX2340 (r_number l G n hn v2339 r hM (n9) (m_x2331 + 1) (no) (by omega) (by omega) (by omega) ((hf_x2338.2 9 (by decide) (by decide)).trans ((hf_x2331.2 9 (by decide) (by decide)).trans ((hf_x2212.2 9 (by decide) (by decide)).trans (by rw [e2209, fa_u_n _ _ (by omega)]; exact (by rw [e2206, fa_u_n _ _ (by omega)]; exact g9))))) ((gm_x2338).trans (congrArg nI hpc)) (go_x2338.trans (congrArg nI ho_x2338.e)) t ((h2337.2 405 (by omega)).trans ((h2330.2 405 (by omega)).trans ((h2211.2 405 (by omega)).trans (((congrFun e2209 405).trans (fa_u_k _ _ (by decide))).trans (((congrFun e2206 405).trans (fa_u_k _ _ (by decide))).trans h5))))) (3) (nI (1)) (nI (50)) (by omega) ⟨1, by decide, rfl⟩ ⟨50, by decide, rfl⟩) ln_X7_148 (by omega) rfl rfl rfl rfl (Nat.le_of_ble_eq_true rfl) hl.1 ⟨Nat.le_of_ble_eq_true rfl, Nat.le_of_ble_eq_true rfl⟩ ⟨Nat.le_refl _, Nat.le_refl _⟩ dX7_readsOrder_85 (fun x2345 v2346 H locs h2344 HX2347 => ?_)
          obtain ⟨hx_x2345, m_x2345, o_x2345, ⟨ha_x2345, hc_x2345, hd_x2345, hm_x2345, ho_x2345⟩, gm_x2345, go_x2345, hf_x2345, hr_x2345⟩ := h2344.1
          have hxn2 := hx_x2345
          have hmn2 := hm_x2345
          refine lv_if_eq (tgt := 95) hx hb dX7_readsOrder_88 (by decide) (fun c_88 => ?_) (fun c_88 => ?_)
          · have hn2 := fa_ifn hxn2 c_88
            refine lv_iconst (v := nI (0)) hx hb dX7_readsOrder_95 (by decide) ?_
            refine lv_istore_n (lv' := [(1, .int (nI (0))), (0, .ref (fa_B G + (397)))]) hx hb dX7_readsOrder_96 rfl hl (by decide) rfl (fun ls hl => ?_)
            refine lv_goto (tgt := 259) hx hb dX7_readsOrder_97 (by decide) ?_
            refine lv_aload_n hx hb dX7_readsOrder_259 rfl (lv_at hl 1 rfl) ?_
            refine lv_dup hx hb dX7_readsOrder_260 rfl ?_
            refine fa_geti (k := 397) CX HX2347 fl_X7_141 (by omega) rfl rfl dX7_readsOrder_261 ?_
            rw [show v2346 397 11 = nI (no) from (go_x2345.trans (congrArg nI ho_x2345.e))]
            refine lv_iload_n hx hb dX7_readsOrder_264 rfl (lv_at hl 0 rfl) ?_
            refine lv_if_eq (tgt := 272) hx hb dX7_readsOrder_265 (by decide) (fun c_265 => ?_) (fun c_265 => ?_)
            · refine lv_iconst (v := nI (0)) hx hb dX7_readsOrder_272 (by decide) ?_
              refine fa_iaddN hx hb dX7_readsOrder_273 ?_
              refine fa_puti (k := 397) CX HX2347 fl_X7_141 (by omega) rfl rfl rfl rfl dX7_readsOrder_274 (fun H locs v2348 e2349 HX2350 => ?_)
              refine lv_iload_n hx hb dX7_readsOrder_277 rfl (lv_at hl 0 rfl) ?_
              exact RET _ _ _ _ _ _ _ HX2350 dX7_readsOrder_278 (by decide) (⟨rfl, ⟨⟨(by rw [((fa_ord_n hS110).trans (fa_two_n hn1 hmn1.e hcm hn2))]; exact rfl), m_x2345, no + 0, ⟨by omega, by omega, by omega, fa_is.mk (by rw [((fa_ord_n hS110).trans (fa_two_n hn1 hmn1.e hcm hn2))]; exact hmn2.e), fa_is.mk (by rw [((fa_ord_n hS110).trans (fa_two_n hn1 hmn1.e hcm hn2))]; exact (show no + 0 = no by omega))⟩, (show v2348 397 12 = nI (m_x2345) from (by rw [e2349, fa_u_n _ _ (by omega)]; exact gm_x2345)), (show v2348 397 11 = nI (no + 0) from (by rw [e2349, fa_u_s])), (show fa_f3 v v2348 from (by rw [e2349]; exact fa_f3.w (fa_f3.tr (fa_f3.tr (fa_f3.tr (fa_f3.tr (by rw [e2209]; exact fa_f3.u (by rw [e2206]; exact fa_f3.u fa_f3.rf)) hf_x2212) hf_x2331) hf_x2338) hf_x2345) (by decide))), (by rw [((fa_ord_n hS110).trans (fa_two_n hn1 hmn1.e hcm hn2))]; exact ⟨(fun i hi => (by show v2348 403 i = _; rw [e2349, fa_u_k _ _ (by decide), hr_x2345.2 i (by omega), hr_x2338, hr_x2331.2 i (by omega), hr_x2212]; exact hA i hi)), (by show v2348 403 (4 * no) = _; rw [e2349, fa_u_k _ _ (by decide), hr_x2345.2 (4 * no) (by omega), hr_x2338, hr_x2331.2 (4 * no) (by omega), hr_x2212]; exact hB), (by show v2348 403 (4 * no + 1) = _; rw [e2349, fa_u_k _ _ (by decide), hr_x2345.2 (4 * no + 1) (by omega), hr_x2338, hr_x2331.2 (4 * no + 1) (by omega), hr_x2212]; exact hC), (fun z => absurd (show false = true from z) (by decide))⟩)⟩, (by rw [e2349]; exact fa_fr.u (fa_fr.tr (fa_fr.tr (fa_fr.tr (fa_fr.tr (by rw [e2209]; exact fa_fr.u (by rw [e2206]; exact fa_fr.u fa_fr.rf (by omega)) (by omega)) (fa_fr.wide h2211.2 (by omega) (by omega))) (fa_fr.wide h2330.2 (by omega) (by omega))) (fa_fr.wide h2337.2 (by omega) (by omega))) (fa_fr.wide h2344.2 (by omega) (by omega))) (by omega))⟩⟩)
            · exact absurd (by try decide) c_265
          · have hn2 := fa_ift hxn2 c_88
            refine lv_iconst (v := nI (1)) hx hb dX7_readsOrder_91 (by decide) ?_
            refine lv_goto (tgt := 96) hx hb dX7_readsOrder_92 (by decide) ?_
            refine lv_istore_n (lv' := [(1, .int (nI (1))), (0, .ref (fa_B G + (397)))]) hx hb dX7_readsOrder_96 rfl hl (by decide) rfl (fun ls hl => ?_)
            refine lv_goto (tgt := 259) hx hb dX7_readsOrder_97 (by decide) ?_
            refine lv_aload_n hx hb dX7_readsOrder_259 rfl (lv_at hl 1 rfl) ?_
            refine lv_dup hx hb dX7_readsOrder_260 rfl ?_
            refine fa_geti (k := 397) CX HX2347 fl_X7_141 (by omega) rfl rfl dX7_readsOrder_261 ?_
            rw [show v2346 397 11 = nI (no) from (go_x2345.trans (congrArg nI ho_x2345.e))]
            refine lv_iload_n hx hb dX7_readsOrder_264 rfl (lv_at hl 0 rfl) ?_
            refine lv_if_eq (tgt := 272) hx hb dX7_readsOrder_265 (by decide) (fun c_265 => ?_) (fun c_265 => ?_)
            · exact absurd c_265 (by try decide)
            · refine lv_iconst (v := nI (1)) hx hb dX7_readsOrder_268 (by decide) ?_
              refine lv_goto (tgt := 273) hx hb dX7_readsOrder_269 (by decide) ?_
              refine fa_iaddN hx hb dX7_readsOrder_273 ?_
              refine fa_puti (k := 397) CX HX2347 fl_X7_141 (by omega) rfl rfl rfl rfl dX7_readsOrder_274 (fun H locs v2351 e2352 HX2353 => ?_)
              refine lv_iload_n hx hb dX7_readsOrder_277 rfl (lv_at hl 0 rfl) ?_
              exact RET _ _ _ _ _ _ _ HX2353 dX7_readsOrder_278 (by decide) (⟨rfl, ⟨⟨(by rw [((fa_ord_n hS110).trans (fa_two_y hn1 hmn1.e hcm hn2))]; exact rfl), m_x2345, no + 1, ⟨by omega, by omega, (by have hfx := (show na + 2 ≤ m_x2345 from by have z := (fa_ord_le (t := t) hna).2.2; rw [((fa_ord_n hS110).trans (fa_two_y hn1 hmn1.e hcm hn2))] at z; rw [hmn2.e]; exact z rfl); omega), fa_is.mk (by rw [((fa_ord_n hS110).trans (fa_two_y hn1 hmn1.e hcm hn2))]; exact hmn2.e), fa_is.mk (by rw [((fa_ord_n hS110).trans (fa_two_y hn1 hmn1.e hcm hn2))]; exact (show no + 1 = no + 1 by omega))⟩, (show v2351 397 12 = nI (m_x2345) from (by rw [e2352, fa_u_n _ _ (by omega)]; exact gm_x2345)), (show v2351 397 11 = nI (no + 1) from (by rw [e2352, fa_u_s])), (show fa_f3 v v2351 from (by rw [e2352]; exact fa_f3.w (fa_f3.tr (fa_f3.tr (fa_f3.tr (fa_f3.tr (by rw [e2209]; exact fa_f3.u (by rw [e2206]; exact fa_f3.u fa_f3.rf)) hf_x2212) hf_x2331) hf_x2338) hf_x2345) (by decide))), (by rw [((fa_ord_n hS110).trans (fa_two_y hn1 hmn1.e hcm hn2))]; exact ⟨(fun i hi => (by show v2351 403 i = _; rw [e2352, fa_u_k _ _ (by decide), hr_x2345.2 i (by omega), hr_x2338, hr_x2331.2 i (by omega), hr_x2212]; exact hA i hi)), (by show v2351 403 (4 * no) = _; rw [e2352, fa_u_k _ _ (by decide), hr_x2345.2 (4 * no) (by omega), hr_x2338, hr_x2331.2 (4 * no) (by omega), hr_x2212]; exact hB), (by show v2351 403 (4 * no + 1) = _; rw [e2352, fa_u_k _ _ (by decide), hr_x2345.2 (4 * no + 1) (by omega), hr_x2338, hr_x2331.2 (4 * no + 1) (by omega), hr_x2212]; exact hC), (fun _ => ⟨(by show v2351 403 (4 * no + 2) = _; rw [e2352, fa_u_k _ _ (by decide), hr_x2345.2 (4 * no + 2) (by omega), hr_x2338]; exact hr_x2331.1 hn1), (fun _ _ => (by show v2351 403 (4 * no + 3) = _; rw [e2352, fa_u_k _ _ (by decide)]; exact hr_x2345.1 hn2))⟩)⟩)⟩, (by rw [e2352]; exact fa_fr.u (fa_fr.tr (fa_fr.tr (fa_fr.tr (fa_fr.tr (by rw [e2209]; exact fa_fr.u (by rw [e2206]; exact fa_fr.u fa_fr.rf (by omega)) (by omega)) (fa_fr.wide h2211.2 (by omega) (by omega))) (fa_fr.wide h2330.2 (by omega) (by omega))) (fa_fr.wide h2337.2 (by omega) (by omega))) (fa_fr.wide h2344.2 (by omega) (by omega))) (by omega))⟩⟩)
  · have hlt0 := fa_ltN (by omega) (by omega) c_35
    refine lv_aload_n hx hb dX7_readsOrder_38 rfl (lv_at hl 0 rfl) ?_
    refine fa_getr (k := 397) (j := 405) CX HX2207 fl_X7_32 (by omega) rfl rfl hM.2.2.2.2.2.2.2 dX7_readsOrder_39 ?_
    refine lv_aload_n hx hb dX7_readsOrder_42 rfl (lv_at hl 0 rfl) ?_
    refine fa_geti (k := 397) CX HX2207 fl_X7_134 (by omega) rfl rfl dX7_readsOrder_43 ?_
    rw [show v2205 397 12 = nI (na) from (by rw [e2206, fa_u_n _ _ (by omega)]; exact gA)]
    refine fa_cald (k := 405) (j := na) CX HX2207 (by omega) rfl (by omega) (by first | decide | assumption) dX7_readsOrder_46 ?_
    refine lv_goto (tgt := 51) hx hb dX7_readsOrder_47 (by decide) ?_
    refine fa_iast (k := 403) (j := 4 * no + 1) CX HX2207 (by omega) rfl (by omega) (by first | decide | assumption) dX7_readsOrder_51 (fun H locs v2354 e2355 HX2356 => ?_)
    have hA : ∀ i, i < 4 * no → v2354 403 i = v 403 i := fun i hi => by rw [e2355, fa_u_n _ _ (by omega), e2206, fa_u_n _ _ (by omega)]
    have hB : v2354 403 (4 * no) = nI na := by rw [e2355, fa_u_n _ _ (by omega), e2206, fa_u_s]
    have hC : v2354 403 (4 * no + 1) = fa_sg t n9 na := by rw [e2355, fa_u_s]; exact (congrFun (((congrFun e2206 405).trans (fa_u_k _ _ (by decide))).trans h5) na).trans (fa_sg_in hlt0).symm
    refine lv_aload_n hx hb dX7_readsOrder_52 rfl (lv_at hl 0 rfl) ?_
    refine lv_bipush (v := nI (110)) hx hb dX7_readsOrder_53 (by decide) ?_
    refine fa_callViu (As := [.int (nI (110))]) (rest := []) CX HX2356 (r_accepts l G n hn v2354 r hM (n9) (na) (no) (by omega) (by omega) (by omega) (by rw [e2355, fa_u_n _ _ (by omega)]; exact (by rw [e2206, fa_u_n _ _ (by omega)]; exact g9)) (by rw [e2355, fa_u_n _ _ (by omega)]; exact (by rw [e2206, fa_u_n _ _ (by omega)]; exact gA)) (by rw [e2355, fa_u_n _ _ (by omega)]; exact (by rw [e2206, fa_u_n _ _ (by omega)]; exact gO)) t (((congrFun e2355 405).trans (fa_u_k _ _ (by decide))).trans (((congrFun e2206 405).trans (fa_u_k _ _ (by decide))).trans h5)) (nI (110)) (by decide)) ln_X7_144 (by omega) rfl rfl rfl rfl (Nat.le_of_ble_eq_true rfl) hl.1 ⟨Nat.le_of_ble_eq_true rfl, Nat.le_of_ble_eq_true rfl⟩ ⟨Nat.le_refl _, Nat.le_refl _⟩ dX7_readsOrder_55 (fun x2358 v2359 H locs h2357 HX2360 => ?_)
    obtain ⟨hx_x2358, m_x2358, o_x2358, ⟨ha_x2358, hc_x2358, hd_x2358, hm_x2358, ho_x2358⟩, gm_x2358, go_x2358, hf_x2358, hr_x2358⟩ := h2357.1
    have hxa := hx_x2358
    have hma := hm_x2358
    refine lv_if_eq (tgt := 100) hx hb dX7_readsOrder_58 (by decide) (fun c_58 => ?_) (fun c_58 => ?_)
    · have hS110 : ¬ fa_sg t n9 na = (110 : Int32) := fa_ifn hxa (by first | exact c_58 | exact Decidable.not_not.mp c_58)
      have hp110 := hma.e.trans (fa_acc_f hS110)
      clear ha_x2358 hc_x2358 hd_x2358 hxa hma
      refine lv_aload_n hx hb dX7_readsOrder_100 rfl (lv_at hl 0 rfl) ?_
      refine lv_bipush (v := nI (97)) hx hb dX7_readsOrder_101 (by decide) ?_
      refine fa_callViu (As := [.int (nI (97))]) (rest := []) CX HX2360 (r_accepts l G n hn v2359 r hM (n9) (na) (no) (by omega) (by omega) (by omega) ((hf_x2358.2 9 (by decide) (by decide)).trans (by rw [e2355, fa_u_n _ _ (by omega)]; exact (by rw [e2206, fa_u_n _ _ (by omega)]; exact g9))) ((gm_x2358).trans (congrArg nI hp110)) (go_x2358.trans (congrArg nI ho_x2358.e)) t ((h2357.2 405 (by omega)).trans (((congrFun e2355 405).trans (fa_u_k _ _ (by decide))).trans (((congrFun e2206 405).trans (fa_u_k _ _ (by decide))).trans h5))) (nI (97)) (by decide)) ln_X7_144 (by omega) rfl rfl rfl rfl (Nat.le_of_ble_eq_true rfl) hl.1 ⟨Nat.le_of_ble_eq_true rfl, Nat.le_of_ble_eq_true rfl⟩ ⟨Nat.le_refl _, Nat.le_refl _⟩ dX7_readsOrder_103 (fun x2362 v2363 H locs h2361 HX2364 => ?_)
      obtain ⟨hx_x2362, m_x2362, o_x2362, ⟨ha_x2362, hc_x2362, hd_x2362, hm_x2362, ho_x2362⟩, gm_x2362, go_x2362, hf_x2362, hr_x2362⟩ := h2361.1
      have hxa := hx_x2362
      have hma := hm_x2362
      refine lv_if_eq (tgt := 122) hx hb dX7_readsOrder_106 (by decide) (fun c_106 => ?_) (fun c_106 => ?_)
      · have hS97 : ¬ fa_sg t n9 na = (97 : Int32) := fa_ifn hxa (by first | exact c_106 | exact Decidable.not_not.mp c_106)
        have hp97 := hma.e.trans (fa_acc_f hS97)
        clear ha_x2362 hc_x2362 hd_x2362 hxa hma
        refine lv_aload_n hx hb dX7_readsOrder_122 rfl (lv_at hl 0 rfl) ?_
        refine lv_bipush (v := nI (115)) hx hb dX7_readsOrder_123 (by decide) ?_
        refine fa_callViu (As := [.int (nI (115))]) (rest := []) CX HX2364 (r_accepts l G n hn v2363 r hM (n9) (na) (no) (by omega) (by omega) (by omega) ((hf_x2362.2 9 (by decide) (by decide)).trans ((hf_x2358.2 9 (by decide) (by decide)).trans (by rw [e2355, fa_u_n _ _ (by omega)]; exact (by rw [e2206, fa_u_n _ _ (by omega)]; exact g9)))) ((gm_x2362).trans (congrArg nI hp97)) (go_x2362.trans (congrArg nI ho_x2362.e)) t ((h2361.2 405 (by omega)).trans ((h2357.2 405 (by omega)).trans (((congrFun e2355 405).trans (fa_u_k _ _ (by decide))).trans (((congrFun e2206 405).trans (fa_u_k _ _ (by decide))).trans h5)))) (nI (115)) (by decide)) ln_X7_144 (by omega) rfl rfl rfl rfl (Nat.le_of_ble_eq_true rfl) hl.1 ⟨Nat.le_of_ble_eq_true rfl, Nat.le_of_ble_eq_true rfl⟩ ⟨Nat.le_refl _, Nat.le_refl _⟩ dX7_readsOrder_125 (fun x2366 v2367 H locs h2365 HX2368 => ?_)
        obtain ⟨hx_x2366, m_x2366, o_x2366, ⟨ha_x2366, hc_x2366, hd_x2366, hm_x2366, ho_x2366⟩, gm_x2366, go_x2366, hf_x2366, hr_x2366⟩ := h2365.1
        have hxa := hx_x2366
        have hma := hm_x2366
        refine lv_if_ne (tgt := 140) hx hb dX7_readsOrder_128 (by decide) (fun c_128 => ?_) (fun c_128 => ?_)
        · have hS115 : fa_sg t n9 na = (115 : Int32) := fa_ift hxa c_128
          have hp115 := hma.e.trans (fa_acc_t hS115)
          have hlt : na < n9 := fa_sg_nz hS115 (by decide)
          clear ha_x2366 hc_x2366 hd_x2366
          refine lv_aload_n hx hb dX7_readsOrder_140 rfl (lv_at hl 0 rfl) ?_
          refine lv_iconst (v := nI (2)) hx hb dX7_readsOrder_141 (by decide) ?_
          refine lv_iconst (v := nI (0)) hx hb dX7_readsOrder_142 (by decide) ?_
          refine lv_bipush (v := nI (7)) hx hb dX7_readsOrder_143 (by decide) ?_
          refine fa_callViu (As := [.int (nI (2)), .int (nI (0)), .int (nI (7))]) (rest := []) CX HX2368 (r_number l G n hn v2367 r hM (n9) (na + 1) (no) (by omega) (by omega) (by omega) ((hf_x2366.2 9 (by decide) (by decide)).trans ((hf_x2362.2 9 (by decide) (by decide)).trans ((hf_x2358.2 9 (by decide) (by decide)).trans (by rw [e2355, fa_u_n _ _ (by omega)]; exact (by rw [e2206, fa_u_n _ _ (by omega)]; exact g9))))) ((gm_x2366).trans (congrArg nI hp115)) (go_x2366.trans (congrArg nI ho_x2366.e)) t ((h2365.2 405 (by omega)).trans ((h2361.2 405 (by omega)).trans ((h2357.2 405 (by omega)).trans (((congrFun e2355 405).trans (fa_u_k _ _ (by decide))).trans (((congrFun e2206 405).trans (fa_u_k _ _ (by decide))).trans h5))))) (2) (nI (0)) (nI (7)) (by omega) ⟨0, by decide, rfl⟩ ⟨7, by decide, rfl⟩) ln_X7_148 (by omega) rfl rfl rfl rfl (Nat.le_of_ble_eq_true rfl) hl.1 ⟨Nat.le_of_ble_eq_true rfl, Nat.le_of_ble_eq_true rfl⟩ ⟨Nat.le_refl _, Nat.le_refl _⟩ dX7_readsOrder_145 (fun x2370 v2371 H locs h2369 HX2372 => ?_)
          obtain ⟨hx_x2370, m_x2370, o_x2370, ⟨ha_x2370, hc_x2370, hd_x2370, hm_x2370, ho_x2370⟩, gm_x2370, go_x2370, hf_x2370, hr_x2370⟩ := h2369.1
          have hxn1 := hx_x2370
          have hmn1 := hm_x2370
          refine lv_if_eq (tgt := 176) hx hb dX7_readsOrder_148 (by decide) (fun c_148 => ?_) (fun c_148 => ?_)
          · have hn1 := fa_ifn hxn1 c_148
            refine lv_iconst (v := nI (0)) hx hb dX7_readsOrder_176 (by decide) ?_
            refine lv_istore_n (lv' := [(1, .int (nI (0))), (0, .ref (fa_B G + (397)))]) hx hb dX7_readsOrder_177 rfl hl (by decide) rfl (fun ls hl => ?_)
            refine lv_goto (tgt := 259) hx hb dX7_readsOrder_178 (by decide) ?_
            refine lv_aload_n hx hb dX7_readsOrder_259 rfl (lv_at hl 1 rfl) ?_
            refine lv_dup hx hb dX7_readsOrder_260 rfl ?_
            refine fa_geti (k := 397) CX HX2372 fl_X7_141 (by omega) rfl rfl dX7_readsOrder_261 ?_
            rw [show v2371 397 11 = nI (no) from (go_x2370.trans (congrArg nI ho_x2370.e))]
            refine lv_iload_n hx hb dX7_readsOrder_264 rfl (lv_at hl 0 rfl) ?_
            refine lv_if_eq (tgt := 272) hx hb dX7_readsOrder_265 (by decide) (fun c_265 => ?_) (fun c_265 => ?_)
            · refine lv_iconst (v := nI (0)) hx hb dX7_readsOrder_272 (by decide) ?_
              refine fa_iaddN hx hb dX7_readsOrder_273 ?_
              refine fa_puti (k := 397) CX HX2372 fl_X7_141 (by omega) rfl rfl rfl rfl dX7_readsOrder_274 (fun H locs v2373 e2374 HX2375 => ?_)
              refine lv_iload_n hx hb dX7_readsOrder_277 rfl (lv_at hl 0 rfl) ?_
              exact RET _ _ _ _ _ _ _ HX2375 dX7_readsOrder_278 (by decide) (⟨rfl, ⟨⟨(by rw [((fa_ord_s (Or.inl hS115)).trans (fa_two_f hn1))]; exact rfl), m_x2370, no + 0, ⟨by omega, by omega, by omega, fa_is.mk (by rw [((fa_ord_s (Or.inl hS115)).trans (fa_two_f hn1))]; exact hmn1.e), fa_is.mk (by rw [((fa_ord_s (Or.inl hS115)).trans (fa_two_f hn1))]; exact (show no + 0 = no by omega))⟩, (show v2373 397 12 = nI (m_x2370) from (by rw [e2374, fa_u_n _ _ (by omega)]; exact gm_x2370)), (show v2373 397 11 = nI (no + 0) from (by rw [e2374, fa_u_s])), (show fa_f3 v v2373 from (by rw [e2374]; exact fa_f3.w (fa_f3.tr (fa_f3.tr (fa_f3.tr (fa_f3.tr (by rw [e2355]; exact fa_f3.u (by rw [e2206]; exact fa_f3.u fa_f3.rf)) hf_x2358) hf_x2362) hf_x2366) hf_x2370) (by decide))), (by rw [((fa_ord_s (Or.inl hS115)).trans (fa_two_f hn1))]; exact ⟨(fun i hi => (by show v2373 403 i = _; rw [e2374, fa_u_k _ _ (by decide), hr_x2370.2 i (by omega), hr_x2366, hr_x2362, hr_x2358]; exact hA i hi)), (by show v2373 403 (4 * no) = _; rw [e2374, fa_u_k _ _ (by decide), hr_x2370.2 (4 * no) (by omega), hr_x2366, hr_x2362, hr_x2358]; exact hB), (by show v2373 403 (4 * no + 1) = _; rw [e2374, fa_u_k _ _ (by decide), hr_x2370.2 (4 * no + 1) (by omega), hr_x2366, hr_x2362, hr_x2358]; exact hC), (fun z => absurd (show false = true from z) (by decide))⟩)⟩, (by rw [e2374]; exact fa_fr.u (fa_fr.tr (fa_fr.tr (fa_fr.tr (fa_fr.tr (by rw [e2355]; exact fa_fr.u (by rw [e2206]; exact fa_fr.u fa_fr.rf (by omega)) (by omega)) (fa_fr.wide h2357.2 (by omega) (by omega))) (fa_fr.wide h2361.2 (by omega) (by omega))) (fa_fr.wide h2365.2 (by omega) (by omega))) (fa_fr.wide h2369.2 (by omega) (by omega))) (by omega))⟩⟩)
            · exact absurd (by try decide) c_265
          · have hn1 := fa_ift hxn1 c_148
            refine lv_aload_n hx hb dX7_readsOrder_151 rfl (lv_at hl 0 rfl) ?_
            refine lv_bipush (v := nI (44)) hx hb dX7_readsOrder_152 (by decide) ?_
            refine fa_callViu (As := [.int (nI (44))]) (rest := []) CX HX2372 (r_accepts l G n hn v2371 r hM (n9) (m_x2370) (no) (by omega) (by omega) (by omega) ((hf_x2370.2 9 (by decide) (by decide)).trans ((hf_x2366.2 9 (by decide) (by decide)).trans ((hf_x2362.2 9 (by decide) (by decide)).trans ((hf_x2358.2 9 (by decide) (by decide)).trans (by rw [e2355, fa_u_n _ _ (by omega)]; exact (by rw [e2206, fa_u_n _ _ (by omega)]; exact g9)))))) gm_x2370 (go_x2370.trans (congrArg nI ho_x2370.e)) t ((h2369.2 405 (by omega)).trans ((h2365.2 405 (by omega)).trans ((h2361.2 405 (by omega)).trans ((h2357.2 405 (by omega)).trans (((congrFun e2355 405).trans (fa_u_k _ _ (by decide))).trans (((congrFun e2206 405).trans (fa_u_k _ _ (by decide))).trans h5)))))) (nI (44)) (by decide)) ln_X7_144 (by omega) rfl rfl rfl rfl (Nat.le_of_ble_eq_true rfl) hl.1 ⟨Nat.le_of_ble_eq_true rfl, Nat.le_of_ble_eq_true rfl⟩ ⟨Nat.le_refl _, Nat.le_refl _⟩ dX7_readsOrder_154 (fun x2377 v2378 H locs h2376 HX2379 => ?_)
            obtain ⟨hx_x2377, m_x2377, o_x2377, ⟨ha_x2377, hc_x2377, hd_x2377, hm_x2377, ho_x2377⟩, gm_x2377, go_x2377, hf_x2377, hr_x2377⟩ := h2376.1
            have hxc := hx_x2377
            have hmc := hm_x2377
            refine lv_if_eq (tgt := 176) hx hb dX7_readsOrder_157 (by decide) (fun c_157 => ?_) (fun c_157 => ?_)
            · have hcm := fa_ifn hxc c_157
              have hpc := hmc.e.trans (fa_acc_f hcm)
              refine lv_iconst (v := nI (0)) hx hb dX7_readsOrder_176 (by decide) ?_
              refine lv_istore_n (lv' := [(1, .int (nI (0))), (0, .ref (fa_B G + (397)))]) hx hb dX7_readsOrder_177 rfl hl (by decide) rfl (fun ls hl => ?_)
              refine lv_goto (tgt := 259) hx hb dX7_readsOrder_178 (by decide) ?_
              refine lv_aload_n hx hb dX7_readsOrder_259 rfl (lv_at hl 1 rfl) ?_
              refine lv_dup hx hb dX7_readsOrder_260 rfl ?_
              refine fa_geti (k := 397) CX HX2379 fl_X7_141 (by omega) rfl rfl dX7_readsOrder_261 ?_
              rw [show v2378 397 11 = nI (no) from (go_x2377.trans (congrArg nI ho_x2377.e))]
              refine lv_iload_n hx hb dX7_readsOrder_264 rfl (lv_at hl 0 rfl) ?_
              refine lv_if_eq (tgt := 272) hx hb dX7_readsOrder_265 (by decide) (fun c_265 => ?_) (fun c_265 => ?_)
              · refine lv_iconst (v := nI (0)) hx hb dX7_readsOrder_272 (by decide) ?_
                refine fa_iaddN hx hb dX7_readsOrder_273 ?_
                refine fa_puti (k := 397) CX HX2379 fl_X7_141 (by omega) rfl rfl rfl rfl dX7_readsOrder_274 (fun H locs v2380 e2381 HX2382 => ?_)
                refine lv_iload_n hx hb dX7_readsOrder_277 rfl (lv_at hl 0 rfl) ?_
                exact RET _ _ _ _ _ _ _ HX2382 dX7_readsOrder_278 (by decide) (⟨rfl, ⟨⟨(by rw [((fa_ord_s (Or.inl hS115)).trans (fa_two_c hn1 hmn1.e hcm))]; exact rfl), m_x2370, no + 0, ⟨by omega, by omega, by omega, fa_is.mk (by rw [((fa_ord_s (Or.inl hS115)).trans (fa_two_c hn1 hmn1.e hcm))]), fa_is.mk (by rw [((fa_ord_s (Or.inl hS115)).trans (fa_two_c hn1 hmn1.e hcm))]; exact (show no + 0 = no by omega))⟩, (show v2380 397 12 = nI (m_x2370) from (by rw [e2381, fa_u_n _ _ (by omega)]; exact ((gm_x2377).trans (congrArg nI hpc)))), (show v2380 397 11 = nI (no + 0) from (by rw [e2381, fa_u_s])), (show fa_f3 v v2380 from (by rw [e2381]; exact fa_f3.w (fa_f3.tr (fa_f3.tr (fa_f3.tr (fa_f3.tr (fa_f3.tr (by rw [e2355]; exact fa_f3.u (by rw [e2206]; exact fa_f3.u fa_f3.rf)) hf_x2358) hf_x2362) hf_x2366) hf_x2370) hf_x2377) (by decide))), (by rw [((fa_ord_s (Or.inl hS115)).trans (fa_two_c hn1 hmn1.e hcm))]; exact ⟨(fun i hi => (by show v2380 403 i = _; rw [e2381, fa_u_k _ _ (by decide), hr_x2377, hr_x2370.2 i (by omega), hr_x2366, hr_x2362, hr_x2358]; exact hA i hi)), (by show v2380 403 (4 * no) = _; rw [e2381, fa_u_k _ _ (by decide), hr_x2377, hr_x2370.2 (4 * no) (by omega), hr_x2366, hr_x2362, hr_x2358]; exact hB), (by show v2380 403 (4 * no + 1) = _; rw [e2381, fa_u_k _ _ (by decide), hr_x2377, hr_x2370.2 (4 * no + 1) (by omega), hr_x2366, hr_x2362, hr_x2358]; exact hC), (fun z => absurd (show false = true from z) (by decide))⟩)⟩, (by rw [e2381]; exact fa_fr.u (fa_fr.tr (fa_fr.tr (fa_fr.tr (fa_fr.tr (fa_fr.tr (by rw [e2355]; exact fa_fr.u (by rw [e2206]; exact fa_fr.u fa_fr.rf (by omega)) (by omega)) (fa_fr.wide h2357.2 (by omega) (by omega))) (fa_fr.wide h2361.2 (by omega) (by omega))) (fa_fr.wide h2365.2 (by omega) (by omega))) (fa_fr.wide h2369.2 (by omega) (by omega))) (fa_fr.wide h2376.2 (by omega) (by omega))) (by omega))⟩⟩)
              · exact absurd (by try decide) c_265
            · have hcm := fa_ift hxc c_157
              have hpc := hmc.e.trans (fa_acc_t hcm)
              refine lv_aload_n hx hb dX7_readsOrder_160 rfl (lv_at hl 0 rfl) ?_
              refine lv_iconst (v := nI (3)) hx hb dX7_readsOrder_161 (by decide) ?_
              refine lv_iconst (v := nI (0)) hx hb dX7_readsOrder_162 (by decide) ?_
              refine lv_sipush (v := nI (199)) hx hb dX7_readsOrder_163 (by decide) ?_
              refine fa_callViu (As := [.int (nI (3)), .int (nI (0)), .int (nI (199))]) (rest := []) CX HX2379 (r_number l G n hn v2378 r hM (n9) (m_x2370 + 1) (no) (by omega) (by omega) (by omega) ((hf_x2377.2 9 (by decide) (by decide)).trans ((hf_x2370.2 9 (by decide) (by decide)).trans ((hf_x2366.2 9 (by decide) (by decide)).trans ((hf_x2362.2 9 (by decide) (by decide)).trans ((hf_x2358.2 9 (by decide) (by decide)).trans (by rw [e2355, fa_u_n _ _ (by omega)]; exact (by rw [e2206, fa_u_n _ _ (by omega)]; exact g9))))))) ((gm_x2377).trans (congrArg nI hpc)) (go_x2377.trans (congrArg nI ho_x2377.e)) t ((h2376.2 405 (by omega)).trans ((h2369.2 405 (by omega)).trans ((h2365.2 405 (by omega)).trans ((h2361.2 405 (by omega)).trans ((h2357.2 405 (by omega)).trans (((congrFun e2355 405).trans (fa_u_k _ _ (by decide))).trans (((congrFun e2206 405).trans (fa_u_k _ _ (by decide))).trans h5))))))) (3) (nI (0)) (nI (199)) (by omega) ⟨0, by decide, rfl⟩ ⟨199, by decide, rfl⟩) ln_X7_148 (by omega) rfl rfl rfl rfl (Nat.le_of_ble_eq_true rfl) hl.1 ⟨Nat.le_of_ble_eq_true rfl, Nat.le_of_ble_eq_true rfl⟩ ⟨Nat.le_refl _, Nat.le_refl _⟩ dX7_readsOrder_166 (fun x2384 v2385 H locs h2383 HX2386 => ?_)
              obtain ⟨hx_x2384, m_x2384, o_x2384, ⟨ha_x2384, hc_x2384, hd_x2384, hm_x2384, ho_x2384⟩, gm_x2384, go_x2384, hf_x2384, hr_x2384⟩ := h2383.1
              have hxn2 := hx_x2384
              have hmn2 := hm_x2384
              refine lv_if_eq (tgt := 176) hx hb dX7_readsOrder_169 (by decide) (fun c_169 => ?_) (fun c_169 => ?_)
              · have hn2 := fa_ifn hxn2 c_169
                refine lv_iconst (v := nI (0)) hx hb dX7_readsOrder_176 (by decide) ?_
                refine lv_istore_n (lv' := [(1, .int (nI (0))), (0, .ref (fa_B G + (397)))]) hx hb dX7_readsOrder_177 rfl hl (by decide) rfl (fun ls hl => ?_)
                refine lv_goto (tgt := 259) hx hb dX7_readsOrder_178 (by decide) ?_
                refine lv_aload_n hx hb dX7_readsOrder_259 rfl (lv_at hl 1 rfl) ?_
                refine lv_dup hx hb dX7_readsOrder_260 rfl ?_
                refine fa_geti (k := 397) CX HX2386 fl_X7_141 (by omega) rfl rfl dX7_readsOrder_261 ?_
                rw [show v2385 397 11 = nI (no) from (go_x2384.trans (congrArg nI ho_x2384.e))]
                refine lv_iload_n hx hb dX7_readsOrder_264 rfl (lv_at hl 0 rfl) ?_
                refine lv_if_eq (tgt := 272) hx hb dX7_readsOrder_265 (by decide) (fun c_265 => ?_) (fun c_265 => ?_)
                · refine lv_iconst (v := nI (0)) hx hb dX7_readsOrder_272 (by decide) ?_
                  refine fa_iaddN hx hb dX7_readsOrder_273 ?_
                  refine fa_puti (k := 397) CX HX2386 fl_X7_141 (by omega) rfl rfl rfl rfl dX7_readsOrder_274 (fun H locs v2387 e2388 HX2389 => ?_)
                  refine lv_iload_n hx hb dX7_readsOrder_277 rfl (lv_at hl 0 rfl) ?_
                  exact RET _ _ _ _ _ _ _ HX2389 dX7_readsOrder_278 (by decide) (⟨rfl, ⟨⟨(by rw [((fa_ord_s (Or.inl hS115)).trans (fa_two_n hn1 hmn1.e hcm hn2))]; exact rfl), m_x2384, no + 0, ⟨by omega, by omega, by omega, fa_is.mk (by rw [((fa_ord_s (Or.inl hS115)).trans (fa_two_n hn1 hmn1.e hcm hn2))]; exact hmn2.e), fa_is.mk (by rw [((fa_ord_s (Or.inl hS115)).trans (fa_two_n hn1 hmn1.e hcm hn2))]; exact (show no + 0 = no by omega))⟩, (show v2387 397 12 = nI (m_x2384) from (by rw [e2388, fa_u_n _ _ (by omega)]; exact gm_x2384)), (show v2387 397 11 = nI (no + 0) from (by rw [e2388, fa_u_s])), (show fa_f3 v v2387 from (by rw [e2388]; exact fa_f3.w (fa_f3.tr (fa_f3.tr (fa_f3.tr (fa_f3.tr (fa_f3.tr (fa_f3.tr (by rw [e2355]; exact fa_f3.u (by rw [e2206]; exact fa_f3.u fa_f3.rf)) hf_x2358) hf_x2362) hf_x2366) hf_x2370) hf_x2377) hf_x2384) (by decide))), (by rw [((fa_ord_s (Or.inl hS115)).trans (fa_two_n hn1 hmn1.e hcm hn2))]; exact ⟨(fun i hi => (by show v2387 403 i = _; rw [e2388, fa_u_k _ _ (by decide), hr_x2384.2 i (by omega), hr_x2377, hr_x2370.2 i (by omega), hr_x2366, hr_x2362, hr_x2358]; exact hA i hi)), (by show v2387 403 (4 * no) = _; rw [e2388, fa_u_k _ _ (by decide), hr_x2384.2 (4 * no) (by omega), hr_x2377, hr_x2370.2 (4 * no) (by omega), hr_x2366, hr_x2362, hr_x2358]; exact hB), (by show v2387 403 (4 * no + 1) = _; rw [e2388, fa_u_k _ _ (by decide), hr_x2384.2 (4 * no + 1) (by omega), hr_x2377, hr_x2370.2 (4 * no + 1) (by omega), hr_x2366, hr_x2362, hr_x2358]; exact hC), (fun z => absurd (show false = true from z) (by decide))⟩)⟩, (by rw [e2388]; exact fa_fr.u (fa_fr.tr (fa_fr.tr (fa_fr.tr (fa_fr.tr (fa_fr.tr (fa_fr.tr (by rw [e2355]; exact fa_fr.u (by rw [e2206]; exact fa_fr.u fa_fr.rf (by omega)) (by omega)) (fa_fr.wide h2357.2 (by omega) (by omega))) (fa_fr.wide h2361.2 (by omega) (by omega))) (fa_fr.wide h2365.2 (by omega) (by omega))) (fa_fr.wide h2369.2 (by omega) (by omega))) (fa_fr.wide h2376.2 (by omega) (by omega))) (fa_fr.wide h2383.2 (by omega) (by omega))) (by omega))⟩⟩)
                · exact absurd (by try decide) c_265
              · have hn2 := fa_ift hxn2 c_169
                refine lv_iconst (v := nI (1)) hx hb dX7_readsOrder_172 (by decide) ?_
                refine lv_goto (tgt := 177) hx hb dX7_readsOrder_173 (by decide) ?_
                refine lv_istore_n (lv' := [(1, .int (nI (1))), (0, .ref (fa_B G + (397)))]) hx hb dX7_readsOrder_177 rfl hl (by decide) rfl (fun ls hl => ?_)
                refine lv_goto (tgt := 259) hx hb dX7_readsOrder_178 (by decide) ?_
                refine lv_aload_n hx hb dX7_readsOrder_259 rfl (lv_at hl 1 rfl) ?_
                refine lv_dup hx hb dX7_readsOrder_260 rfl ?_
                refine fa_geti (k := 397) CX HX2386 fl_X7_141 (by omega) rfl rfl dX7_readsOrder_261 ?_
                rw [show v2385 397 11 = nI (no) from (go_x2384.trans (congrArg nI ho_x2384.e))]
                refine lv_iload_n hx hb dX7_readsOrder_264 rfl (lv_at hl 0 rfl) ?_
                refine lv_if_eq (tgt := 272) hx hb dX7_readsOrder_265 (by decide) (fun c_265 => ?_) (fun c_265 => ?_)
                · exact absurd c_265 (by try decide)
                · refine lv_iconst (v := nI (1)) hx hb dX7_readsOrder_268 (by decide) ?_
                  refine lv_goto (tgt := 273) hx hb dX7_readsOrder_269 (by decide) ?_
                  refine fa_iaddN hx hb dX7_readsOrder_273 ?_
                  refine fa_puti (k := 397) CX HX2386 fl_X7_141 (by omega) rfl rfl rfl rfl dX7_readsOrder_274 (fun H locs v2390 e2391 HX2392 => ?_)
                  refine lv_iload_n hx hb dX7_readsOrder_277 rfl (lv_at hl 0 rfl) ?_
                  exact RET _ _ _ _ _ _ _ HX2392 dX7_readsOrder_278 (by decide) (⟨rfl, ⟨⟨(by rw [((fa_ord_s (Or.inl hS115)).trans (fa_two_y hn1 hmn1.e hcm hn2))]; exact rfl), m_x2384, no + 1, ⟨by omega, by omega, (by have hfx := (show na + 2 ≤ m_x2384 from by have z := (fa_ord_le (t := t) hna).2.2; rw [((fa_ord_s (Or.inl hS115)).trans (fa_two_y hn1 hmn1.e hcm hn2))] at z; rw [hmn2.e]; exact z rfl); omega), fa_is.mk (by rw [((fa_ord_s (Or.inl hS115)).trans (fa_two_y hn1 hmn1.e hcm hn2))]; exact hmn2.e), fa_is.mk (by rw [((fa_ord_s (Or.inl hS115)).trans (fa_two_y hn1 hmn1.e hcm hn2))]; exact (show no + 1 = no + 1 by omega))⟩, (show v2390 397 12 = nI (m_x2384) from (by rw [e2391, fa_u_n _ _ (by omega)]; exact gm_x2384)), (show v2390 397 11 = nI (no + 1) from (by rw [e2391, fa_u_s])), (show fa_f3 v v2390 from (by rw [e2391]; exact fa_f3.w (fa_f3.tr (fa_f3.tr (fa_f3.tr (fa_f3.tr (fa_f3.tr (fa_f3.tr (by rw [e2355]; exact fa_f3.u (by rw [e2206]; exact fa_f3.u fa_f3.rf)) hf_x2358) hf_x2362) hf_x2366) hf_x2370) hf_x2377) hf_x2384) (by decide))), (by rw [((fa_ord_s (Or.inl hS115)).trans (fa_two_y hn1 hmn1.e hcm hn2))]; exact ⟨(fun i hi => (by show v2390 403 i = _; rw [e2391, fa_u_k _ _ (by decide), hr_x2384.2 i (by omega), hr_x2377, hr_x2370.2 i (by omega), hr_x2366, hr_x2362, hr_x2358]; exact hA i hi)), (by show v2390 403 (4 * no) = _; rw [e2391, fa_u_k _ _ (by decide), hr_x2384.2 (4 * no) (by omega), hr_x2377, hr_x2370.2 (4 * no) (by omega), hr_x2366, hr_x2362, hr_x2358]; exact hB), (by show v2390 403 (4 * no + 1) = _; rw [e2391, fa_u_k _ _ (by decide), hr_x2384.2 (4 * no + 1) (by omega), hr_x2377, hr_x2370.2 (4 * no + 1) (by omega), hr_x2366, hr_x2362, hr_x2358]; exact hC), (fun _ => ⟨(by show v2390 403 (4 * no + 2) = _; rw [e2391, fa_u_k _ _ (by decide), hr_x2384.2 (4 * no + 2) (by omega), hr_x2377]; exact hr_x2370.1 hn1), (fun _ _ => (by show v2390 403 (4 * no + 3) = _; rw [e2391, fa_u_k _ _ (by decide)]; exact hr_x2384.1 hn2))⟩)⟩)⟩, (by rw [e2391]; exact fa_fr.u (fa_fr.tr (fa_fr.tr (fa_fr.tr (fa_fr.tr (fa_fr.tr (fa_fr.tr (by rw [e2355]; exact fa_fr.u (by rw [e2206]; exact fa_fr.u fa_fr.rf (by omega)) (by omega)) (fa_fr.wide h2357.2 (by omega) (by omega))) (fa_fr.wide h2361.2 (by omega) (by omega))) (fa_fr.wide h2365.2 (by omega) (by omega))) (fa_fr.wide h2369.2 (by omega) (by omega))) (fa_fr.wide h2376.2 (by omega) (by omega))) (fa_fr.wide h2383.2 (by omega) (by omega))) (by omega))⟩⟩)
        · have hS115 : ¬ fa_sg t n9 na = (115 : Int32) := fa_ifn hxa (by first | exact c_128 | exact Decidable.not_not.mp c_128)
          have hp115 := hma.e.trans (fa_acc_f hS115)
          clear ha_x2366 hc_x2366 hd_x2366 hxa hma
          refine lv_aload_n hx hb dX7_readsOrder_131 rfl (lv_at hl 0 rfl) ?_
          refine lv_bipush (v := nI (108)) hx hb dX7_readsOrder_132 (by decide) ?_
          refine fa_callViu (As := [.int (nI (108))]) (rest := []) CX HX2368 (r_accepts l G n hn v2367 r hM (n9) (na) (no) (by omega) (by omega) (by omega) ((hf_x2366.2 9 (by decide) (by decide)).trans ((hf_x2362.2 9 (by decide) (by decide)).trans ((hf_x2358.2 9 (by decide) (by decide)).trans (by rw [e2355, fa_u_n _ _ (by omega)]; exact (by rw [e2206, fa_u_n _ _ (by omega)]; exact g9))))) ((gm_x2366).trans (congrArg nI hp115)) (go_x2366.trans (congrArg nI ho_x2366.e)) t ((h2365.2 405 (by omega)).trans ((h2361.2 405 (by omega)).trans ((h2357.2 405 (by omega)).trans (((congrFun e2355 405).trans (fa_u_k _ _ (by decide))).trans (((congrFun e2206 405).trans (fa_u_k _ _ (by decide))).trans h5))))) (nI (108)) (by decide)) ln_X7_144 (by omega) rfl rfl rfl rfl (Nat.le_of_ble_eq_true rfl) hl.1 ⟨Nat.le_of_ble_eq_true rfl, Nat.le_of_ble_eq_true rfl⟩ ⟨Nat.le_refl _, Nat.le_refl _⟩ dX7_readsOrder_134 (fun x2394 v2395 H locs h2393 HX2396 => ?_)
          obtain ⟨hx_x2394, m_x2394, o_x2394, ⟨ha_x2394, hc_x2394, hd_x2394, hm_x2394, ho_x2394⟩, gm_x2394, go_x2394, hf_x2394, hr_x2394⟩ := h2393.1
          have hxa := hx_x2394
          have hma := hm_x2394
          refine lv_if_eq (tgt := 181) hx hb dX7_readsOrder_137 (by decide) (fun c_137 => ?_) (fun c_137 => ?_)
          · have hS108 : ¬ fa_sg t n9 na = (108 : Int32) := fa_ifn hxa (by first | exact c_137 | exact Decidable.not_not.mp c_137)
            have hp108 := hma.e.trans (fa_acc_f hS108)
            clear ha_x2394 hc_x2394 hd_x2394 hxa hma
            refine lv_aload_n hx hb dX7_readsOrder_181 rfl (lv_at hl 0 rfl) ?_
            refine lv_bipush (v := nI (102)) hx hb dX7_readsOrder_182 (by decide) ?_
            refine fa_callViu (As := [.int (nI (102))]) (rest := []) CX HX2396 (r_accepts l G n hn v2395 r hM (n9) (na) (no) (by omega) (by omega) (by omega) ((hf_x2394.2 9 (by decide) (by decide)).trans ((hf_x2366.2 9 (by decide) (by decide)).trans ((hf_x2362.2 9 (by decide) (by decide)).trans ((hf_x2358.2 9 (by decide) (by decide)).trans (by rw [e2355, fa_u_n _ _ (by omega)]; exact (by rw [e2206, fa_u_n _ _ (by omega)]; exact g9)))))) ((gm_x2394).trans (congrArg nI hp108)) (go_x2394.trans (congrArg nI ho_x2394.e)) t ((h2393.2 405 (by omega)).trans ((h2365.2 405 (by omega)).trans ((h2361.2 405 (by omega)).trans ((h2357.2 405 (by omega)).trans (((congrFun e2355 405).trans (fa_u_k _ _ (by decide))).trans (((congrFun e2206 405).trans (fa_u_k _ _ (by decide))).trans h5)))))) (nI (102)) (by decide)) ln_X7_144 (by omega) rfl rfl rfl rfl (Nat.le_of_ble_eq_true rfl) hl.1 ⟨Nat.le_of_ble_eq_true rfl, Nat.le_of_ble_eq_true rfl⟩ ⟨Nat.le_refl _, Nat.le_refl _⟩ dX7_readsOrder_184 (fun x2398 v2399 H locs h2397 HX2400 => ?_)
            obtain ⟨hx_x2398, m_x2398, o_x2398, ⟨ha_x2398, hc_x2398, hd_x2398, hm_x2398, ho_x2398⟩, gm_x2398, go_x2398, hf_x2398, hr_x2398⟩ := h2397.1
            have hxa := hx_x2398
            have hma := hm_x2398
            refine lv_if_eq (tgt := 232) hx hb dX7_readsOrder_187 (by decide) (fun c_187 => ?_) (fun c_187 => ?_)
            · have hS102 : ¬ fa_sg t n9 na = (102 : Int32) := fa_ifn hxa (by first | exact c_187 | exact Decidable.not_not.mp c_187)
              have hp102 := hma.e.trans (fa_acc_f hS102)
              clear ha_x2398 hc_x2398 hd_x2398 hxa hma
              refine lv_aload_n hx hb dX7_readsOrder_232 rfl (lv_at hl 0 rfl) ?_
              refine lv_bipush (v := nI (100)) hx hb dX7_readsOrder_233 (by decide) ?_
              refine fa_callViu (As := [.int (nI (100))]) (rest := []) CX HX2400 (r_accepts l G n hn v2399 r hM (n9) (na) (no) (by omega) (by omega) (by omega) ((hf_x2398.2 9 (by decide) (by decide)).trans ((hf_x2394.2 9 (by decide) (by decide)).trans ((hf_x2366.2 9 (by decide) (by decide)).trans ((hf_x2362.2 9 (by decide) (by decide)).trans ((hf_x2358.2 9 (by decide) (by decide)).trans (by rw [e2355, fa_u_n _ _ (by omega)]; exact (by rw [e2206, fa_u_n _ _ (by omega)]; exact g9))))))) ((gm_x2398).trans (congrArg nI hp102)) (go_x2398.trans (congrArg nI ho_x2398.e)) t ((h2397.2 405 (by omega)).trans ((h2393.2 405 (by omega)).trans ((h2365.2 405 (by omega)).trans ((h2361.2 405 (by omega)).trans ((h2357.2 405 (by omega)).trans (((congrFun e2355 405).trans (fa_u_k _ _ (by decide))).trans (((congrFun e2206 405).trans (fa_u_k _ _ (by decide))).trans h5))))))) (nI (100)) (by decide)) ln_X7_144 (by omega) rfl rfl rfl rfl (Nat.le_of_ble_eq_true rfl) hl.1 ⟨Nat.le_of_ble_eq_true rfl, Nat.le_of_ble_eq_true rfl⟩ ⟨Nat.le_refl _, Nat.le_refl _⟩ dX7_readsOrder_235 (fun x2402 v2403 H locs h2401 HX2404 => ?_)
              obtain ⟨hx_x2402, m_x2402, o_x2402, ⟨ha_x2402, hc_x2402, hd_x2402, hm_x2402, ho_x2402⟩, gm_x2402, go_x2402, hf_x2402, hr_x2402⟩ := h2401.1
              have hxa := hx_x2402
              have hma := hm_x2402
              refine lv_if_eq (tgt := 257) hx hb dX7_readsOrder_238 (by decide) (fun c_238 => ?_) (fun c_238 => ?_)
              · have hS100 : ¬ fa_sg t n9 na = (100 : Int32) := fa_ifn hxa (by first | exact c_238 | exact Decidable.not_not.mp c_238)
                have hp100 := hma.e.trans (fa_acc_f hS100)
                clear ha_x2402 hc_x2402 hd_x2402 hxa hma
                refine lv_iconst (v := nI (0)) hx hb dX7_readsOrder_257 (by decide) ?_
                refine lv_istore_n (lv' := [(1, .int (nI (0))), (0, .ref (fa_B G + (397)))]) hx hb dX7_readsOrder_258 rfl hl (by decide) rfl (fun ls hl => ?_)
                refine lv_aload_n hx hb dX7_readsOrder_259 rfl (lv_at hl 1 rfl) ?_
                refine lv_dup hx hb dX7_readsOrder_260 rfl ?_
                refine fa_geti (k := 397) CX HX2404 fl_X7_141 (by omega) rfl rfl dX7_readsOrder_261 ?_
                rw [show v2403 397 11 = nI (no) from (go_x2402.trans (congrArg nI ho_x2402.e))]
                refine lv_iload_n hx hb dX7_readsOrder_264 rfl (lv_at hl 0 rfl) ?_
                refine lv_if_eq (tgt := 272) hx hb dX7_readsOrder_265 (by decide) (fun c_265 => ?_) (fun c_265 => ?_)
                · refine lv_iconst (v := nI (0)) hx hb dX7_readsOrder_272 (by decide) ?_
                  refine fa_iaddN hx hb dX7_readsOrder_273 ?_
                  refine fa_puti (k := 397) CX HX2404 fl_X7_141 (by omega) rfl rfl rfl rfl dX7_readsOrder_274 (fun H locs v2405 e2406 HX2407 => ?_)
                  refine lv_iload_n hx hb dX7_readsOrder_277 rfl (lv_at hl 0 rfl) ?_
                  exact RET _ _ _ _ _ _ _ HX2407 dX7_readsOrder_278 (by decide) (⟨rfl, ⟨⟨(by rw [(fa_ord_no hS110 hS97 hS115 hS108 hS102 hS100)]; exact rfl), na, no + 0, ⟨by omega, by omega, by omega, fa_is.mk (by rw [(fa_ord_no hS110 hS97 hS115 hS108 hS102 hS100)]), fa_is.mk (by rw [(fa_ord_no hS110 hS97 hS115 hS108 hS102 hS100)]; exact (show no + 0 = no by omega))⟩, (show v2405 397 12 = nI (na) from (by rw [e2406, fa_u_n _ _ (by omega)]; exact ((gm_x2402).trans (congrArg nI hp100)))), (show v2405 397 11 = nI (no + 0) from (by rw [e2406, fa_u_s])), (show fa_f3 v v2405 from (by rw [e2406]; exact fa_f3.w (fa_f3.tr (fa_f3.tr (fa_f3.tr (fa_f3.tr (fa_f3.tr (fa_f3.tr (by rw [e2355]; exact fa_f3.u (by rw [e2206]; exact fa_f3.u fa_f3.rf)) hf_x2358) hf_x2362) hf_x2366) hf_x2394) hf_x2398) hf_x2402) (by decide))), (by rw [(fa_ord_no hS110 hS97 hS115 hS108 hS102 hS100)]; exact ⟨(fun i hi => (by show v2405 403 i = _; rw [e2406, fa_u_k _ _ (by decide), hr_x2402, hr_x2398, hr_x2394, hr_x2366, hr_x2362, hr_x2358]; exact hA i hi)), (by show v2405 403 (4 * no) = _; rw [e2406, fa_u_k _ _ (by decide), hr_x2402, hr_x2398, hr_x2394, hr_x2366, hr_x2362, hr_x2358]; exact hB), (by show v2405 403 (4 * no + 1) = _; rw [e2406, fa_u_k _ _ (by decide), hr_x2402, hr_x2398, hr_x2394, hr_x2366, hr_x2362, hr_x2358]; exact hC), (fun z => absurd (show false = true from z) (by decide))⟩)⟩, (by rw [e2406]; exact fa_fr.u (fa_fr.tr (fa_fr.tr (fa_fr.tr (fa_fr.tr (fa_fr.tr (fa_fr.tr (by rw [e2355]; exact fa_fr.u (by rw [e2206]; exact fa_fr.u fa_fr.rf (by omega)) (by omega)) (fa_fr.wide h2357.2 (by omega) (by omega))) (fa_fr.wide h2361.2 (by omega) (by omega))) (fa_fr.wide h2365.2 (by omega) (by omega))) (fa_fr.wide h2393.2 (by omega) (by omega))) (fa_fr.wide h2397.2 (by omega) (by omega))) (fa_fr.wide h2401.2 (by omega) (by omega))) (by omega))⟩⟩)
                · exact absurd (by try decide) c_265
              · have hS100 : fa_sg t n9 na = (100 : Int32) := fa_ift hxa c_238
                have hp100 := hma.e.trans (fa_acc_t hS100)
                have hlt : na < n9 := fa_sg_nz hS100 (by decide)
                clear ha_x2402 hc_x2402 hd_x2402
                refine lv_aload_n hx hb dX7_readsOrder_241 rfl (lv_at hl 0 rfl) ?_
                refine lv_iconst (v := nI (2)) hx hb dX7_readsOrder_242 (by decide) ?_
                refine lv_iconst (v := nI (1)) hx hb dX7_readsOrder_243 (by decide) ?_
                refine lv_sipush (v := nI (400)) hx hb dX7_readsOrder_244 (by decide) ?_
                refine fa_callViu (As := [.int (nI (2)), .int (nI (1)), .int (nI (400))]) (rest := []) CX HX2404 (r_number l G n hn v2403 r hM (n9) (na + 1) (no) (by omega) (by omega) (by omega) ((hf_x2402.2 9 (by decide) (by decide)).trans ((hf_x2398.2 9 (by decide) (by decide)).trans ((hf_x2394.2 9 (by decide) (by decide)).trans ((hf_x2366.2 9 (by decide) (by decide)).trans ((hf_x2362.2 9 (by decide) (by decide)).trans ((hf_x2358.2 9 (by decide) (by decide)).trans (by rw [e2355, fa_u_n _ _ (by omega)]; exact (by rw [e2206, fa_u_n _ _ (by omega)]; exact g9)))))))) ((gm_x2402).trans (congrArg nI hp100)) (go_x2402.trans (congrArg nI ho_x2402.e)) t ((h2401.2 405 (by omega)).trans ((h2397.2 405 (by omega)).trans ((h2393.2 405 (by omega)).trans ((h2365.2 405 (by omega)).trans ((h2361.2 405 (by omega)).trans ((h2357.2 405 (by omega)).trans (((congrFun e2355 405).trans (fa_u_k _ _ (by decide))).trans (((congrFun e2206 405).trans (fa_u_k _ _ (by decide))).trans h5)))))))) (2) (nI (1)) (nI (400)) (by omega) ⟨1, by decide, rfl⟩ ⟨400, by decide, rfl⟩) ln_X7_148 (by omega) rfl rfl rfl rfl (Nat.le_of_ble_eq_true rfl) hl.1 ⟨Nat.le_of_ble_eq_true rfl, Nat.le_of_ble_eq_true rfl⟩ ⟨Nat.le_refl _, Nat.le_refl _⟩ dX7_readsOrder_247 (fun x2409 v2410 H locs h2408 HX2411 => ?_)
                obtain ⟨hx_x2409, m_x2409, o_x2409, ⟨ha_x2409, hc_x2409, hd_x2409, hm_x2409, ho_x2409⟩, gm_x2409, go_x2409, hf_x2409, hr_x2409⟩ := h2408.1
                have hxn1 := hx_x2409
                have hmn1 := hm_x2409
                refine lv_if_eq (tgt := 257) hx hb dX7_readsOrder_250 (by decide) (fun c_250 => ?_) (fun c_250 => ?_)
                · have hn1 := fa_ifn hxn1 c_250
                  refine lv_iconst (v := nI (0)) hx hb dX7_readsOrder_257 (by decide) ?_
                  refine lv_istore_n (lv' := [(1, .int (nI (0))), (0, .ref (fa_B G + (397)))]) hx hb dX7_readsOrder_258 rfl hl (by decide) rfl (fun ls hl => ?_)
                  refine lv_aload_n hx hb dX7_readsOrder_259 rfl (lv_at hl 1 rfl) ?_
                  refine lv_dup hx hb dX7_readsOrder_260 rfl ?_
                  refine fa_geti (k := 397) CX HX2411 fl_X7_141 (by omega) rfl rfl dX7_readsOrder_261 ?_
                  rw [show v2410 397 11 = nI (no) from (go_x2409.trans (congrArg nI ho_x2409.e))]
                  refine lv_iload_n hx hb dX7_readsOrder_264 rfl (lv_at hl 0 rfl) ?_
                  refine lv_if_eq (tgt := 272) hx hb dX7_readsOrder_265 (by decide) (fun c_265 => ?_) (fun c_265 => ?_)
                  · refine lv_iconst (v := nI (0)) hx hb dX7_readsOrder_272 (by decide) ?_
                    refine fa_iaddN hx hb dX7_readsOrder_273 ?_
                    refine fa_puti (k := 397) CX HX2411 fl_X7_141 (by omega) rfl rfl rfl rfl dX7_readsOrder_274 (fun H locs v2412 e2413 HX2414 => ?_)
                    refine lv_iload_n hx hb dX7_readsOrder_277 rfl (lv_at hl 0 rfl) ?_
                    exact RET _ _ _ _ _ _ _ HX2414 dX7_readsOrder_278 (by decide) (⟨rfl, ⟨⟨(by rw [((fa_ord_d hS100).trans (fa_one_f hn1))]; exact rfl), m_x2409, no + 0, ⟨by omega, by omega, by omega, fa_is.mk (by rw [((fa_ord_d hS100).trans (fa_one_f hn1))]; exact hmn1.e), fa_is.mk (by rw [((fa_ord_d hS100).trans (fa_one_f hn1))]; exact (show no + 0 = no by omega))⟩, (show v2412 397 12 = nI (m_x2409) from (by rw [e2413, fa_u_n _ _ (by omega)]; exact gm_x2409)), (show v2412 397 11 = nI (no + 0) from (by rw [e2413, fa_u_s])), (show fa_f3 v v2412 from (by rw [e2413]; exact fa_f3.w (fa_f3.tr (fa_f3.tr (fa_f3.tr (fa_f3.tr (fa_f3.tr (fa_f3.tr (fa_f3.tr (by rw [e2355]; exact fa_f3.u (by rw [e2206]; exact fa_f3.u fa_f3.rf)) hf_x2358) hf_x2362) hf_x2366) hf_x2394) hf_x2398) hf_x2402) hf_x2409) (by decide))), (by rw [((fa_ord_d hS100).trans (fa_one_f hn1))]; exact ⟨(fun i hi => (by show v2412 403 i = _; rw [e2413, fa_u_k _ _ (by decide), hr_x2409.2 i (by omega), hr_x2402, hr_x2398, hr_x2394, hr_x2366, hr_x2362, hr_x2358]; exact hA i hi)), (by show v2412 403 (4 * no) = _; rw [e2413, fa_u_k _ _ (by decide), hr_x2409.2 (4 * no) (by omega), hr_x2402, hr_x2398, hr_x2394, hr_x2366, hr_x2362, hr_x2358]; exact hB), (by show v2412 403 (4 * no + 1) = _; rw [e2413, fa_u_k _ _ (by decide), hr_x2409.2 (4 * no + 1) (by omega), hr_x2402, hr_x2398, hr_x2394, hr_x2366, hr_x2362, hr_x2358]; exact hC), (fun z => absurd (show false = true from z) (by decide))⟩)⟩, (by rw [e2413]; exact fa_fr.u (fa_fr.tr (fa_fr.tr (fa_fr.tr (fa_fr.tr (fa_fr.tr (fa_fr.tr (fa_fr.tr (by rw [e2355]; exact fa_fr.u (by rw [e2206]; exact fa_fr.u fa_fr.rf (by omega)) (by omega)) (fa_fr.wide h2357.2 (by omega) (by omega))) (fa_fr.wide h2361.2 (by omega) (by omega))) (fa_fr.wide h2365.2 (by omega) (by omega))) (fa_fr.wide h2393.2 (by omega) (by omega))) (fa_fr.wide h2397.2 (by omega) (by omega))) (fa_fr.wide h2401.2 (by omega) (by omega))) (fa_fr.wide h2408.2 (by omega) (by omega))) (by omega))⟩⟩)
                  · exact absurd (by try decide) c_265
                · have hn1 := fa_ift hxn1 c_250
                  refine lv_iconst (v := nI (1)) hx hb dX7_readsOrder_253 (by decide) ?_
                  refine lv_goto (tgt := 258) hx hb dX7_readsOrder_254 (by decide) ?_
                  refine lv_istore_n (lv' := [(1, .int (nI (1))), (0, .ref (fa_B G + (397)))]) hx hb dX7_readsOrder_258 rfl hl (by decide) rfl (fun ls hl => ?_)
                  refine lv_aload_n hx hb dX7_readsOrder_259 rfl (lv_at hl 1 rfl) ?_
                  refine lv_dup hx hb dX7_readsOrder_260 rfl ?_
                  refine fa_geti (k := 397) CX HX2411 fl_X7_141 (by omega) rfl rfl dX7_readsOrder_261 ?_
                  rw [show v2410 397 11 = nI (no) from (go_x2409.trans (congrArg nI ho_x2409.e))]
                  refine lv_iload_n hx hb dX7_readsOrder_264 rfl (lv_at hl 0 rfl) ?_
                  refine lv_if_eq (tgt := 272) hx hb dX7_readsOrder_265 (by decide) (fun c_265 => ?_) (fun c_265 => ?_)
                  · exact absurd c_265 (by try decide)
                  · refine lv_iconst (v := nI (1)) hx hb dX7_readsOrder_268 (by decide) ?_
                    refine lv_goto (tgt := 273) hx hb dX7_readsOrder_269 (by decide) ?_
                    refine fa_iaddN hx hb dX7_readsOrder_273 ?_
                    refine fa_puti (k := 397) CX HX2411 fl_X7_141 (by omega) rfl rfl rfl rfl dX7_readsOrder_274 (fun H locs v2415 e2416 HX2417 => ?_)
                    refine lv_iload_n hx hb dX7_readsOrder_277 rfl (lv_at hl 0 rfl) ?_
                    exact RET _ _ _ _ _ _ _ HX2417 dX7_readsOrder_278 (by decide) (⟨rfl, ⟨⟨(by rw [((fa_ord_d hS100).trans (fa_one_t hn1))]; exact rfl), m_x2409, no + 1, ⟨by omega, by omega, (by have hfx := (show na + 2 ≤ m_x2409 from by have z := (fa_ord_le (t := t) hna).2.2; rw [((fa_ord_d hS100).trans (fa_one_t hn1))] at z; rw [hmn1.e]; exact z rfl); omega), fa_is.mk (by rw [((fa_ord_d hS100).trans (fa_one_t hn1))]; exact hmn1.e), fa_is.mk (by rw [((fa_ord_d hS100).trans (fa_one_t hn1))]; exact (show no + 1 = no + 1 by omega))⟩, (show v2415 397 12 = nI (m_x2409) from (by rw [e2416, fa_u_n _ _ (by omega)]; exact gm_x2409)), (show v2415 397 11 = nI (no + 1) from (by rw [e2416, fa_u_s])), (show fa_f3 v v2415 from (by rw [e2416]; exact fa_f3.w (fa_f3.tr (fa_f3.tr (fa_f3.tr (fa_f3.tr (fa_f3.tr (fa_f3.tr (fa_f3.tr (by rw [e2355]; exact fa_f3.u (by rw [e2206]; exact fa_f3.u fa_f3.rf)) hf_x2358) hf_x2362) hf_x2366) hf_x2394) hf_x2398) hf_x2402) hf_x2409) (by decide))), (by rw [((fa_ord_d hS100).trans (fa_one_t hn1))]; exact ⟨(fun i hi => (by show v2415 403 i = _; rw [e2416, fa_u_k _ _ (by decide), hr_x2409.2 i (by omega), hr_x2402, hr_x2398, hr_x2394, hr_x2366, hr_x2362, hr_x2358]; exact hA i hi)), (by show v2415 403 (4 * no) = _; rw [e2416, fa_u_k _ _ (by decide), hr_x2409.2 (4 * no) (by omega), hr_x2402, hr_x2398, hr_x2394, hr_x2366, hr_x2362, hr_x2358]; exact hB), (by show v2415 403 (4 * no + 1) = _; rw [e2416, fa_u_k _ _ (by decide), hr_x2409.2 (4 * no + 1) (by omega), hr_x2402, hr_x2398, hr_x2394, hr_x2366, hr_x2362, hr_x2358]; exact hC), (fun _ => ⟨(by show v2415 403 (4 * no + 2) = _; rw [e2416, fa_u_k _ _ (by decide)]; exact hr_x2409.1 hn1), (fun y1 y2 => by first | exact absurd hS97 y1 | exact absurd hS100 y2)⟩)⟩)⟩, (by rw [e2416]; exact fa_fr.u (fa_fr.tr (fa_fr.tr (fa_fr.tr (fa_fr.tr (fa_fr.tr (fa_fr.tr (fa_fr.tr (by rw [e2355]; exact fa_fr.u (by rw [e2206]; exact fa_fr.u fa_fr.rf (by omega)) (by omega)) (fa_fr.wide h2357.2 (by omega) (by omega))) (fa_fr.wide h2361.2 (by omega) (by omega))) (fa_fr.wide h2365.2 (by omega) (by omega))) (fa_fr.wide h2393.2 (by omega) (by omega))) (fa_fr.wide h2397.2 (by omega) (by omega))) (fa_fr.wide h2401.2 (by omega) (by omega))) (fa_fr.wide h2408.2 (by omega) (by omega))) (by omega))⟩⟩)
            · have hS102 : fa_sg t n9 na = (102 : Int32) := fa_ift hxa c_187
              have hp102 := hma.e.trans (fa_acc_t hS102)
              have hlt : na < n9 := fa_sg_nz hS102 (by decide)
              clear ha_x2398 hc_x2398 hd_x2398
              refine lv_aload_n hx hb dX7_readsOrder_190 rfl (lv_at hl 0 rfl) ?_
              refine lv_iconst (v := nI (2)) hx hb dX7_readsOrder_191 (by decide) ?_
              refine lv_iconst (v := nI (0)) hx hb dX7_readsOrder_192 (by decide) ?_
              refine lv_sipush (v := nI (199)) hx hb dX7_readsOrder_193 (by decide) ?_
              refine fa_callViu (As := [.int (nI (2)), .int (nI (0)), .int (nI (199))]) (rest := []) CX HX2400 (r_number l G n hn v2399 r hM (n9) (na + 1) (no) (by omega) (by omega) (by omega) ((hf_x2398.2 9 (by decide) (by decide)).trans ((hf_x2394.2 9 (by decide) (by decide)).trans ((hf_x2366.2 9 (by decide) (by decide)).trans ((hf_x2362.2 9 (by decide) (by decide)).trans ((hf_x2358.2 9 (by decide) (by decide)).trans (by rw [e2355, fa_u_n _ _ (by omega)]; exact (by rw [e2206, fa_u_n _ _ (by omega)]; exact g9))))))) ((gm_x2398).trans (congrArg nI hp102)) (go_x2398.trans (congrArg nI ho_x2398.e)) t ((h2397.2 405 (by omega)).trans ((h2393.2 405 (by omega)).trans ((h2365.2 405 (by omega)).trans ((h2361.2 405 (by omega)).trans ((h2357.2 405 (by omega)).trans (((congrFun e2355 405).trans (fa_u_k _ _ (by decide))).trans (((congrFun e2206 405).trans (fa_u_k _ _ (by decide))).trans h5))))))) (2) (nI (0)) (nI (199)) (by omega) ⟨0, by decide, rfl⟩ ⟨199, by decide, rfl⟩) ln_X7_148 (by omega) rfl rfl rfl rfl (Nat.le_of_ble_eq_true rfl) hl.1 ⟨Nat.le_of_ble_eq_true rfl, Nat.le_of_ble_eq_true rfl⟩ ⟨Nat.le_refl _, Nat.le_refl _⟩ dX7_readsOrder_196 (fun x2419 v2420 H locs h2418 HX2421 => ?_)
              obtain ⟨hx_x2419, m_x2419, o_x2419, ⟨ha_x2419, hc_x2419, hd_x2419, hm_x2419, ho_x2419⟩, gm_x2419, go_x2419, hf_x2419, hr_x2419⟩ := h2418.1
              have hxn1 := hx_x2419
              have hmn1 := hm_x2419
              refine lv_if_eq (tgt := 227) hx hb dX7_readsOrder_199 (by decide) (fun c_199 => ?_) (fun c_199 => ?_)
              · have hn1 := fa_ifn hxn1 c_199
                refine lv_iconst (v := nI (0)) hx hb dX7_readsOrder_227 (by decide) ?_
                refine lv_istore_n (lv' := [(1, .int (nI (0))), (0, .ref (fa_B G + (397)))]) hx hb dX7_readsOrder_228 rfl hl (by decide) rfl (fun ls hl => ?_)
                refine lv_goto (tgt := 259) hx hb dX7_readsOrder_229 (by decide) ?_
                refine lv_aload_n hx hb dX7_readsOrder_259 rfl (lv_at hl 1 rfl) ?_
                refine lv_dup hx hb dX7_readsOrder_260 rfl ?_
                refine fa_geti (k := 397) CX HX2421 fl_X7_141 (by omega) rfl rfl dX7_readsOrder_261 ?_
                rw [show v2420 397 11 = nI (no) from (go_x2419.trans (congrArg nI ho_x2419.e))]
                refine lv_iload_n hx hb dX7_readsOrder_264 rfl (lv_at hl 0 rfl) ?_
                refine lv_if_eq (tgt := 272) hx hb dX7_readsOrder_265 (by decide) (fun c_265 => ?_) (fun c_265 => ?_)
                · refine lv_iconst (v := nI (0)) hx hb dX7_readsOrder_272 (by decide) ?_
                  refine fa_iaddN hx hb dX7_readsOrder_273 ?_
                  refine fa_puti (k := 397) CX HX2421 fl_X7_141 (by omega) rfl rfl rfl rfl dX7_readsOrder_274 (fun H locs v2422 e2423 HX2424 => ?_)
                  refine lv_iload_n hx hb dX7_readsOrder_277 rfl (lv_at hl 0 rfl) ?_
                  exact RET _ _ _ _ _ _ _ HX2424 dX7_readsOrder_278 (by decide) (⟨rfl, ⟨⟨(by rw [((fa_ord_f hS102).trans (fa_two_f hn1))]; exact rfl), m_x2419, no + 0, ⟨by omega, by omega, by omega, fa_is.mk (by rw [((fa_ord_f hS102).trans (fa_two_f hn1))]; exact hmn1.e), fa_is.mk (by rw [((fa_ord_f hS102).trans (fa_two_f hn1))]; exact (show no + 0 = no by omega))⟩, (show v2422 397 12 = nI (m_x2419) from (by rw [e2423, fa_u_n _ _ (by omega)]; exact gm_x2419)), (show v2422 397 11 = nI (no + 0) from (by rw [e2423, fa_u_s])), (show fa_f3 v v2422 from (by rw [e2423]; exact fa_f3.w (fa_f3.tr (fa_f3.tr (fa_f3.tr (fa_f3.tr (fa_f3.tr (fa_f3.tr (by rw [e2355]; exact fa_f3.u (by rw [e2206]; exact fa_f3.u fa_f3.rf)) hf_x2358) hf_x2362) hf_x2366) hf_x2394) hf_x2398) hf_x2419) (by decide))), (by rw [((fa_ord_f hS102).trans (fa_two_f hn1))]; exact ⟨(fun i hi => (by show v2422 403 i = _; rw [e2423, fa_u_k _ _ (by decide), hr_x2419.2 i (by omega), hr_x2398, hr_x2394, hr_x2366, hr_x2362, hr_x2358]; exact hA i hi)), (by show v2422 403 (4 * no) = _; rw [e2423, fa_u_k _ _ (by decide), hr_x2419.2 (4 * no) (by omega), hr_x2398, hr_x2394, hr_x2366, hr_x2362, hr_x2358]; exact hB), (by show v2422 403 (4 * no + 1) = _; rw [e2423, fa_u_k _ _ (by decide), hr_x2419.2 (4 * no + 1) (by omega), hr_x2398, hr_x2394, hr_x2366, hr_x2362, hr_x2358]; exact hC), (fun z => absurd (show false = true from z) (by decide))⟩)⟩, (by rw [e2423]; exact fa_fr.u (fa_fr.tr (fa_fr.tr (fa_fr.tr (fa_fr.tr (fa_fr.tr (fa_fr.tr (by rw [e2355]; exact fa_fr.u (by rw [e2206]; exact fa_fr.u fa_fr.rf (by omega)) (by omega)) (fa_fr.wide h2357.2 (by omega) (by omega))) (fa_fr.wide h2361.2 (by omega) (by omega))) (fa_fr.wide h2365.2 (by omega) (by omega))) (fa_fr.wide h2393.2 (by omega) (by omega))) (fa_fr.wide h2397.2 (by omega) (by omega))) (fa_fr.wide h2418.2 (by omega) (by omega))) (by omega))⟩⟩)
                · exact absurd (by try decide) c_265
              · have hn1 := fa_ift hxn1 c_199
                refine lv_aload_n hx hb dX7_readsOrder_202 rfl (lv_at hl 0 rfl) ?_
                refine lv_bipush (v := nI (44)) hx hb dX7_readsOrder_203 (by decide) ?_
                refine fa_callViu (As := [.int (nI (44))]) (rest := []) CX HX2421 (r_accepts l G n hn v2420 r hM (n9) (m_x2419) (no) (by omega) (by omega) (by omega) ((hf_x2419.2 9 (by decide) (by decide)).trans ((hf_x2398.2 9 (by decide) (by decide)).trans ((hf_x2394.2 9 (by decide) (by decide)).trans ((hf_x2366.2 9 (by decide) (by decide)).trans ((hf_x2362.2 9 (by decide) (by decide)).trans ((hf_x2358.2 9 (by decide) (by decide)).trans (by rw [e2355, fa_u_n _ _ (by omega)]; exact (by rw [e2206, fa_u_n _ _ (by omega)]; exact g9)))))))) gm_x2419 (go_x2419.trans (congrArg nI ho_x2419.e)) t ((h2418.2 405 (by omega)).trans ((h2397.2 405 (by omega)).trans ((h2393.2 405 (by omega)).trans ((h2365.2 405 (by omega)).trans ((h2361.2 405 (by omega)).trans ((h2357.2 405 (by omega)).trans (((congrFun e2355 405).trans (fa_u_k _ _ (by decide))).trans (((congrFun e2206 405).trans (fa_u_k _ _ (by decide))).trans h5)))))))) (nI (44)) (by decide)) ln_X7_144 (by omega) rfl rfl rfl rfl (Nat.le_of_ble_eq_true rfl) hl.1 ⟨Nat.le_of_ble_eq_true rfl, Nat.le_of_ble_eq_true rfl⟩ ⟨Nat.le_refl _, Nat.le_refl _⟩ dX7_readsOrder_205 (fun x2426 v2427 H locs h2425 HX2428 => ?_)
                obtain ⟨hx_x2426, m_x2426, o_x2426, ⟨ha_x2426, hc_x2426, hd_x2426, hm_x2426, ho_x2426⟩, gm_x2426, go_x2426, hf_x2426, hr_x2426⟩ := h2425.1
                have hxc := hx_x2426
                have hmc := hm_x2426
                refine lv_if_eq (tgt := 227) hx hb dX7_readsOrder_208 (by decide) (fun c_208 => ?_) (fun c_208 => ?_)
                · have hcm := fa_ifn hxc c_208
                  have hpc := hmc.e.trans (fa_acc_f hcm)
                  refine lv_iconst (v := nI (0)) hx hb dX7_readsOrder_227 (by decide) ?_
                  refine lv_istore_n (lv' := [(1, .int (nI (0))), (0, .ref (fa_B G + (397)))]) hx hb dX7_readsOrder_228 rfl hl (by decide) rfl (fun ls hl => ?_)
                  refine lv_goto (tgt := 259) hx hb dX7_readsOrder_229 (by decide) ?_
                  refine lv_aload_n hx hb dX7_readsOrder_259 rfl (lv_at hl 1 rfl) ?_
                  refine lv_dup hx hb dX7_readsOrder_260 rfl ?_
                  refine fa_geti (k := 397) CX HX2428 fl_X7_141 (by omega) rfl rfl dX7_readsOrder_261 ?_
                  rw [show v2427 397 11 = nI (no) from (go_x2426.trans (congrArg nI ho_x2426.e))]
                  refine lv_iload_n hx hb dX7_readsOrder_264 rfl (lv_at hl 0 rfl) ?_
                  refine lv_if_eq (tgt := 272) hx hb dX7_readsOrder_265 (by decide) (fun c_265 => ?_) (fun c_265 => ?_)
                  · refine lv_iconst (v := nI (0)) hx hb dX7_readsOrder_272 (by decide) ?_
                    refine fa_iaddN hx hb dX7_readsOrder_273 ?_
                    refine fa_puti (k := 397) CX HX2428 fl_X7_141 (by omega) rfl rfl rfl rfl dX7_readsOrder_274 (fun H locs v2429 e2430 HX2431 => ?_)
                    refine lv_iload_n hx hb dX7_readsOrder_277 rfl (lv_at hl 0 rfl) ?_
                    exact RET _ _ _ _ _ _ _ HX2431 dX7_readsOrder_278 (by decide) (⟨rfl, ⟨⟨(by rw [((fa_ord_f hS102).trans (fa_two_c hn1 hmn1.e hcm))]; exact rfl), m_x2419, no + 0, ⟨by omega, by omega, by omega, fa_is.mk (by rw [((fa_ord_f hS102).trans (fa_two_c hn1 hmn1.e hcm))]), fa_is.mk (by rw [((fa_ord_f hS102).trans (fa_two_c hn1 hmn1.e hcm))]; exact (show no + 0 = no by omega))⟩, (show v2429 397 12 = nI (m_x2419) from (by rw [e2430, fa_u_n _ _ (by omega)]; exact ((gm_x2426).trans (congrArg nI hpc)))), (show v2429 397 11 = nI (no + 0) from (by rw [e2430, fa_u_s])), (show fa_f3 v v2429 from (by rw [e2430]; exact fa_f3.w (fa_f3.tr (fa_f3.tr (fa_f3.tr (fa_f3.tr (fa_f3.tr (fa_f3.tr (fa_f3.tr (by rw [e2355]; exact fa_f3.u (by rw [e2206]; exact fa_f3.u fa_f3.rf)) hf_x2358) hf_x2362) hf_x2366) hf_x2394) hf_x2398) hf_x2419) hf_x2426) (by decide))), (by rw [((fa_ord_f hS102).trans (fa_two_c hn1 hmn1.e hcm))]; exact ⟨(fun i hi => (by show v2429 403 i = _; rw [e2430, fa_u_k _ _ (by decide), hr_x2426, hr_x2419.2 i (by omega), hr_x2398, hr_x2394, hr_x2366, hr_x2362, hr_x2358]; exact hA i hi)), (by show v2429 403 (4 * no) = _; rw [e2430, fa_u_k _ _ (by decide), hr_x2426, hr_x2419.2 (4 * no) (by omega), hr_x2398, hr_x2394, hr_x2366, hr_x2362, hr_x2358]; exact hB), (by show v2429 403 (4 * no + 1) = _; rw [e2430, fa_u_k _ _ (by decide), hr_x2426, hr_x2419.2 (4 * no + 1) (by omega), hr_x2398, hr_x2394, hr_x2366, hr_x2362, hr_x2358]; exact hC), (fun z => absurd (show false = true from z) (by decide))⟩)⟩, (by rw [e2430]; exact fa_fr.u (fa_fr.tr (fa_fr.tr (fa_fr.tr (fa_fr.tr (fa_fr.tr (fa_fr.tr (fa_fr.tr (by rw [e2355]; exact fa_fr.u (by rw [e2206]; exact fa_fr.u fa_fr.rf (by omega)) (by omega)) (fa_fr.wide h2357.2 (by omega) (by omega))) (fa_fr.wide h2361.2 (by omega) (by omega))) (fa_fr.wide h2365.2 (by omega) (by omega))) (fa_fr.wide h2393.2 (by omega) (by omega))) (fa_fr.wide h2397.2 (by omega) (by omega))) (fa_fr.wide h2418.2 (by omega) (by omega))) (fa_fr.wide h2425.2 (by omega) (by omega))) (by omega))⟩⟩)
                  · exact absurd (by try decide) c_265
                · have hcm := fa_ift hxc c_208
                  have hpc := hmc.e.trans (fa_acc_t hcm)
                  refine lv_aload_n hx hb dX7_readsOrder_211 rfl (lv_at hl 0 rfl) ?_
                  refine lv_iconst (v := nI (3)) hx hb dX7_readsOrder_212 (by decide) ?_
                  refine lv_iconst (v := nI (0)) hx hb dX7_readsOrder_213 (by decide) ?_
                  refine lv_sipush (v := nI (199)) hx hb dX7_readsOrder_214 (by decide) ?_
                  refine fa_callViu (As := [.int (nI (3)), .int (nI (0)), .int (nI (199))]) (rest := []) CX HX2428 (r_number l G n hn v2427 r hM (n9) (m_x2419 + 1) (no) (by omega) (by omega) (by omega) ((hf_x2426.2 9 (by decide) (by decide)).trans ((hf_x2419.2 9 (by decide) (by decide)).trans ((hf_x2398.2 9 (by decide) (by decide)).trans ((hf_x2394.2 9 (by decide) (by decide)).trans ((hf_x2366.2 9 (by decide) (by decide)).trans ((hf_x2362.2 9 (by decide) (by decide)).trans ((hf_x2358.2 9 (by decide) (by decide)).trans (by rw [e2355, fa_u_n _ _ (by omega)]; exact (by rw [e2206, fa_u_n _ _ (by omega)]; exact g9))))))))) ((gm_x2426).trans (congrArg nI hpc)) (go_x2426.trans (congrArg nI ho_x2426.e)) t ((h2425.2 405 (by omega)).trans ((h2418.2 405 (by omega)).trans ((h2397.2 405 (by omega)).trans ((h2393.2 405 (by omega)).trans ((h2365.2 405 (by omega)).trans ((h2361.2 405 (by omega)).trans ((h2357.2 405 (by omega)).trans (((congrFun e2355 405).trans (fa_u_k _ _ (by decide))).trans (((congrFun e2206 405).trans (fa_u_k _ _ (by decide))).trans h5))))))))) (3) (nI (0)) (nI (199)) (by omega) ⟨0, by decide, rfl⟩ ⟨199, by decide, rfl⟩) ln_X7_148 (by omega) rfl rfl rfl rfl (Nat.le_of_ble_eq_true rfl) hl.1 ⟨Nat.le_of_ble_eq_true rfl, Nat.le_of_ble_eq_true rfl⟩ ⟨Nat.le_refl _, Nat.le_refl _⟩ dX7_readsOrder_217 (fun x2433 v2434 H locs h2432 HX2435 => ?_)
                  obtain ⟨hx_x2433, m_x2433, o_x2433, ⟨ha_x2433, hc_x2433, hd_x2433, hm_x2433, ho_x2433⟩, gm_x2433, go_x2433, hf_x2433, hr_x2433⟩ := h2432.1
                  have hxn2 := hx_x2433
                  have hmn2 := hm_x2433
                  refine lv_if_eq (tgt := 227) hx hb dX7_readsOrder_220 (by decide) (fun c_220 => ?_) (fun c_220 => ?_)
                  · have hn2 := fa_ifn hxn2 c_220
                    refine lv_iconst (v := nI (0)) hx hb dX7_readsOrder_227 (by decide) ?_
                    refine lv_istore_n (lv' := [(1, .int (nI (0))), (0, .ref (fa_B G + (397)))]) hx hb dX7_readsOrder_228 rfl hl (by decide) rfl (fun ls hl => ?_)
                    refine lv_goto (tgt := 259) hx hb dX7_readsOrder_229 (by decide) ?_
                    refine lv_aload_n hx hb dX7_readsOrder_259 rfl (lv_at hl 1 rfl) ?_
                    refine lv_dup hx hb dX7_readsOrder_260 rfl ?_
                    refine fa_geti (k := 397) CX HX2435 fl_X7_141 (by omega) rfl rfl dX7_readsOrder_261 ?_
                    rw [show v2434 397 11 = nI (no) from (go_x2433.trans (congrArg nI ho_x2433.e))]
                    refine lv_iload_n hx hb dX7_readsOrder_264 rfl (lv_at hl 0 rfl) ?_
                    refine lv_if_eq (tgt := 272) hx hb dX7_readsOrder_265 (by decide) (fun c_265 => ?_) (fun c_265 => ?_)
                    · refine lv_iconst (v := nI (0)) hx hb dX7_readsOrder_272 (by decide) ?_
                      refine fa_iaddN hx hb dX7_readsOrder_273 ?_
                      refine fa_puti (k := 397) CX HX2435 fl_X7_141 (by omega) rfl rfl rfl rfl dX7_readsOrder_274 (fun H locs v2436 e2437 HX2438 => ?_)
                      refine lv_iload_n hx hb dX7_readsOrder_277 rfl (lv_at hl 0 rfl) ?_
                      exact RET _ _ _ _ _ _ _ HX2438 dX7_readsOrder_278 (by decide) (⟨rfl, ⟨⟨(by rw [((fa_ord_f hS102).trans (fa_two_n hn1 hmn1.e hcm hn2))]; exact rfl), m_x2433, no + 0, ⟨by omega, by omega, by omega, fa_is.mk (by rw [((fa_ord_f hS102).trans (fa_two_n hn1 hmn1.e hcm hn2))]; exact hmn2.e), fa_is.mk (by rw [((fa_ord_f hS102).trans (fa_two_n hn1 hmn1.e hcm hn2))]; exact (show no + 0 = no by omega))⟩, (show v2436 397 12 = nI (m_x2433) from (by rw [e2437, fa_u_n _ _ (by omega)]; exact gm_x2433)), (show v2436 397 11 = nI (no + 0) from (by rw [e2437, fa_u_s])), (show fa_f3 v v2436 from (by rw [e2437]; exact fa_f3.w (fa_f3.tr (fa_f3.tr (fa_f3.tr (fa_f3.tr (fa_f3.tr (fa_f3.tr (fa_f3.tr (fa_f3.tr (by rw [e2355]; exact fa_f3.u (by rw [e2206]; exact fa_f3.u fa_f3.rf)) hf_x2358) hf_x2362) hf_x2366) hf_x2394) hf_x2398) hf_x2419) hf_x2426) hf_x2433) (by decide))), (by rw [((fa_ord_f hS102).trans (fa_two_n hn1 hmn1.e hcm hn2))]; exact ⟨(fun i hi => (by show v2436 403 i = _; rw [e2437, fa_u_k _ _ (by decide), hr_x2433.2 i (by omega), hr_x2426, hr_x2419.2 i (by omega), hr_x2398, hr_x2394, hr_x2366, hr_x2362, hr_x2358]; exact hA i hi)), (by show v2436 403 (4 * no) = _; rw [e2437, fa_u_k _ _ (by decide), hr_x2433.2 (4 * no) (by omega), hr_x2426, hr_x2419.2 (4 * no) (by omega), hr_x2398, hr_x2394, hr_x2366, hr_x2362, hr_x2358]; exact hB), (by show v2436 403 (4 * no + 1) = _; rw [e2437, fa_u_k _ _ (by decide), hr_x2433.2 (4 * no + 1) (by omega), hr_x2426, hr_x2419.2 (4 * no + 1) (by omega), hr_x2398, hr_x2394, hr_x2366, hr_x2362, hr_x2358]; exact hC), (fun z => absurd (show false = true from z) (by decide))⟩)⟩, (by rw [e2437]; exact fa_fr.u (fa_fr.tr (fa_fr.tr (fa_fr.tr (fa_fr.tr (fa_fr.tr (fa_fr.tr (fa_fr.tr (fa_fr.tr (by rw [e2355]; exact fa_fr.u (by rw [e2206]; exact fa_fr.u fa_fr.rf (by omega)) (by omega)) (fa_fr.wide h2357.2 (by omega) (by omega))) (fa_fr.wide h2361.2 (by omega) (by omega))) (fa_fr.wide h2365.2 (by omega) (by omega))) (fa_fr.wide h2393.2 (by omega) (by omega))) (fa_fr.wide h2397.2 (by omega) (by omega))) (fa_fr.wide h2418.2 (by omega) (by omega))) (fa_fr.wide h2425.2 (by omega) (by omega))) (fa_fr.wide h2432.2 (by omega) (by omega))) (by omega))⟩⟩)
                    · exact absurd (by try decide) c_265
                  · have hn2 := fa_ift hxn2 c_220
                    refine lv_iconst (v := nI (1)) hx hb dX7_readsOrder_223 (by decide) ?_
                    refine lv_goto (tgt := 228) hx hb dX7_readsOrder_224 (by decide) ?_
                    refine lv_istore_n (lv' := [(1, .int (nI (1))), (0, .ref (fa_B G + (397)))]) hx hb dX7_readsOrder_228 rfl hl (by decide) rfl (fun ls hl => ?_)
                    refine lv_goto (tgt := 259) hx hb dX7_readsOrder_229 (by decide) ?_
                    refine lv_aload_n hx hb dX7_readsOrder_259 rfl (lv_at hl 1 rfl) ?_
                    refine lv_dup hx hb dX7_readsOrder_260 rfl ?_
                    refine fa_geti (k := 397) CX HX2435 fl_X7_141 (by omega) rfl rfl dX7_readsOrder_261 ?_
                    rw [show v2434 397 11 = nI (no) from (go_x2433.trans (congrArg nI ho_x2433.e))]
                    refine lv_iload_n hx hb dX7_readsOrder_264 rfl (lv_at hl 0 rfl) ?_
                    refine lv_if_eq (tgt := 272) hx hb dX7_readsOrder_265 (by decide) (fun c_265 => ?_) (fun c_265 => ?_)
                    · exact absurd c_265 (by try decide)
                    · refine lv_iconst (v := nI (1)) hx hb dX7_readsOrder_268 (by decide) ?_
                      refine lv_goto (tgt := 273) hx hb dX7_readsOrder_269 (by decide) ?_
                      refine fa_iaddN hx hb dX7_readsOrder_273 ?_
                      refine fa_puti (k := 397) CX HX2435 fl_X7_141 (by omega) rfl rfl rfl rfl dX7_readsOrder_274 (fun H locs v2439 e2440 HX2441 => ?_)
                      refine lv_iload_n hx hb dX7_readsOrder_277 rfl (lv_at hl 0 rfl) ?_
                      exact RET _ _ _ _ _ _ _ HX2441 dX7_readsOrder_278 (by decide) (⟨rfl, ⟨⟨(by rw [((fa_ord_f hS102).trans (fa_two_y hn1 hmn1.e hcm hn2))]; exact rfl), m_x2433, no + 1, ⟨by omega, by omega, (by have hfx := (show na + 2 ≤ m_x2433 from by have z := (fa_ord_le (t := t) hna).2.2; rw [((fa_ord_f hS102).trans (fa_two_y hn1 hmn1.e hcm hn2))] at z; rw [hmn2.e]; exact z rfl); omega), fa_is.mk (by rw [((fa_ord_f hS102).trans (fa_two_y hn1 hmn1.e hcm hn2))]; exact hmn2.e), fa_is.mk (by rw [((fa_ord_f hS102).trans (fa_two_y hn1 hmn1.e hcm hn2))]; exact (show no + 1 = no + 1 by omega))⟩, (show v2439 397 12 = nI (m_x2433) from (by rw [e2440, fa_u_n _ _ (by omega)]; exact gm_x2433)), (show v2439 397 11 = nI (no + 1) from (by rw [e2440, fa_u_s])), (show fa_f3 v v2439 from (by rw [e2440]; exact fa_f3.w (fa_f3.tr (fa_f3.tr (fa_f3.tr (fa_f3.tr (fa_f3.tr (fa_f3.tr (fa_f3.tr (fa_f3.tr (by rw [e2355]; exact fa_f3.u (by rw [e2206]; exact fa_f3.u fa_f3.rf)) hf_x2358) hf_x2362) hf_x2366) hf_x2394) hf_x2398) hf_x2419) hf_x2426) hf_x2433) (by decide))), (by rw [((fa_ord_f hS102).trans (fa_two_y hn1 hmn1.e hcm hn2))]; exact ⟨(fun i hi => (by show v2439 403 i = _; rw [e2440, fa_u_k _ _ (by decide), hr_x2433.2 i (by omega), hr_x2426, hr_x2419.2 i (by omega), hr_x2398, hr_x2394, hr_x2366, hr_x2362, hr_x2358]; exact hA i hi)), (by show v2439 403 (4 * no) = _; rw [e2440, fa_u_k _ _ (by decide), hr_x2433.2 (4 * no) (by omega), hr_x2426, hr_x2419.2 (4 * no) (by omega), hr_x2398, hr_x2394, hr_x2366, hr_x2362, hr_x2358]; exact hB), (by show v2439 403 (4 * no + 1) = _; rw [e2440, fa_u_k _ _ (by decide), hr_x2433.2 (4 * no + 1) (by omega), hr_x2426, hr_x2419.2 (4 * no + 1) (by omega), hr_x2398, hr_x2394, hr_x2366, hr_x2362, hr_x2358]; exact hC), (fun _ => ⟨(by show v2439 403 (4 * no + 2) = _; rw [e2440, fa_u_k _ _ (by decide), hr_x2433.2 (4 * no + 2) (by omega), hr_x2426]; exact hr_x2419.1 hn1), (fun _ _ => (by show v2439 403 (4 * no + 3) = _; rw [e2440, fa_u_k _ _ (by decide)]; exact hr_x2433.1 hn2))⟩)⟩)⟩, (by rw [e2440]; exact fa_fr.u (fa_fr.tr (fa_fr.tr (fa_fr.tr (fa_fr.tr (fa_fr.tr (fa_fr.tr (fa_fr.tr (fa_fr.tr (by rw [e2355]; exact fa_fr.u (by rw [e2206]; exact fa_fr.u fa_fr.rf (by omega)) (by omega)) (fa_fr.wide h2357.2 (by omega) (by omega))) (fa_fr.wide h2361.2 (by omega) (by omega))) (fa_fr.wide h2365.2 (by omega) (by omega))) (fa_fr.wide h2393.2 (by omega) (by omega))) (fa_fr.wide h2397.2 (by omega) (by omega))) (fa_fr.wide h2418.2 (by omega) (by omega))) (fa_fr.wide h2425.2 (by omega) (by omega))) (fa_fr.wide h2432.2 (by omega) (by omega))) (by omega))⟩⟩)
          · have hS108 : fa_sg t n9 na = (108 : Int32) := fa_ift hxa c_137
            have hp108 := hma.e.trans (fa_acc_t hS108)
            have hlt : na < n9 := fa_sg_nz hS108 (by decide)
            clear ha_x2394 hc_x2394 hd_x2394
            refine lv_aload_n hx hb dX7_readsOrder_140 rfl (lv_at hl 0 rfl) ?_
            refine lv_iconst (v := nI (2)) hx hb dX7_readsOrder_141 (by decide) ?_
            refine lv_iconst (v := nI (0)) hx hb dX7_readsOrder_142 (by decide) ?_
            refine lv_bipush (v := nI (7)) hx hb dX7_readsOrder_143 (by decide) ?_
            refine fa_callViu (As := [.int (nI (2)), .int (nI (0)), .int (nI (7))]) (rest := []) CX HX2396 (r_number l G n hn v2395 r hM (n9) (na + 1) (no) (by omega) (by omega) (by omega) ((hf_x2394.2 9 (by decide) (by decide)).trans ((hf_x2366.2 9 (by decide) (by decide)).trans ((hf_x2362.2 9 (by decide) (by decide)).trans ((hf_x2358.2 9 (by decide) (by decide)).trans (by rw [e2355, fa_u_n _ _ (by omega)]; exact (by rw [e2206, fa_u_n _ _ (by omega)]; exact g9)))))) ((gm_x2394).trans (congrArg nI hp108)) (go_x2394.trans (congrArg nI ho_x2394.e)) t ((h2393.2 405 (by omega)).trans ((h2365.2 405 (by omega)).trans ((h2361.2 405 (by omega)).trans ((h2357.2 405 (by omega)).trans (((congrFun e2355 405).trans (fa_u_k _ _ (by decide))).trans (((congrFun e2206 405).trans (fa_u_k _ _ (by decide))).trans h5)))))) (2) (nI (0)) (nI (7)) (by omega) ⟨0, by decide, rfl⟩ ⟨7, by decide, rfl⟩) ln_X7_148 (by omega) rfl rfl rfl rfl (Nat.le_of_ble_eq_true rfl) hl.1 ⟨Nat.le_of_ble_eq_true rfl, Nat.le_of_ble_eq_true rfl⟩ ⟨Nat.le_refl _, Nat.le_refl _⟩ dX7_readsOrder_145 (fun x2443 v2444 H locs h2442 HX2445 => ?_)
            obtain ⟨hx_x2443, m_x2443, o_x2443, ⟨ha_x2443, hc_x2443, hd_x2443, hm_x2443, ho_x2443⟩, gm_x2443, go_x2443, hf_x2443, hr_x2443⟩ := h2442.1
            have hxn1 := hx_x2443
            have hmn1 := hm_x2443
            refine lv_if_eq (tgt := 176) hx hb dX7_readsOrder_148 (by decide) (fun c_148 => ?_) (fun c_148 => ?_)
            · have hn1 := fa_ifn hxn1 c_148
              refine lv_iconst (v := nI (0)) hx hb dX7_readsOrder_176 (by decide) ?_
              refine lv_istore_n (lv' := [(1, .int (nI (0))), (0, .ref (fa_B G + (397)))]) hx hb dX7_readsOrder_177 rfl hl (by decide) rfl (fun ls hl => ?_)
              refine lv_goto (tgt := 259) hx hb dX7_readsOrder_178 (by decide) ?_
              refine lv_aload_n hx hb dX7_readsOrder_259 rfl (lv_at hl 1 rfl) ?_
              refine lv_dup hx hb dX7_readsOrder_260 rfl ?_
              refine fa_geti (k := 397) CX HX2445 fl_X7_141 (by omega) rfl rfl dX7_readsOrder_261 ?_
              rw [show v2444 397 11 = nI (no) from (go_x2443.trans (congrArg nI ho_x2443.e))]
              refine lv_iload_n hx hb dX7_readsOrder_264 rfl (lv_at hl 0 rfl) ?_
              refine lv_if_eq (tgt := 272) hx hb dX7_readsOrder_265 (by decide) (fun c_265 => ?_) (fun c_265 => ?_)
              · refine lv_iconst (v := nI (0)) hx hb dX7_readsOrder_272 (by decide) ?_
                refine fa_iaddN hx hb dX7_readsOrder_273 ?_
                refine fa_puti (k := 397) CX HX2445 fl_X7_141 (by omega) rfl rfl rfl rfl dX7_readsOrder_274 (fun H locs v2446 e2447 HX2448 => ?_)
                refine lv_iload_n hx hb dX7_readsOrder_277 rfl (lv_at hl 0 rfl) ?_
                exact RET _ _ _ _ _ _ _ HX2448 dX7_readsOrder_278 (by decide) (⟨rfl, ⟨⟨(by rw [((fa_ord_s (Or.inr hS108)).trans (fa_two_f hn1))]; exact rfl), m_x2443, no + 0, ⟨by omega, by omega, by omega, fa_is.mk (by rw [((fa_ord_s (Or.inr hS108)).trans (fa_two_f hn1))]; exact hmn1.e), fa_is.mk (by rw [((fa_ord_s (Or.inr hS108)).trans (fa_two_f hn1))]; exact (show no + 0 = no by omega))⟩, (show v2446 397 12 = nI (m_x2443) from (by rw [e2447, fa_u_n _ _ (by omega)]; exact gm_x2443)), (show v2446 397 11 = nI (no + 0) from (by rw [e2447, fa_u_s])), (show fa_f3 v v2446 from (by rw [e2447]; exact fa_f3.w (fa_f3.tr (fa_f3.tr (fa_f3.tr (fa_f3.tr (fa_f3.tr (by rw [e2355]; exact fa_f3.u (by rw [e2206]; exact fa_f3.u fa_f3.rf)) hf_x2358) hf_x2362) hf_x2366) hf_x2394) hf_x2443) (by decide))), (by rw [((fa_ord_s (Or.inr hS108)).trans (fa_two_f hn1))]; exact ⟨(fun i hi => (by show v2446 403 i = _; rw [e2447, fa_u_k _ _ (by decide), hr_x2443.2 i (by omega), hr_x2394, hr_x2366, hr_x2362, hr_x2358]; exact hA i hi)), (by show v2446 403 (4 * no) = _; rw [e2447, fa_u_k _ _ (by decide), hr_x2443.2 (4 * no) (by omega), hr_x2394, hr_x2366, hr_x2362, hr_x2358]; exact hB), (by show v2446 403 (4 * no + 1) = _; rw [e2447, fa_u_k _ _ (by decide), hr_x2443.2 (4 * no + 1) (by omega), hr_x2394, hr_x2366, hr_x2362, hr_x2358]; exact hC), (fun z => absurd (show false = true from z) (by decide))⟩)⟩, (by rw [e2447]; exact fa_fr.u (fa_fr.tr (fa_fr.tr (fa_fr.tr (fa_fr.tr (fa_fr.tr (by rw [e2355]; exact fa_fr.u (by rw [e2206]; exact fa_fr.u fa_fr.rf (by omega)) (by omega)) (fa_fr.wide h2357.2 (by omega) (by omega))) (fa_fr.wide h2361.2 (by omega) (by omega))) (fa_fr.wide h2365.2 (by omega) (by omega))) (fa_fr.wide h2393.2 (by omega) (by omega))) (fa_fr.wide h2442.2 (by omega) (by omega))) (by omega))⟩⟩)
              · exact absurd (by try decide) c_265
            · have hn1 := fa_ift hxn1 c_148
              refine lv_aload_n hx hb dX7_readsOrder_151 rfl (lv_at hl 0 rfl) ?_
              refine lv_bipush (v := nI (44)) hx hb dX7_readsOrder_152 (by decide) ?_
              refine fa_callViu (As := [.int (nI (44))]) (rest := []) CX HX2445 (r_accepts l G n hn v2444 r hM (n9) (m_x2443) (no) (by omega) (by omega) (by omega) ((hf_x2443.2 9 (by decide) (by decide)).trans ((hf_x2394.2 9 (by decide) (by decide)).trans ((hf_x2366.2 9 (by decide) (by decide)).trans ((hf_x2362.2 9 (by decide) (by decide)).trans ((hf_x2358.2 9 (by decide) (by decide)).trans (by rw [e2355, fa_u_n _ _ (by omega)]; exact (by rw [e2206, fa_u_n _ _ (by omega)]; exact g9))))))) gm_x2443 (go_x2443.trans (congrArg nI ho_x2443.e)) t ((h2442.2 405 (by omega)).trans ((h2393.2 405 (by omega)).trans ((h2365.2 405 (by omega)).trans ((h2361.2 405 (by omega)).trans ((h2357.2 405 (by omega)).trans (((congrFun e2355 405).trans (fa_u_k _ _ (by decide))).trans (((congrFun e2206 405).trans (fa_u_k _ _ (by decide))).trans h5))))))) (nI (44)) (by decide)) ln_X7_144 (by omega) rfl rfl rfl rfl (Nat.le_of_ble_eq_true rfl) hl.1 ⟨Nat.le_of_ble_eq_true rfl, Nat.le_of_ble_eq_true rfl⟩ ⟨Nat.le_refl _, Nat.le_refl _⟩ dX7_readsOrder_154 (fun x2450 v2451 H locs h2449 HX2452 => ?_)
              obtain ⟨hx_x2450, m_x2450, o_x2450, ⟨ha_x2450, hc_x2450, hd_x2450, hm_x2450, ho_x2450⟩, gm_x2450, go_x2450, hf_x2450, hr_x2450⟩ := h2449.1
              have hxc := hx_x2450
              have hmc := hm_x2450
              refine lv_if_eq (tgt := 176) hx hb dX7_readsOrder_157 (by decide) (fun c_157 => ?_) (fun c_157 => ?_)
              · have hcm := fa_ifn hxc c_157
                have hpc := hmc.e.trans (fa_acc_f hcm)
                refine lv_iconst (v := nI (0)) hx hb dX7_readsOrder_176 (by decide) ?_
                refine lv_istore_n (lv' := [(1, .int (nI (0))), (0, .ref (fa_B G + (397)))]) hx hb dX7_readsOrder_177 rfl hl (by decide) rfl (fun ls hl => ?_)
                refine lv_goto (tgt := 259) hx hb dX7_readsOrder_178 (by decide) ?_
                refine lv_aload_n hx hb dX7_readsOrder_259 rfl (lv_at hl 1 rfl) ?_
                refine lv_dup hx hb dX7_readsOrder_260 rfl ?_
                refine fa_geti (k := 397) CX HX2452 fl_X7_141 (by omega) rfl rfl dX7_readsOrder_261 ?_
                rw [show v2451 397 11 = nI (no) from (go_x2450.trans (congrArg nI ho_x2450.e))]
                refine lv_iload_n hx hb dX7_readsOrder_264 rfl (lv_at hl 0 rfl) ?_
                refine lv_if_eq (tgt := 272) hx hb dX7_readsOrder_265 (by decide) (fun c_265 => ?_) (fun c_265 => ?_)
                · refine lv_iconst (v := nI (0)) hx hb dX7_readsOrder_272 (by decide) ?_
                  refine fa_iaddN hx hb dX7_readsOrder_273 ?_
                  refine fa_puti (k := 397) CX HX2452 fl_X7_141 (by omega) rfl rfl rfl rfl dX7_readsOrder_274 (fun H locs v2453 e2454 HX2455 => ?_)
                  refine lv_iload_n hx hb dX7_readsOrder_277 rfl (lv_at hl 0 rfl) ?_
                  exact RET _ _ _ _ _ _ _ HX2455 dX7_readsOrder_278 (by decide) (⟨rfl, ⟨⟨(by rw [((fa_ord_s (Or.inr hS108)).trans (fa_two_c hn1 hmn1.e hcm))]; exact rfl), m_x2443, no + 0, ⟨by omega, by omega, by omega, fa_is.mk (by rw [((fa_ord_s (Or.inr hS108)).trans (fa_two_c hn1 hmn1.e hcm))]), fa_is.mk (by rw [((fa_ord_s (Or.inr hS108)).trans (fa_two_c hn1 hmn1.e hcm))]; exact (show no + 0 = no by omega))⟩, (show v2453 397 12 = nI (m_x2443) from (by rw [e2454, fa_u_n _ _ (by omega)]; exact ((gm_x2450).trans (congrArg nI hpc)))), (show v2453 397 11 = nI (no + 0) from (by rw [e2454, fa_u_s])), (show fa_f3 v v2453 from (by rw [e2454]; exact fa_f3.w (fa_f3.tr (fa_f3.tr (fa_f3.tr (fa_f3.tr (fa_f3.tr (fa_f3.tr (by rw [e2355]; exact fa_f3.u (by rw [e2206]; exact fa_f3.u fa_f3.rf)) hf_x2358) hf_x2362) hf_x2366) hf_x2394) hf_x2443) hf_x2450) (by decide))), (by rw [((fa_ord_s (Or.inr hS108)).trans (fa_two_c hn1 hmn1.e hcm))]; exact ⟨(fun i hi => (by show v2453 403 i = _; rw [e2454, fa_u_k _ _ (by decide), hr_x2450, hr_x2443.2 i (by omega), hr_x2394, hr_x2366, hr_x2362, hr_x2358]; exact hA i hi)), (by show v2453 403 (4 * no) = _; rw [e2454, fa_u_k _ _ (by decide), hr_x2450, hr_x2443.2 (4 * no) (by omega), hr_x2394, hr_x2366, hr_x2362, hr_x2358]; exact hB), (by show v2453 403 (4 * no + 1) = _; rw [e2454, fa_u_k _ _ (by decide), hr_x2450, hr_x2443.2 (4 * no + 1) (by omega), hr_x2394, hr_x2366, hr_x2362, hr_x2358]; exact hC), (fun z => absurd (show false = true from z) (by decide))⟩)⟩, (by rw [e2454]; exact fa_fr.u (fa_fr.tr (fa_fr.tr (fa_fr.tr (fa_fr.tr (fa_fr.tr (fa_fr.tr (by rw [e2355]; exact fa_fr.u (by rw [e2206]; exact fa_fr.u fa_fr.rf (by omega)) (by omega)) (fa_fr.wide h2357.2 (by omega) (by omega))) (fa_fr.wide h2361.2 (by omega) (by omega))) (fa_fr.wide h2365.2 (by omega) (by omega))) (fa_fr.wide h2393.2 (by omega) (by omega))) (fa_fr.wide h2442.2 (by omega) (by omega))) (fa_fr.wide h2449.2 (by omega) (by omega))) (by omega))⟩⟩)
                · exact absurd (by try decide) c_265
              · have hcm := fa_ift hxc c_157
                have hpc := hmc.e.trans (fa_acc_t hcm)
                refine lv_aload_n hx hb dX7_readsOrder_160 rfl (lv_at hl 0 rfl) ?_
                refine lv_iconst (v := nI (3)) hx hb dX7_readsOrder_161 (by decide) ?_
                refine lv_iconst (v := nI (0)) hx hb dX7_readsOrder_162 (by decide) ?_
                refine lv_sipush (v := nI (199)) hx hb dX7_readsOrder_163 (by decide) ?_
                refine fa_callViu (As := [.int (nI (3)), .int (nI (0)), .int (nI (199))]) (rest := []) CX HX2452 (r_number l G n hn v2451 r hM (n9) (m_x2443 + 1) (no) (by omega) (by omega) (by omega) ((hf_x2450.2 9 (by decide) (by decide)).trans ((hf_x2443.2 9 (by decide) (by decide)).trans ((hf_x2394.2 9 (by decide) (by decide)).trans ((hf_x2366.2 9 (by decide) (by decide)).trans ((hf_x2362.2 9 (by decide) (by decide)).trans ((hf_x2358.2 9 (by decide) (by decide)).trans (by rw [e2355, fa_u_n _ _ (by omega)]; exact (by rw [e2206, fa_u_n _ _ (by omega)]; exact g9)))))))) ((gm_x2450).trans (congrArg nI hpc)) (go_x2450.trans (congrArg nI ho_x2450.e)) t ((h2449.2 405 (by omega)).trans ((h2442.2 405 (by omega)).trans ((h2393.2 405 (by omega)).trans ((h2365.2 405 (by omega)).trans ((h2361.2 405 (by omega)).trans ((h2357.2 405 (by omega)).trans (((congrFun e2355 405).trans (fa_u_k _ _ (by decide))).trans (((congrFun e2206 405).trans (fa_u_k _ _ (by decide))).trans h5)))))))) (3) (nI (0)) (nI (199)) (by omega) ⟨0, by decide, rfl⟩ ⟨199, by decide, rfl⟩) ln_X7_148 (by omega) rfl rfl rfl rfl (Nat.le_of_ble_eq_true rfl) hl.1 ⟨Nat.le_of_ble_eq_true rfl, Nat.le_of_ble_eq_true rfl⟩ ⟨Nat.le_refl _, Nat.le_refl _⟩ dX7_readsOrder_166 (fun x2457 v2458 H locs h2456 HX2459 => ?_)
                obtain ⟨hx_x2457, m_x2457, o_x2457, ⟨ha_x2457, hc_x2457, hd_x2457, hm_x2457, ho_x2457⟩, gm_x2457, go_x2457, hf_x2457, hr_x2457⟩ := h2456.1
                have hxn2 := hx_x2457
                have hmn2 := hm_x2457
                refine lv_if_eq (tgt := 176) hx hb dX7_readsOrder_169 (by decide) (fun c_169 => ?_) (fun c_169 => ?_)
                · have hn2 := fa_ifn hxn2 c_169
                  refine lv_iconst (v := nI (0)) hx hb dX7_readsOrder_176 (by decide) ?_
                  refine lv_istore_n (lv' := [(1, .int (nI (0))), (0, .ref (fa_B G + (397)))]) hx hb dX7_readsOrder_177 rfl hl (by decide) rfl (fun ls hl => ?_)
                  refine lv_goto (tgt := 259) hx hb dX7_readsOrder_178 (by decide) ?_
                  refine lv_aload_n hx hb dX7_readsOrder_259 rfl (lv_at hl 1 rfl) ?_
                  refine lv_dup hx hb dX7_readsOrder_260 rfl ?_
                  refine fa_geti (k := 397) CX HX2459 fl_X7_141 (by omega) rfl rfl dX7_readsOrder_261 ?_
                  rw [show v2458 397 11 = nI (no) from (go_x2457.trans (congrArg nI ho_x2457.e))]
                  refine lv_iload_n hx hb dX7_readsOrder_264 rfl (lv_at hl 0 rfl) ?_
                  refine lv_if_eq (tgt := 272) hx hb dX7_readsOrder_265 (by decide) (fun c_265 => ?_) (fun c_265 => ?_)
                  · refine lv_iconst (v := nI (0)) hx hb dX7_readsOrder_272 (by decide) ?_
                    refine fa_iaddN hx hb dX7_readsOrder_273 ?_
                    refine fa_puti (k := 397) CX HX2459 fl_X7_141 (by omega) rfl rfl rfl rfl dX7_readsOrder_274 (fun H locs v2460 e2461 HX2462 => ?_)
                    refine lv_iload_n hx hb dX7_readsOrder_277 rfl (lv_at hl 0 rfl) ?_
                    exact RET _ _ _ _ _ _ _ HX2462 dX7_readsOrder_278 (by decide) (⟨rfl, ⟨⟨(by rw [((fa_ord_s (Or.inr hS108)).trans (fa_two_n hn1 hmn1.e hcm hn2))]; exact rfl), m_x2457, no + 0, ⟨by omega, by omega, by omega, fa_is.mk (by rw [((fa_ord_s (Or.inr hS108)).trans (fa_two_n hn1 hmn1.e hcm hn2))]; exact hmn2.e), fa_is.mk (by rw [((fa_ord_s (Or.inr hS108)).trans (fa_two_n hn1 hmn1.e hcm hn2))]; exact (show no + 0 = no by omega))⟩, (show v2460 397 12 = nI (m_x2457) from (by rw [e2461, fa_u_n _ _ (by omega)]; exact gm_x2457)), (show v2460 397 11 = nI (no + 0) from (by rw [e2461, fa_u_s])), (show fa_f3 v v2460 from (by rw [e2461]; exact fa_f3.w (fa_f3.tr (fa_f3.tr (fa_f3.tr (fa_f3.tr (fa_f3.tr (fa_f3.tr (fa_f3.tr (by rw [e2355]; exact fa_f3.u (by rw [e2206]; exact fa_f3.u fa_f3.rf)) hf_x2358) hf_x2362) hf_x2366) hf_x2394) hf_x2443) hf_x2450) hf_x2457) (by decide))), (by rw [((fa_ord_s (Or.inr hS108)).trans (fa_two_n hn1 hmn1.e hcm hn2))]; exact ⟨(fun i hi => (by show v2460 403 i = _; rw [e2461, fa_u_k _ _ (by decide), hr_x2457.2 i (by omega), hr_x2450, hr_x2443.2 i (by omega), hr_x2394, hr_x2366, hr_x2362, hr_x2358]; exact hA i hi)), (by show v2460 403 (4 * no) = _; rw [e2461, fa_u_k _ _ (by decide), hr_x2457.2 (4 * no) (by omega), hr_x2450, hr_x2443.2 (4 * no) (by omega), hr_x2394, hr_x2366, hr_x2362, hr_x2358]; exact hB), (by show v2460 403 (4 * no + 1) = _; rw [e2461, fa_u_k _ _ (by decide), hr_x2457.2 (4 * no + 1) (by omega), hr_x2450, hr_x2443.2 (4 * no + 1) (by omega), hr_x2394, hr_x2366, hr_x2362, hr_x2358]; exact hC), (fun z => absurd (show false = true from z) (by decide))⟩)⟩, (by rw [e2461]; exact fa_fr.u (fa_fr.tr (fa_fr.tr (fa_fr.tr (fa_fr.tr (fa_fr.tr (fa_fr.tr (fa_fr.tr (by rw [e2355]; exact fa_fr.u (by rw [e2206]; exact fa_fr.u fa_fr.rf (by omega)) (by omega)) (fa_fr.wide h2357.2 (by omega) (by omega))) (fa_fr.wide h2361.2 (by omega) (by omega))) (fa_fr.wide h2365.2 (by omega) (by omega))) (fa_fr.wide h2393.2 (by omega) (by omega))) (fa_fr.wide h2442.2 (by omega) (by omega))) (fa_fr.wide h2449.2 (by omega) (by omega))) (fa_fr.wide h2456.2 (by omega) (by omega))) (by omega))⟩⟩)
                  · exact absurd (by try decide) c_265
                · have hn2 := fa_ift hxn2 c_169
                  refine lv_iconst (v := nI (1)) hx hb dX7_readsOrder_172 (by decide) ?_
                  refine lv_goto (tgt := 177) hx hb dX7_readsOrder_173 (by decide) ?_
                  refine lv_istore_n (lv' := [(1, .int (nI (1))), (0, .ref (fa_B G + (397)))]) hx hb dX7_readsOrder_177 rfl hl (by decide) rfl (fun ls hl => ?_)
                  refine lv_goto (tgt := 259) hx hb dX7_readsOrder_178 (by decide) ?_
                  refine lv_aload_n hx hb dX7_readsOrder_259 rfl (lv_at hl 1 rfl) ?_
                  refine lv_dup hx hb dX7_readsOrder_260 rfl ?_
                  refine fa_geti (k := 397) CX HX2459 fl_X7_141 (by omega) rfl rfl dX7_readsOrder_261 ?_
                  rw [show v2458 397 11 = nI (no) from (go_x2457.trans (congrArg nI ho_x2457.e))]
                  refine lv_iload_n hx hb dX7_readsOrder_264 rfl (lv_at hl 0 rfl) ?_
                  refine lv_if_eq (tgt := 272) hx hb dX7_readsOrder_265 (by decide) (fun c_265 => ?_) (fun c_265 => ?_)
                  · exact absurd c_265 (by try decide)
                  · refine lv_iconst (v := nI (1)) hx hb dX7_readsOrder_268 (by decide) ?_
                    refine lv_goto (tgt := 273) hx hb dX7_readsOrder_269 (by decide) ?_
                    refine fa_iaddN hx hb dX7_readsOrder_273 ?_
                    refine fa_puti (k := 397) CX HX2459 fl_X7_141 (by omega) rfl rfl rfl rfl dX7_readsOrder_274 (fun H locs v2463 e2464 HX2465 => ?_)
                    refine lv_iload_n hx hb dX7_readsOrder_277 rfl (lv_at hl 0 rfl) ?_
                    exact RET _ _ _ _ _ _ _ HX2465 dX7_readsOrder_278 (by decide) (⟨rfl, ⟨⟨(by rw [((fa_ord_s (Or.inr hS108)).trans (fa_two_y hn1 hmn1.e hcm hn2))]; exact rfl), m_x2457, no + 1, ⟨by omega, by omega, (by have hfx := (show na + 2 ≤ m_x2457 from by have z := (fa_ord_le (t := t) hna).2.2; rw [((fa_ord_s (Or.inr hS108)).trans (fa_two_y hn1 hmn1.e hcm hn2))] at z; rw [hmn2.e]; exact z rfl); omega), fa_is.mk (by rw [((fa_ord_s (Or.inr hS108)).trans (fa_two_y hn1 hmn1.e hcm hn2))]; exact hmn2.e), fa_is.mk (by rw [((fa_ord_s (Or.inr hS108)).trans (fa_two_y hn1 hmn1.e hcm hn2))]; exact (show no + 1 = no + 1 by omega))⟩, (show v2463 397 12 = nI (m_x2457) from (by rw [e2464, fa_u_n _ _ (by omega)]; exact gm_x2457)), (show v2463 397 11 = nI (no + 1) from (by rw [e2464, fa_u_s])), (show fa_f3 v v2463 from (by rw [e2464]; exact fa_f3.w (fa_f3.tr (fa_f3.tr (fa_f3.tr (fa_f3.tr (fa_f3.tr (fa_f3.tr (fa_f3.tr (by rw [e2355]; exact fa_f3.u (by rw [e2206]; exact fa_f3.u fa_f3.rf)) hf_x2358) hf_x2362) hf_x2366) hf_x2394) hf_x2443) hf_x2450) hf_x2457) (by decide))), (by rw [((fa_ord_s (Or.inr hS108)).trans (fa_two_y hn1 hmn1.e hcm hn2))]; exact ⟨(fun i hi => (by show v2463 403 i = _; rw [e2464, fa_u_k _ _ (by decide), hr_x2457.2 i (by omega), hr_x2450, hr_x2443.2 i (by omega), hr_x2394, hr_x2366, hr_x2362, hr_x2358]; exact hA i hi)), (by show v2463 403 (4 * no) = _; rw [e2464, fa_u_k _ _ (by decide), hr_x2457.2 (4 * no) (by omega), hr_x2450, hr_x2443.2 (4 * no) (by omega), hr_x2394, hr_x2366, hr_x2362, hr_x2358]; exact hB), (by show v2463 403 (4 * no + 1) = _; rw [e2464, fa_u_k _ _ (by decide), hr_x2457.2 (4 * no + 1) (by omega), hr_x2450, hr_x2443.2 (4 * no + 1) (by omega), hr_x2394, hr_x2366, hr_x2362, hr_x2358]; exact hC), (fun _ => ⟨(by show v2463 403 (4 * no + 2) = _; rw [e2464, fa_u_k _ _ (by decide), hr_x2457.2 (4 * no + 2) (by omega), hr_x2450]; exact hr_x2443.1 hn1), (fun _ _ => (by show v2463 403 (4 * no + 3) = _; rw [e2464, fa_u_k _ _ (by decide)]; exact hr_x2457.1 hn2))⟩)⟩)⟩, (by rw [e2464]; exact fa_fr.u (fa_fr.tr (fa_fr.tr (fa_fr.tr (fa_fr.tr (fa_fr.tr (fa_fr.tr (fa_fr.tr (by rw [e2355]; exact fa_fr.u (by rw [e2206]; exact fa_fr.u fa_fr.rf (by omega)) (by omega)) (fa_fr.wide h2357.2 (by omega) (by omega))) (fa_fr.wide h2361.2 (by omega) (by omega))) (fa_fr.wide h2365.2 (by omega) (by omega))) (fa_fr.wide h2393.2 (by omega) (by omega))) (fa_fr.wide h2442.2 (by omega) (by omega))) (fa_fr.wide h2449.2 (by omega) (by omega))) (fa_fr.wide h2456.2 (by omega) (by omega))) (by omega))⟩⟩)
      · have hS97 : fa_sg t n9 na = (97 : Int32) := fa_ift hxa c_106
        have hp97 := hma.e.trans (fa_acc_t hS97)
        have hlt : na < n9 := fa_sg_nz hS97 (by decide)
        clear ha_x2362 hc_x2362 hd_x2362
        refine lv_aload_n hx hb dX7_readsOrder_109 rfl (lv_at hl 0 rfl) ?_
        refine lv_iconst (v := nI (2)) hx hb dX7_readsOrder_110 (by decide) ?_
        refine lv_iconst (v := nI (0)) hx hb dX7_readsOrder_111 (by decide) ?_
        refine lv_sipush (v := nI (199)) hx hb dX7_readsOrder_112 (by decide) ?_
        refine fa_callViu (As := [.int (nI (2)), .int (nI (0)), .int (nI (199))]) (rest := []) CX HX2364 (r_number l G n hn v2363 r hM (n9) (na + 1) (no) (by omega) (by omega) (by omega) ((hf_x2362.2 9 (by decide) (by decide)).trans ((hf_x2358.2 9 (by decide) (by decide)).trans (by rw [e2355, fa_u_n _ _ (by omega)]; exact (by rw [e2206, fa_u_n _ _ (by omega)]; exact g9)))) ((gm_x2362).trans (congrArg nI hp97)) (go_x2362.trans (congrArg nI ho_x2362.e)) t ((h2361.2 405 (by omega)).trans ((h2357.2 405 (by omega)).trans (((congrFun e2355 405).trans (fa_u_k _ _ (by decide))).trans (((congrFun e2206 405).trans (fa_u_k _ _ (by decide))).trans h5)))) (2) (nI (0)) (nI (199)) (by omega) ⟨0, by decide, rfl⟩ ⟨199, by decide, rfl⟩) ln_X7_148 (by omega) rfl rfl rfl rfl (Nat.le_of_ble_eq_true rfl) hl.1 ⟨Nat.le_of_ble_eq_true rfl, Nat.le_of_ble_eq_true rfl⟩ ⟨Nat.le_refl _, Nat.le_refl _⟩ dX7_readsOrder_115 (fun x2467 v2468 H locs h2466 HX2469 => ?_)
        obtain ⟨hx_x2467, m_x2467, o_x2467, ⟨ha_x2467, hc_x2467, hd_x2467, hm_x2467, ho_x2467⟩, gm_x2467, go_x2467, hf_x2467, hr_x2467⟩ := h2466.1
        have hxn1 := hx_x2467
        have hmn1 := hm_x2467
        refine lv_istore_n (lv' := [(1, .int (x2467)), (0, .ref (fa_B G + (397)))]) hx hb dX7_readsOrder_118 rfl hl (by decide) rfl (fun ls hl => ?_)
        refine lv_goto (tgt := 259) hx hb dX7_readsOrder_119 (by decide) ?_
        refine lv_aload_n hx hb dX7_readsOrder_259 rfl (lv_at hl 1 rfl) ?_
        refine lv_dup hx hb dX7_readsOrder_260 rfl ?_
        refine fa_geti (k := 397) CX HX2469 fl_X7_141 (by omega) rfl rfl dX7_readsOrder_261 ?_
        rw [show v2468 397 11 = nI (no) from (go_x2467.trans (congrArg nI ho_x2467.e))]
        refine lv_iload_n hx hb dX7_readsOrder_264 rfl (lv_at hl 0 rfl) ?_
        refine lv_if_eq (tgt := 272) hx hb dX7_readsOrder_265 (by decide) (fun c_265 => ?_) (fun c_265 => ?_)
        · have hn1 := fa_ifn hxn1 c_265
          refine lv_iconst (v := nI (0)) hx hb dX7_readsOrder_272 (by decide) ?_
          refine fa_iaddN hx hb dX7_readsOrder_273 ?_
          refine fa_puti (k := 397) CX HX2469 fl_X7_141 (by omega) rfl rfl rfl rfl dX7_readsOrder_274 (fun H locs v2470 e2471 HX2472 => ?_)
          refine lv_iload_n hx hb dX7_readsOrder_277 rfl (lv_at hl 0 rfl) ?_
          exact RET _ _ _ _ _ _ _ HX2472 dX7_readsOrder_278 (fa_if_nar hxn1) (⟨rfl, ⟨⟨(by rw [((fa_ord_a hS97).trans (fa_one_f hn1))]; exact (hxn1.trans (if_neg hn1))), m_x2467, no + 0, ⟨by omega, by omega, by omega, fa_is.mk (by rw [((fa_ord_a hS97).trans (fa_one_f hn1))]; exact hmn1.e), fa_is.mk (by rw [((fa_ord_a hS97).trans (fa_one_f hn1))]; exact (show no + 0 = no by omega))⟩, (show v2470 397 12 = nI (m_x2467) from (by rw [e2471, fa_u_n _ _ (by omega)]; exact gm_x2467)), (show v2470 397 11 = nI (no + 0) from (by rw [e2471, fa_u_s])), (show fa_f3 v v2470 from (by rw [e2471]; exact fa_f3.w (fa_f3.tr (fa_f3.tr (fa_f3.tr (by rw [e2355]; exact fa_f3.u (by rw [e2206]; exact fa_f3.u fa_f3.rf)) hf_x2358) hf_x2362) hf_x2467) (by decide))), (by rw [((fa_ord_a hS97).trans (fa_one_f hn1))]; exact ⟨(fun i hi => (by show v2470 403 i = _; rw [e2471, fa_u_k _ _ (by decide), hr_x2467.2 i (by omega), hr_x2362, hr_x2358]; exact hA i hi)), (by show v2470 403 (4 * no) = _; rw [e2471, fa_u_k _ _ (by decide), hr_x2467.2 (4 * no) (by omega), hr_x2362, hr_x2358]; exact hB), (by show v2470 403 (4 * no + 1) = _; rw [e2471, fa_u_k _ _ (by decide), hr_x2467.2 (4 * no + 1) (by omega), hr_x2362, hr_x2358]; exact hC), (fun z => absurd (show false = true from z) (by decide))⟩)⟩, (by rw [e2471]; exact fa_fr.u (fa_fr.tr (fa_fr.tr (fa_fr.tr (by rw [e2355]; exact fa_fr.u (by rw [e2206]; exact fa_fr.u fa_fr.rf (by omega)) (by omega)) (fa_fr.wide h2357.2 (by omega) (by omega))) (fa_fr.wide h2361.2 (by omega) (by omega))) (fa_fr.wide h2466.2 (by omega) (by omega))) (by omega))⟩⟩)
        · have hn1 := fa_ift hxn1 c_265
          refine lv_iconst (v := nI (1)) hx hb dX7_readsOrder_268 (by decide) ?_
          refine lv_goto (tgt := 273) hx hb dX7_readsOrder_269 (by decide) ?_
          refine fa_iaddN hx hb dX7_readsOrder_273 ?_
          refine fa_puti (k := 397) CX HX2469 fl_X7_141 (by omega) rfl rfl rfl rfl dX7_readsOrder_274 (fun H locs v2473 e2474 HX2475 => ?_)
          refine lv_iload_n hx hb dX7_readsOrder_277 rfl (lv_at hl 0 rfl) ?_
          exact RET _ _ _ _ _ _ _ HX2475 dX7_readsOrder_278 (fa_if_nar hxn1) (⟨rfl, ⟨⟨(by rw [((fa_ord_a hS97).trans (fa_one_t hn1))]; exact (hxn1.trans (if_pos hn1))), m_x2467, no + 1, ⟨by omega, by omega, (by have hfx := (show na + 2 ≤ m_x2467 from by have z := (fa_ord_le (t := t) hna).2.2; rw [((fa_ord_a hS97).trans (fa_one_t hn1))] at z; rw [hmn1.e]; exact z rfl); omega), fa_is.mk (by rw [((fa_ord_a hS97).trans (fa_one_t hn1))]; exact hmn1.e), fa_is.mk (by rw [((fa_ord_a hS97).trans (fa_one_t hn1))]; exact (show no + 1 = no + 1 by omega))⟩, (show v2473 397 12 = nI (m_x2467) from (by rw [e2474, fa_u_n _ _ (by omega)]; exact gm_x2467)), (show v2473 397 11 = nI (no + 1) from (by rw [e2474, fa_u_s])), (show fa_f3 v v2473 from (by rw [e2474]; exact fa_f3.w (fa_f3.tr (fa_f3.tr (fa_f3.tr (by rw [e2355]; exact fa_f3.u (by rw [e2206]; exact fa_f3.u fa_f3.rf)) hf_x2358) hf_x2362) hf_x2467) (by decide))), (by rw [((fa_ord_a hS97).trans (fa_one_t hn1))]; exact ⟨(fun i hi => (by show v2473 403 i = _; rw [e2474, fa_u_k _ _ (by decide), hr_x2467.2 i (by omega), hr_x2362, hr_x2358]; exact hA i hi)), (by show v2473 403 (4 * no) = _; rw [e2474, fa_u_k _ _ (by decide), hr_x2467.2 (4 * no) (by omega), hr_x2362, hr_x2358]; exact hB), (by show v2473 403 (4 * no + 1) = _; rw [e2474, fa_u_k _ _ (by decide), hr_x2467.2 (4 * no + 1) (by omega), hr_x2362, hr_x2358]; exact hC), (fun _ => ⟨(by show v2473 403 (4 * no + 2) = _; rw [e2474, fa_u_k _ _ (by decide)]; exact hr_x2467.1 hn1), (fun y1 y2 => by first | exact absurd hS97 y1 | exact absurd hS100 y2)⟩)⟩)⟩, (by rw [e2474]; exact fa_fr.u (fa_fr.tr (fa_fr.tr (fa_fr.tr (by rw [e2355]; exact fa_fr.u (by rw [e2206]; exact fa_fr.u fa_fr.rf (by omega)) (by omega)) (fa_fr.wide h2357.2 (by omega) (by omega))) (fa_fr.wide h2361.2 (by omega) (by omega))) (fa_fr.wide h2466.2 (by omega) (by omega))) (by omega))⟩⟩)
    · have hS110 : fa_sg t n9 na = (110 : Int32) := fa_ift hxa c_58
      have hp110 := hma.e.trans (fa_acc_t hS110)
      have hlt : na < n9 := fa_sg_nz hS110 (by decide)
      clear ha_x2358 hc_x2358 hd_x2358
      refine lv_aload_n hx hb dX7_readsOrder_61 rfl (lv_at hl 0 rfl) ?_
      refine lv_iconst (v := nI (2)) hx hb dX7_readsOrder_62 (by decide) ?_
      refine lv_iconst (v := nI (0)) hx hb dX7_readsOrder_63 (by decide) ?_
      refine lv_iconst (v := nI (4)) hx hb dX7_readsOrder_64 (by decide) ?_
      refine fa_callViu (As := [.int (nI (2)), .int (nI (0)), .int (nI (4))]) (rest := []) CX HX2360 (r_number l G n hn v2359 r hM (n9) (na + 1) (no) (by omega) (by omega) (by omega) ((hf_x2358.2 9 (by decide) (by decide)).trans (by rw [e2355, fa_u_n _ _ (by omega)]; exact (by rw [e2206, fa_u_n _ _ (by omega)]; exact g9))) ((gm_x2358).trans (congrArg nI hp110)) (go_x2358.trans (congrArg nI ho_x2358.e)) t ((h2357.2 405 (by omega)).trans (((congrFun e2355 405).trans (fa_u_k _ _ (by decide))).trans (((congrFun e2206 405).trans (fa_u_k _ _ (by decide))).trans h5))) (2) (nI (0)) (nI (4)) (by omega) ⟨0, by decide, rfl⟩ ⟨4, by decide, rfl⟩) ln_X7_148 (by omega) rfl rfl rfl rfl (Nat.le_of_ble_eq_true rfl) hl.1 ⟨Nat.le_of_ble_eq_true rfl, Nat.le_of_ble_eq_true rfl⟩ ⟨Nat.le_refl _, Nat.le_refl _⟩ dX7_readsOrder_65 (fun x2477 v2478 H locs h2476 HX2479 => ?_)
      obtain ⟨hx_x2477, m_x2477, o_x2477, ⟨ha_x2477, hc_x2477, hd_x2477, hm_x2477, ho_x2477⟩, gm_x2477, go_x2477, hf_x2477, hr_x2477⟩ := h2476.1
      have hxn1 := hx_x2477
      have hmn1 := hm_x2477
      refine lv_if_eq (tgt := 95) hx hb dX7_readsOrder_68 (by decide) (fun c_68 => ?_) (fun c_68 => ?_)
      · have hn1 := fa_ifn hxn1 c_68
        refine lv_iconst (v := nI (0)) hx hb dX7_readsOrder_95 (by decide) ?_
        refine lv_istore_n (lv' := [(1, .int (nI (0))), (0, .ref (fa_B G + (397)))]) hx hb dX7_readsOrder_96 rfl hl (by decide) rfl (fun ls hl => ?_)
        refine lv_goto (tgt := 259) hx hb dX7_readsOrder_97 (by decide) ?_
        refine lv_aload_n hx hb dX7_readsOrder_259 rfl (lv_at hl 1 rfl) ?_
        refine lv_dup hx hb dX7_readsOrder_260 rfl ?_
        refine fa_geti (k := 397) CX HX2479 fl_X7_141 (by omega) rfl rfl dX7_readsOrder_261 ?_
        rw [show v2478 397 11 = nI (no) from (go_x2477.trans (congrArg nI ho_x2477.e))]
        refine lv_iload_n hx hb dX7_readsOrder_264 rfl (lv_at hl 0 rfl) ?_
        refine lv_if_eq (tgt := 272) hx hb dX7_readsOrder_265 (by decide) (fun c_265 => ?_) (fun c_265 => ?_)
        · refine lv_iconst (v := nI (0)) hx hb dX7_readsOrder_272 (by decide) ?_
          refine fa_iaddN hx hb dX7_readsOrder_273 ?_
          refine fa_puti (k := 397) CX HX2479 fl_X7_141 (by omega) rfl rfl rfl rfl dX7_readsOrder_274 (fun H locs v2480 e2481 HX2482 => ?_)
          refine lv_iload_n hx hb dX7_readsOrder_277 rfl (lv_at hl 0 rfl) ?_
          exact RET _ _ _ _ _ _ _ HX2482 dX7_readsOrder_278 (by decide) (⟨rfl, ⟨⟨(by rw [((fa_ord_n hS110).trans (fa_two_f hn1))]; exact rfl), m_x2477, no + 0, ⟨by omega, by omega, by omega, fa_is.mk (by rw [((fa_ord_n hS110).trans (fa_two_f hn1))]; exact hmn1.e), fa_is.mk (by rw [((fa_ord_n hS110).trans (fa_two_f hn1))]; exact (show no + 0 = no by omega))⟩, (show v2480 397 12 = nI (m_x2477) from (by rw [e2481, fa_u_n _ _ (by omega)]; exact gm_x2477)), (show v2480 397 11 = nI (no + 0) from (by rw [e2481, fa_u_s])), (show fa_f3 v v2480 from (by rw [e2481]; exact fa_f3.w (fa_f3.tr (fa_f3.tr (by rw [e2355]; exact fa_f3.u (by rw [e2206]; exact fa_f3.u fa_f3.rf)) hf_x2358) hf_x2477) (by decide))), (by rw [((fa_ord_n hS110).trans (fa_two_f hn1))]; exact ⟨(fun i hi => (by show v2480 403 i = _; rw [e2481, fa_u_k _ _ (by decide), hr_x2477.2 i (by omega), hr_x2358]; exact hA i hi)), (by show v2480 403 (4 * no) = _; rw [e2481, fa_u_k _ _ (by decide), hr_x2477.2 (4 * no) (by omega), hr_x2358]; exact hB), (by show v2480 403 (4 * no + 1) = _; rw [e2481, fa_u_k _ _ (by decide), hr_x2477.2 (4 * no + 1) (by omega), hr_x2358]; exact hC), (fun z => absurd (show false = true from z) (by decide))⟩)⟩, (by rw [e2481]; exact fa_fr.u (fa_fr.tr (fa_fr.tr (by rw [e2355]; exact fa_fr.u (by rw [e2206]; exact fa_fr.u fa_fr.rf (by omega)) (by omega)) (fa_fr.wide h2357.2 (by omega) (by omega))) (fa_fr.wide h2476.2 (by omega) (by omega))) (by omega))⟩⟩)
        · exact absurd (by try decide) c_265
      · have hn1 := fa_ift hxn1 c_68
        refine lv_aload_n hx hb dX7_readsOrder_71 rfl (lv_at hl 0 rfl) ?_
        refine lv_bipush (v := nI (44)) hx hb dX7_readsOrder_72 (by decide) ?_
        refine fa_callViu (As := [.int (nI (44))]) (rest := []) CX HX2479 (r_accepts l G n hn v2478 r hM (n9) (m_x2477) (no) (by omega) (by omega) (by omega) ((hf_x2477.2 9 (by decide) (by decide)).trans ((hf_x2358.2 9 (by decide) (by decide)).trans (by rw [e2355, fa_u_n _ _ (by omega)]; exact (by rw [e2206, fa_u_n _ _ (by omega)]; exact g9)))) gm_x2477 (go_x2477.trans (congrArg nI ho_x2477.e)) t ((h2476.2 405 (by omega)).trans ((h2357.2 405 (by omega)).trans (((congrFun e2355 405).trans (fa_u_k _ _ (by decide))).trans (((congrFun e2206 405).trans (fa_u_k _ _ (by decide))).trans h5)))) (nI (44)) (by decide)) ln_X7_144 (by omega) rfl rfl rfl rfl (Nat.le_of_ble_eq_true rfl) hl.1 ⟨Nat.le_of_ble_eq_true rfl, Nat.le_of_ble_eq_true rfl⟩ ⟨Nat.le_refl _, Nat.le_refl _⟩ dX7_readsOrder_74 (fun x2484 v2485 H locs h2483 HX2486 => ?_)
        obtain ⟨hx_x2484, m_x2484, o_x2484, ⟨ha_x2484, hc_x2484, hd_x2484, hm_x2484, ho_x2484⟩, gm_x2484, go_x2484, hf_x2484, hr_x2484⟩ := h2483.1
        have hxc := hx_x2484
        have hmc := hm_x2484
        refine lv_if_eq (tgt := 95) hx hb dX7_readsOrder_77 (by decide) (fun c_77 => ?_) (fun c_77 => ?_)
        · have hcm := fa_ifn hxc c_77
          have hpc := hmc.e.trans (fa_acc_f hcm)
          refine lv_iconst (v := nI (0)) hx hb dX7_readsOrder_95 (by decide) ?_
          refine lv_istore_n (lv' := [(1, .int (nI (0))), (0, .ref (fa_B G + (397)))]) hx hb dX7_readsOrder_96 rfl hl (by decide) rfl (fun ls hl => ?_)
          refine lv_goto (tgt := 259) hx hb dX7_readsOrder_97 (by decide) ?_
          refine lv_aload_n hx hb dX7_readsOrder_259 rfl (lv_at hl 1 rfl) ?_
          refine lv_dup hx hb dX7_readsOrder_260 rfl ?_
          refine fa_geti (k := 397) CX HX2486 fl_X7_141 (by omega) rfl rfl dX7_readsOrder_261 ?_
          rw [show v2485 397 11 = nI (no) from (go_x2484.trans (congrArg nI ho_x2484.e))]
          refine lv_iload_n hx hb dX7_readsOrder_264 rfl (lv_at hl 0 rfl) ?_
          refine lv_if_eq (tgt := 272) hx hb dX7_readsOrder_265 (by decide) (fun c_265 => ?_) (fun c_265 => ?_)
          · refine lv_iconst (v := nI (0)) hx hb dX7_readsOrder_272 (by decide) ?_
            refine fa_iaddN hx hb dX7_readsOrder_273 ?_
            refine fa_puti (k := 397) CX HX2486 fl_X7_141 (by omega) rfl rfl rfl rfl dX7_readsOrder_274 (fun H locs v2487 e2488 HX2489 => ?_)
            refine lv_iload_n hx hb dX7_readsOrder_277 rfl (lv_at hl 0 rfl) ?_
            exact RET _ _ _ _ _ _ _ HX2489 dX7_readsOrder_278 (by decide) (⟨rfl, ⟨⟨(by rw [((fa_ord_n hS110).trans (fa_two_c hn1 hmn1.e hcm))]; exact rfl), m_x2477, no + 0, ⟨by omega, by omega, by omega, fa_is.mk (by rw [((fa_ord_n hS110).trans (fa_two_c hn1 hmn1.e hcm))]), fa_is.mk (by rw [((fa_ord_n hS110).trans (fa_two_c hn1 hmn1.e hcm))]; exact (show no + 0 = no by omega))⟩, (show v2487 397 12 = nI (m_x2477) from (by rw [e2488, fa_u_n _ _ (by omega)]; exact ((gm_x2484).trans (congrArg nI hpc)))), (show v2487 397 11 = nI (no + 0) from (by rw [e2488, fa_u_s])), (show fa_f3 v v2487 from (by rw [e2488]; exact fa_f3.w (fa_f3.tr (fa_f3.tr (fa_f3.tr (by rw [e2355]; exact fa_f3.u (by rw [e2206]; exact fa_f3.u fa_f3.rf)) hf_x2358) hf_x2477) hf_x2484) (by decide))), (by rw [((fa_ord_n hS110).trans (fa_two_c hn1 hmn1.e hcm))]; exact ⟨(fun i hi => (by show v2487 403 i = _; rw [e2488, fa_u_k _ _ (by decide), hr_x2484, hr_x2477.2 i (by omega), hr_x2358]; exact hA i hi)), (by show v2487 403 (4 * no) = _; rw [e2488, fa_u_k _ _ (by decide), hr_x2484, hr_x2477.2 (4 * no) (by omega), hr_x2358]; exact hB), (by show v2487 403 (4 * no + 1) = _; rw [e2488, fa_u_k _ _ (by decide), hr_x2484, hr_x2477.2 (4 * no + 1) (by omega), hr_x2358]; exact hC), (fun z => absurd (show false = true from z) (by decide))⟩)⟩, (by rw [e2488]; exact fa_fr.u (fa_fr.tr (fa_fr.tr (fa_fr.tr (by rw [e2355]; exact fa_fr.u (by rw [e2206]; exact fa_fr.u fa_fr.rf (by omega)) (by omega)) (fa_fr.wide h2357.2 (by omega) (by omega))) (fa_fr.wide h2476.2 (by omega) (by omega))) (fa_fr.wide h2483.2 (by omega) (by omega))) (by omega))⟩⟩)
          · exact absurd (by try decide) c_265
        · have hcm := fa_ift hxc c_77
          have hpc := hmc.e.trans (fa_acc_t hcm)
          refine lv_aload_n hx hb dX7_readsOrder_80 rfl (lv_at hl 0 rfl) ?_
          refine lv_iconst (v := nI (3)) hx hb dX7_readsOrder_81 (by decide) ?_
          refine lv_iconst (v := nI (1)) hx hb dX7_readsOrder_82 (by decide) ?_
          refine lv_bipush (v := nI (50)) hx hb dX7_readsOrder_83 (by decide) ?_
          refine fa_callViu (As := [.int (nI (3)), .int (nI (1)), .int (nI (50))]) (rest := []) CX HX2486 (r_number l G n hn v2485 r hM (n9) (m_x2477 + 1) (no) (by omega) (by omega) (by omega) ((hf_x2484.2 9 (by decide) (by decide)).trans ((hf_x2477.2 9 (by decide) (by decide)).trans ((hf_x2358.2 9 (by decide) (by decide)).trans (by rw [e2355, fa_u_n _ _ (by omega)]; exact (by rw [e2206, fa_u_n _ _ (by omega)]; exact g9))))) ((gm_x2484).trans (congrArg nI hpc)) (go_x2484.trans (congrArg nI ho_x2484.e)) t ((h2483.2 405 (by omega)).trans ((h2476.2 405 (by omega)).trans ((h2357.2 405 (by omega)).trans (((congrFun e2355 405).trans (fa_u_k _ _ (by decide))).trans (((congrFun e2206 405).trans (fa_u_k _ _ (by decide))).trans h5))))) (3) (nI (1)) (nI (50)) (by omega) ⟨1, by decide, rfl⟩ ⟨50, by decide, rfl⟩) ln_X7_148 (by omega) rfl rfl rfl rfl (Nat.le_of_ble_eq_true rfl) hl.1 ⟨Nat.le_of_ble_eq_true rfl, Nat.le_of_ble_eq_true rfl⟩ ⟨Nat.le_refl _, Nat.le_refl _⟩ dX7_readsOrder_85 (fun x2491 v2492 H locs h2490 HX2493 => ?_)
          obtain ⟨hx_x2491, m_x2491, o_x2491, ⟨ha_x2491, hc_x2491, hd_x2491, hm_x2491, ho_x2491⟩, gm_x2491, go_x2491, hf_x2491, hr_x2491⟩ := h2490.1
          have hxn2 := hx_x2491
          have hmn2 := hm_x2491
          refine lv_if_eq (tgt := 95) hx hb dX7_readsOrder_88 (by decide) (fun c_88 => ?_) (fun c_88 => ?_)
          · have hn2 := fa_ifn hxn2 c_88
            refine lv_iconst (v := nI (0)) hx hb dX7_readsOrder_95 (by decide) ?_
            refine lv_istore_n (lv' := [(1, .int (nI (0))), (0, .ref (fa_B G + (397)))]) hx hb dX7_readsOrder_96 rfl hl (by decide) rfl (fun ls hl => ?_)
            refine lv_goto (tgt := 259) hx hb dX7_readsOrder_97 (by decide) ?_
            refine lv_aload_n hx hb dX7_readsOrder_259 rfl (lv_at hl 1 rfl) ?_
            refine lv_dup hx hb dX7_readsOrder_260 rfl ?_
            refine fa_geti (k := 397) CX HX2493 fl_X7_141 (by omega) rfl rfl dX7_readsOrder_261 ?_
            rw [show v2492 397 11 = nI (no) from (go_x2491.trans (congrArg nI ho_x2491.e))]
            refine lv_iload_n hx hb dX7_readsOrder_264 rfl (lv_at hl 0 rfl) ?_
            refine lv_if_eq (tgt := 272) hx hb dX7_readsOrder_265 (by decide) (fun c_265 => ?_) (fun c_265 => ?_)
            · refine lv_iconst (v := nI (0)) hx hb dX7_readsOrder_272 (by decide) ?_
              refine fa_iaddN hx hb dX7_readsOrder_273 ?_
              refine fa_puti (k := 397) CX HX2493 fl_X7_141 (by omega) rfl rfl rfl rfl dX7_readsOrder_274 (fun H locs v2494 e2495 HX2496 => ?_)
              refine lv_iload_n hx hb dX7_readsOrder_277 rfl (lv_at hl 0 rfl) ?_
              exact RET _ _ _ _ _ _ _ HX2496 dX7_readsOrder_278 (by decide) (⟨rfl, ⟨⟨(by rw [((fa_ord_n hS110).trans (fa_two_n hn1 hmn1.e hcm hn2))]; exact rfl), m_x2491, no + 0, ⟨by omega, by omega, by omega, fa_is.mk (by rw [((fa_ord_n hS110).trans (fa_two_n hn1 hmn1.e hcm hn2))]; exact hmn2.e), fa_is.mk (by rw [((fa_ord_n hS110).trans (fa_two_n hn1 hmn1.e hcm hn2))]; exact (show no + 0 = no by omega))⟩, (show v2494 397 12 = nI (m_x2491) from (by rw [e2495, fa_u_n _ _ (by omega)]; exact gm_x2491)), (show v2494 397 11 = nI (no + 0) from (by rw [e2495, fa_u_s])), (show fa_f3 v v2494 from (by rw [e2495]; exact fa_f3.w (fa_f3.tr (fa_f3.tr (fa_f3.tr (fa_f3.tr (by rw [e2355]; exact fa_f3.u (by rw [e2206]; exact fa_f3.u fa_f3.rf)) hf_x2358) hf_x2477) hf_x2484) hf_x2491) (by decide))), (by rw [((fa_ord_n hS110).trans (fa_two_n hn1 hmn1.e hcm hn2))]; exact ⟨(fun i hi => (by show v2494 403 i = _; rw [e2495, fa_u_k _ _ (by decide), hr_x2491.2 i (by omega), hr_x2484, hr_x2477.2 i (by omega), hr_x2358]; exact hA i hi)), (by show v2494 403 (4 * no) = _; rw [e2495, fa_u_k _ _ (by decide), hr_x2491.2 (4 * no) (by omega), hr_x2484, hr_x2477.2 (4 * no) (by omega), hr_x2358]; exact hB), (by show v2494 403 (4 * no + 1) = _; rw [e2495, fa_u_k _ _ (by decide), hr_x2491.2 (4 * no + 1) (by omega), hr_x2484, hr_x2477.2 (4 * no + 1) (by omega), hr_x2358]; exact hC), (fun z => absurd (show false = true from z) (by decide))⟩)⟩, (by rw [e2495]; exact fa_fr.u (fa_fr.tr (fa_fr.tr (fa_fr.tr (fa_fr.tr (by rw [e2355]; exact fa_fr.u (by rw [e2206]; exact fa_fr.u fa_fr.rf (by omega)) (by omega)) (fa_fr.wide h2357.2 (by omega) (by omega))) (fa_fr.wide h2476.2 (by omega) (by omega))) (fa_fr.wide h2483.2 (by omega) (by omega))) (fa_fr.wide h2490.2 (by omega) (by omega))) (by omega))⟩⟩)
            · exact absurd (by try decide) c_265
          · have hn2 := fa_ift hxn2 c_88
            refine lv_iconst (v := nI (1)) hx hb dX7_readsOrder_91 (by decide) ?_
            refine lv_goto (tgt := 96) hx hb dX7_readsOrder_92 (by decide) ?_
            refine lv_istore_n (lv' := [(1, .int (nI (1))), (0, .ref (fa_B G + (397)))]) hx hb dX7_readsOrder_96 rfl hl (by decide) rfl (fun ls hl => ?_)
            refine lv_goto (tgt := 259) hx hb dX7_readsOrder_97 (by decide) ?_
            refine lv_aload_n hx hb dX7_readsOrder_259 rfl (lv_at hl 1 rfl) ?_
            refine lv_dup hx hb dX7_readsOrder_260 rfl ?_
            refine fa_geti (k := 397) CX HX2493 fl_X7_141 (by omega) rfl rfl dX7_readsOrder_261 ?_
            rw [show v2492 397 11 = nI (no) from (go_x2491.trans (congrArg nI ho_x2491.e))]
            refine lv_iload_n hx hb dX7_readsOrder_264 rfl (lv_at hl 0 rfl) ?_
            refine lv_if_eq (tgt := 272) hx hb dX7_readsOrder_265 (by decide) (fun c_265 => ?_) (fun c_265 => ?_)
            · exact absurd c_265 (by try decide)
            · refine lv_iconst (v := nI (1)) hx hb dX7_readsOrder_268 (by decide) ?_
              refine lv_goto (tgt := 273) hx hb dX7_readsOrder_269 (by decide) ?_
              refine fa_iaddN hx hb dX7_readsOrder_273 ?_
              refine fa_puti (k := 397) CX HX2493 fl_X7_141 (by omega) rfl rfl rfl rfl dX7_readsOrder_274 (fun H locs v2497 e2498 HX2499 => ?_)
              refine lv_iload_n hx hb dX7_readsOrder_277 rfl (lv_at hl 0 rfl) ?_
              exact RET _ _ _ _ _ _ _ HX2499 dX7_readsOrder_278 (by decide) (⟨rfl, ⟨⟨(by rw [((fa_ord_n hS110).trans (fa_two_y hn1 hmn1.e hcm hn2))]; exact rfl), m_x2491, no + 1, ⟨by omega, by omega, (by have hfx := (show na + 2 ≤ m_x2491 from by have z := (fa_ord_le (t := t) hna).2.2; rw [((fa_ord_n hS110).trans (fa_two_y hn1 hmn1.e hcm hn2))] at z; rw [hmn2.e]; exact z rfl); omega), fa_is.mk (by rw [((fa_ord_n hS110).trans (fa_two_y hn1 hmn1.e hcm hn2))]; exact hmn2.e), fa_is.mk (by rw [((fa_ord_n hS110).trans (fa_two_y hn1 hmn1.e hcm hn2))]; exact (show no + 1 = no + 1 by omega))⟩, (show v2497 397 12 = nI (m_x2491) from (by rw [e2498, fa_u_n _ _ (by omega)]; exact gm_x2491)), (show v2497 397 11 = nI (no + 1) from (by rw [e2498, fa_u_s])), (show fa_f3 v v2497 from (by rw [e2498]; exact fa_f3.w (fa_f3.tr (fa_f3.tr (fa_f3.tr (fa_f3.tr (by rw [e2355]; exact fa_f3.u (by rw [e2206]; exact fa_f3.u fa_f3.rf)) hf_x2358) hf_x2477) hf_x2484) hf_x2491) (by decide))), (by rw [((fa_ord_n hS110).trans (fa_two_y hn1 hmn1.e hcm hn2))]; exact ⟨(fun i hi => (by show v2497 403 i = _; rw [e2498, fa_u_k _ _ (by decide), hr_x2491.2 i (by omega), hr_x2484, hr_x2477.2 i (by omega), hr_x2358]; exact hA i hi)), (by show v2497 403 (4 * no) = _; rw [e2498, fa_u_k _ _ (by decide), hr_x2491.2 (4 * no) (by omega), hr_x2484, hr_x2477.2 (4 * no) (by omega), hr_x2358]; exact hB), (by show v2497 403 (4 * no + 1) = _; rw [e2498, fa_u_k _ _ (by decide), hr_x2491.2 (4 * no + 1) (by omega), hr_x2484, hr_x2477.2 (4 * no + 1) (by omega), hr_x2358]; exact hC), (fun _ => ⟨(by show v2497 403 (4 * no + 2) = _; rw [e2498, fa_u_k _ _ (by decide), hr_x2491.2 (4 * no + 2) (by omega), hr_x2484]; exact hr_x2477.1 hn1), (fun _ _ => (by show v2497 403 (4 * no + 3) = _; rw [e2498, fa_u_k _ _ (by decide)]; exact hr_x2491.1 hn2))⟩)⟩)⟩, (by rw [e2498]; exact fa_fr.u (fa_fr.tr (fa_fr.tr (fa_fr.tr (fa_fr.tr (by rw [e2355]; exact fa_fr.u (by rw [e2206]; exact fa_fr.u fa_fr.rf (by omega)) (by omega)) (fa_fr.wide h2357.2 (by omega) (by omega))) (fa_fr.wide h2476.2 (by omega) (by omega))) (fa_fr.wide h2483.2 (by omega) (by omega))) (fa_fr.wide h2490.2 (by omega) (by omega))) (by omega))⟩⟩)
/-! THE REFERENCE'S HISTORY -/
def fb_mH (v : fa_V) (H : List fb_At) : Prop := v 397 10 = nI H.length ∧ H.length ≤ 4 ∧ ∀ i (hi : i < H.length), fb_okA H[i] ∧ fb_mA (fun c => v 401 (453 * i + c)) H[i]
def fb_MV (v : fa_V) (A : fb_At) (H : List fb_At) : Prop := fb_okA A ∧ fb_mA (v 398) A ∧ fb_mH v H
theorem fb_mH.cong {v v1 : fa_V} {H : List fb_At} (h : fb_mH v H) (h0 : v1 397 10 = v 397 10) (h1 : v1 401 = v 401) : fb_mH v1 H :=
  ⟨h0.trans h.1, h.2.1, fun i hi => by rw [h1]; exact h.2.2 i hi⟩
theorem fb_MV.cong {v v1 : fa_V} {A : fb_At} {H : List fb_At} (h : fb_MV v A H) (h8 : ∀ i, i < 453 → v1 398 i = v 398 i) (h0 : v1 397 10 = v 397 10) (h1 : v1 401 = v 401) : fb_MV v1 A H :=
  ⟨h.1, h.2.1.congr h8, h.2.2.cong h0 h1⟩
theorem fb_m_cpy {w w1 : fa_V} {f g : Nat → Int32} {q k : Nat} {y : Int32} (h : ∀ i, w 401 i = if q ≤ i ∧ i < q + k then f (i - q) else g i) (e : w1 = fa_u w 401 (q + k) y) (ey : y = f k) : ∀ i, w1 401 i = if q ≤ i ∧ i < q + (k + 1) then f (i - q) else g i := fun i => by
  by_cases z : i = q + k
  · rw [if_pos (by omega), z, e, fa_u_s, ey, Nat.add_sub_cancel_left]
  · rw [e, fa_u_n _ _ (fun y => z y.2), h i]
    by_cases y : q ≤ i ∧ i < q + k
    · rw [if_pos y, if_pos (by omega)]
    · rw [if_neg y, if_neg (by omega)]
theorem fb_m_dwn {v w w1 : fa_V} {k : Nat} (h : ∀ i, w 401 i = if i < k then v 401 (453 + i) else v 401 i) (e : w1 = fa_u w 401 k (w 401 (453 + k))) : ∀ i, w1 401 i = if i < k + 1 then v 401 (453 + i) else v 401 i := fun i => by
  by_cases z : i = k
  · rw [if_pos (by omega), z, e, fa_u_s, h (453 + k), if_neg (by omega)]
  · rw [e, fa_u_n _ _ (fun y => z y.2), h i]
    by_cases y : i < k
    · rw [if_pos y, if_pos (by omega)]
    · rw [if_neg y, if_neg (by omega)]
theorem fb_m_bck {u w w1 : fa_V} {q k : Nat} {y : Int32} (h : ∀ i, w 398 i = if i < k then u 401 (q + i) else u 398 i) (e : w1 = fa_u w 398 k y) (ey : y = u 401 (q + k)) : ∀ i, w1 398 i = if i < k + 1 then u 401 (q + i) else u 398 i := fun i => by
  by_cases z : i = k
  · rw [if_pos (by omega), z, e, fa_u_s, ey]
  · rw [e, fa_u_n _ _ (fun y => z y.2), h i]
    by_cases y : i < k
    · rw [if_pos y, if_pos (by omega)]
    · rw [if_neg y, if_neg (by omega)]
/-- the latest state of n, behind m others -/
theorem fb_m_rec1 {v w v1 : fa_V} {A : fb_At} {H : List fb_At} {n10 k : Nat} (ok : fb_okA A) (hA : fb_mA (v 399) A) (hH : fb_mH v H) (g10 : v 397 10 = nI n10) (hn : n10 ≤ 4) (hne : ¬ n10 = 4) (hk : 453 ≤ k) (hk2 : k ≤ 453)
    (hw : ∀ i, w 401 i = if 453 * n10 ≤ i ∧ i < 453 * n10 + k then v 399 (i - 453 * n10) else v 401 i) (e : v1 = fa_u w 397 10 (nI (n10 + 1))) : fb_mH v1 (fb_push H A) := by
  have ek : k = 453 := by omega
  subst ek
  obtain ⟨h1, h2, h3⟩ := hH
  have el : H.length = n10 := fa_nIinj (by omega) (by omega) (h1.symm.trans g10)
  have w1 : v1 401 = w 401 := by rw [e]; exact fa_u_k _ _ (by decide)
  unfold fb_push
  rw [if_pos (by omega)]
  refine ⟨by rw [e, fa_u_s, List.length_append, el]; rfl, by rw [List.length_append]; show H.length + 1 ≤ 4; omega, fun i hi => ?_⟩
  rw [List.length_append] at hi
  have hi' : i < H.length + 1 := hi
  by_cases z : i = H.length
  · subst z
    rw [List.getElem_concat_length rfl]
    refine ⟨ok, hA.congr (fun c hc => ?_)⟩
    show v1 401 (453 * H.length + c) = _
    rw [w1, hw, el, if_pos (by omega), Nat.add_sub_cancel_left]
  · rw [List.getElem_append_left (by omega)]
    obtain ⟨a, b⟩ := h3 i (by omega)
    refine ⟨a, b.congr (fun c hc => ?_)⟩
    show v1 401 (453 * i + c) = v 401 (453 * i + c)
    rw [w1, hw, if_neg (by omega)]
theorem fb_m_rec2 {v w0 u w v1 : fa_V} {A : fb_At} {H : List fb_At} {n10 k0 k : Nat} (ok : fb_okA A) (hA : fb_mA (v 399) A) (hH : fb_mH v H) (g10 : v 397 10 = nI n10) (he : n10 = 4) (hk0 : 1359 ≤ k0) (hk02 : k0 ≤ 1359) (f0 : fa_fr 401 402 v w0)
    (h0 : ∀ i, w0 401 i = if i < k0 then v 401 (453 + i) else v 401 i) (e1 : u = fa_u w0 397 10 (nI (n10 - 1))) (hk : 453 ≤ k) (hk2 : k ≤ 453)
    (hw : ∀ i, w 401 i = if 453 * (n10 - 1) ≤ i ∧ i < 453 * (n10 - 1) + k then u 399 (i - 453 * (n10 - 1)) else u 401 i) (e : v1 = fa_u w 397 10 (nI (n10 - 1 + 1))) : fb_mH v1 (fb_push H A) := by
  have ek : k = 453 := by omega
  subst ek
  have ek0 : k0 = 1359 := by omega
  subst ek0
  subst he
  obtain ⟨h1, h2, h3⟩ := hH
  have el : H.length = 4 := fa_nIinj (by omega) (by omega) (h1.symm.trans g10)
  have w1 : v1 401 = w 401 := by rw [e]; exact fa_u_k _ _ (by decide)
  have u1 : u 401 = w0 401 := by rw [e1]; exact fa_u_k _ _ (by decide)
  have u9 : u 399 = v 399 := by rw [e1, fa_u_k _ _ (by decide)]; exact f0 399 (by omega)
  have hw' : ∀ i, w 401 i = if 1359 ≤ i ∧ i < 1812 then u 399 (i - 1359) else u 401 i := hw
  have lt : H.tail.length = 3 := by rw [List.length_tail, el]
  unfold fb_push
  rw [if_neg (by omega)]
  refine ⟨by rw [e, fa_u_s, List.length_append, lt]; rfl, by rw [List.length_append, lt]; exact Nat.le_refl 4, fun i hi => ?_⟩
  rw [List.length_append, lt] at hi
  have hi' : i < 3 + 1 := hi
  by_cases z : i = 3
  · subst z
    rw [List.getElem_append_right (by omega)]
    have e0 : ∀ (k : Nat) (hk : k < [A].length), [A][k] = A := fun k hk => by
      have : k = 0 := by
        have : k < 1 := hk
        omega
      subst this
      rfl
    rw [e0]
    refine ⟨ok, hA.congr (fun c hc => ?_)⟩
    show v1 401 (453 * 3 + c) = _
    rw [w1, hw', if_pos (by omega), u9]
    exact congrArg (v 399) (by omega)
  · rw [List.getElem_append_left (by omega), List.getElem_tail]
    obtain ⟨a, b⟩ := h3 (i + 1) (by omega)
    refine ⟨a, b.congr (fun c hc => ?_)⟩
    show v1 401 (453 * i + c) = v 401 (453 * (i + 1) + c)
    rw [w1, hw', if_neg (by omega), u1, h0, if_pos (by omega)]
    exact congrArg (v 401) (by omega)
theorem fb_rec_y {H : List fb_At} {A : fb_At} {y : Int32} (h : 0 ≤ y ∨ y = (-6 : Int32)) : fb_rec H A y = fb_push H A := if_pos h
theorem fb_rec_n {H : List fb_At} {A : fb_At} {y : Int32} (h : ¬ (0 ≤ y ∨ y = (-6 : Int32))) : fb_rec H A y = H := if_neg h
/-- an action that is refused ahead of everything -/
theorem fb_m_err {v : fa_V} {A : fb_At} {H : List fb_At} {op : Int32 × fb_At} {y : Int32} (hV : fb_MV v A H) (e : op = (y, A)) (h : ¬ (0 ≤ y ∨ y = (-6 : Int32))) : y = op.1 ∧ fb_MV v op.2 (fb_rec H A op.1) := by
  rw [e]
  exact ⟨rfl, by rw [fb_rec_n h]; exact hV⟩
theorem fb_m_face {v v1 v2 v3 : fa_V} {A : fb_At} {H : List fb_At} {op : Int32 × fb_At} {x xr : Int32} (hV : fb_MV v A H) (f1 : fa_fr 399 400 v v1) (hh : ∀ i, i < 453 → v1 399 i = v 398 i) (k7 : v2 397 = v1 397) (k9 : v2 399 = v1 399) (k1 : v2 401 = v1 401)
    (ha : fb_mA (v1 398) A → x = op.1 ∧ fb_mA (v2 398) op.2) (ok : fb_okA op.2) (hr : xr = x ∧ v3 398 = v2 398 ∧ ∀ A H, fb_okA A → fb_mA (v2 399) A → fb_mH v2 H → fb_mH v3 (fb_rec H A x)) : xr = op.1 ∧ fb_MV v3 op.2 (fb_rec H A op.1) := by
  obtain ⟨o, m, h⟩ := hV
  obtain ⟨a1, a2⟩ := ha (by rw [f1 398 (by omega)]; exact m)
  obtain ⟨r1, r2, r3⟩ := hr
  refine ⟨r1.trans a1, ok, by rw [r2]; exact a2, ?_⟩
  rw [← a1]
  exact r3 A H o (by rw [k9]; exact m.congr hh) (h.cong (by rw [k7, f1 397 (by omega)]) (by rw [k1, f1 401 (by omega)]))
theorem fb_m_undo0 {v : fa_V} {A : fb_At} {H : List fb_At} {n10 : Nat} (hV : fb_MV v A H) (g10 : v 397 10 = nI n10) (hn : n10 ≤ 4) (h : nI n10 = 0) : (-6 : Int32) = (fb_undoA A H).1 ∧ fb_MV v (fb_undoA A H).2.1 (fb_undoA A H).2.2 := by
  have l4 := hV.2.2.2.1
  have e : H.length = 0 := fb_nIinj2 (by omega) (by omega) (hV.2.2.1.symm.trans (g10.trans h))
  have u : fb_undoA A H = ((-6 : Int32), A, H) := if_pos e
  rw [u]
  exact ⟨rfl, hV⟩
theorem fb_m_undo1 {v u w : fa_V} {A : fb_At} {H : List fb_At} {n10 k : Nat} (hV : fb_MV v A H) (g10 : v 397 10 = nI n10) (hn : n10 ≤ 4) (hp : 0 < n10) (e : u = fa_u v 397 10 (nI (n10 - 1))) (fr : fa_fr 398 399 u w) (hk : 453 ≤ k)
    (hw : ∀ i, w 398 i = if i < k then u 401 (453 * (n10 - 1) + i) else u 398 i) : nI (n10 - 1) = (fb_undoA A H).1 ∧ fb_MV w (fb_undoA A H).2.1 (fb_undoA A H).2.2 := by
  obtain ⟨o, m, z1, z2, z3⟩ := hV
  have el : H.length = n10 := fb_nIinj2 (by omega) (by omega) (z1.symm.trans g10)
  subst el
  have ue : fb_undoA A H = (nI (H.length - 1), (H[H.length - 1]'(by omega)), H.take (H.length - 1)) := by
    unfold fb_undoA
    rw [if_neg (by omega), List.getElem?_eq_getElem (by omega)]
    rfl
  rw [ue]
  have w1 : w 401 = v 401 := by rw [fr 401 (by omega), e]; exact fa_u_k _ _ (by decide)
  have u1 : u 401 = v 401 := by rw [e]; exact fa_u_k _ _ (by decide)
  obtain ⟨ok, b⟩ := z3 (H.length - 1) (by omega)
  have lt : (H.take (H.length - 1)).length = H.length - 1 := by rw [List.length_take]; omega
  refine ⟨rfl, ok, b.congr (fun i hi => ?_), by rw [fr 397 (by omega), e, fa_u_s, lt], by rw [lt]; omega, fun i hi => ?_⟩
  · show _ = v 401 (453 * (H.length - 1) + i)
    rw [hw, if_pos (by omega), u1]
  · rw [lt] at hi
    rw [List.getElem_take, w1]
    exact z3 i (by omega)
/-! RESERVING, CANCELLING, SETTING, in the reference's row -/
theorem fb_m_in6 (a : Int32) : (a < nI 0 ∨ nI 6 < a) ↔ (a < 0 ∨ ¬ a < nI 7) := by
  rw [fa_ltS (by decide)]
  exact Iff.rfl
theorem fb_m_inR {A : fb_At} (hok : fb_okA A) (a : Int32) : (a < A.g 7 + nI 1 ∨ nI 9999 < a) ↔ (a ≤ A.g 7 ∨ ¬ a ≤ nI 9999) := by
  obtain ⟨d, hd, e⟩ := hok.1.2.1
  rw [e, nI_add]
  have h : a < nI (d + 1) ↔ a ≤ nI d := by
    have z := fa_ltS (a := a) (k := d) (by omega)
    constructor
    · intro h
      exact Int32.not_lt.mp (fun y => z.mp y h)
    · intro h
      exact Decidable.byContradiction (fun y => Int32.not_lt.mpr h (z.mpr y))
  rw [h, Int32.not_le]
theorem fb_m_fd1 {f : Nat → Int32} {A : fb_At} {a d x : Int32} (hc : fb_mA f A) (h : fb_fd f a d (fa_N (f 15)) x) (c : ¬ x = (-1 : Int32)) : ∃ k, k < fa_N (f 15) ∧ x = nI k ∧ f (377 + 2 * k) = a ∧ f (377 + 2 * k + 1) = d ∧ (a, d) ∈ A.q := by
  rcases h with h | ⟨k, hk, e, e1, e2⟩
  · exact absurd h.1 c
  · refine ⟨k, hk, e, e1, e2, ?_⟩
    obtain ⟨L, hL, hP⟩ := hc.2.2.1
    rw [hL.1, fa_N_nI (by have := hL.2.1; omega)] at hk
    have z := hL.at hk
    rw [e1, e2] at z
    rw [← z]
    exact hP.mem_iff.mp (List.getElem_mem hk)
theorem fb_m_fd0 {f : Nat → Int32} {A : fb_At} {a d x : Int32} (hc : fb_mA f A) (h : fb_fd f a d (fa_N (f 15)) x) (c : x = (-1 : Int32)) : ¬ (a, d) ∈ A.q := fun m => by
  obtain ⟨L, hL, hP⟩ := hc.2.2.1
  rcases h with h | ⟨k, hk, e, -⟩
  · obtain ⟨i, hi, ei⟩ := List.getElem_of_mem (hP.mem_iff.mpr m)
    have z := hL.at hi
    rw [ei] at z
    refine h.2 i ?_ ⟨(congrArg Prod.fst z).symm, (congrArg Prod.snd z).symm⟩
    rw [hL.1, fa_N_nI (by have := hL.2.1; omega)]
    exact hi
  · rw [hL.1, fa_N_nI (by have := hL.2.1; omega)] at hk
    have := hL.2.1
    rw [c] at e
    exact fb_nI_ne1 (by omega) e.symm
/-- only reservations change -/
theorem fb_mA.rsv {f f1 : Nat → Int32} {A : fb_At} {q L : List (Int32 × Int32)} (h : fb_mA f A) (ro : ∀ i, ¬ i = 15 → ¬ (377 ≤ i ∧ i < 393) → f1 i = f i) (hL : fb_mL f1 L) (hP : L.Perm q) : fb_mA f1 (A.sq q) := by
  obtain ⟨h1, ⟨h2, h3, h4⟩, -, h7, h8, h9⟩ := h
  have h2' : A.n ≤ 24 := h2
  have h7' : A.m ≤ 12 := h7
  refine ⟨fun k hk => by rw [ro k (by omega) (by omega)]; exact h1 k hk, ⟨h2, by rw [ro 14 (by decide) (by decide)]; exact h3, fun p i hp hi => ?_⟩, ⟨L, hL, hP⟩, h7, by rw [ro 16 (by decide) (by decide)]; exact h8, fun p i hp hi => ?_⟩
  · have hp' : p < A.n := hp
    rw [ro _ (by omega) (by omega)]; exact h4 p i hp hi
  · have hp' : p < A.m := hp
    rw [ro _ (by omega) (by omega)]; exact h9 p i hp hi
theorem fb_m_res {v v1 v2 v3 : fa_V} {A : fb_At} {a d : Int32} {n5 : Nat} (h : fb_mA (v 398) A) (g5 : v 398 15 = nI n5) (hn : n5 < 8) (e1 : v1 = fa_u v 398 (377 + (2 * n5)) a) (e2 : v2 = fa_u v1 398 (377 + (2 * n5) + 1) d) (e3 : v3 = fa_u v2 398 15 (nI (n5 + 1))) :
    nI (n5 + 1) = nI (A.q.length + 1) ∧ fb_mA (v3 398) (A.sq ((a, d) :: A.q)) := by
  obtain ⟨L, hL, hP⟩ := h.2.2.1
  have en : L.length = n5 := fa_nIinj (by have := hL.2.1; omega) (by omega) (hL.1.symm.trans g5)
  have lo : ∀ i, ¬ i = 15 → ¬ (i = 377 + 2 * n5 ∨ i = 377 + 2 * n5 + 1) → v3 398 i = v 398 i := fun i a b => by
    rw [e3, fa_u_n _ _ (by omega), e2, fa_u_n _ _ (by omega), e1, fa_u_n _ _ (by omega)]
  refine ⟨by rw [← hP.length_eq, en], h.rsv (L := L ++ [(a, d)]) (fun i b c => lo i b (by omega)) ⟨by rw [e3, fa_u_s, List.length_append, en]; rfl, by rw [List.length_append, en]; show n5 + 1 ≤ 8; omega, fun p y hy => ?_⟩ ((List.perm_append_singleton _ _).trans (hP.cons _))⟩
  have hp : p < (L ++ [(a, d)]).length := (List.getElem?_eq_some_iff.mp hy).1
  rw [List.length_append, en] at hp
  have hp' : p < n5 + 1 := hp
  by_cases z : p = n5
  · subst z
    rw [List.getElem?_append_right (by omega), en, Nat.sub_self] at hy
    have hy' : some (a, d) = some y := hy
    rw [← Option.some.inj hy']
    refine ⟨?_, ?_⟩
    · rw [e3, fa_u_n _ _ (by omega), e2, fa_u_n _ _ (by omega), e1, fa_u_s]
    · rw [e3, fa_u_n _ _ (by omega), e2, fa_u_s]
  · rw [List.getElem?_append_left (by omega)] at hy
    rw [lo _ (by omega) (by omega), lo _ (by omega) (by omega)]
    exact hL.2.2 p y hy
theorem fb_m_can {f f2 : Nat → Int32} {A : fb_At} {a d : Int32} {u n5 : Nat} (h : fb_mA f A) (g5 : f 15 = nI n5) (hn : n5 ≤ 8) (hu : u < n5) (ha : f (377 + 2 * u) = a) (hd : f (377 + 2 * u + 1) = d) (hr : fb_mRM f f2 u) : nI (n5 - 1) = nI (A.q.length - 1) ∧ fb_mA f2 (A.sq (A.q.erase (a, d))) := by
  obtain ⟨L, hL, hP⟩ := h.2.2.1
  have en : L.length = n5 := fa_nIinj (by have := hL.2.1; omega) (by omega) (hL.1.symm.trans g5)
  have hul : u < L.length := by omega
  have eu : L[u] = (a, d) := by rw [hL.at hul, ha, hd]
  refine ⟨by rw [← hP.length_eq, en], h.rsv hr.1 (hr.2 L hL hul) ?_⟩
  have p1 : L.Perm ((a, d) :: L.eraseIdx u) := by rw [← eu]; exact fb_eraseP hul
  have mem : (a, d) ∈ A.q := hP.mem_iff.mp (by rw [← eu]; exact List.getElem_mem hul)
  have p2 : A.q.Perm ((a, d) :: A.q.erase (a, d)) := List.perm_cons_erase mem
  exact ((p1.symm.trans hP).trans p2).cons_inv
theorem fb_st5 {j : Nat} (h : j < 5) : fa_stV 1 j = nI 30 ∧ fa_stV 2 j = nI 2000 := by
  have : j = 0 ∨ j = 1 ∨ j = 2 ∨ j = 3 ∨ j = 4 := by omega
  rcases this with z | z | z | z | z <;> (rw [z]; decide)
theorem fb_st6 {j : Nat} (h : j = 5) : fa_stV 1 j = nI 1 ∧ fa_stV 2 j = nI 20 := by
  rw [h]; decide
theorem fb_st7 {j : Nat} (h : 5 ≤ j) (h2 : j ≤ 6) (h3 : ¬ j = 5) : fa_stV 1 j = nI 50 ∧ fa_stV 2 j = nI 600 := by
  have : j = 6 := by omega
  rw [this]; decide
set_option maxHeartbeats 4000000 in
set_option maxRecDepth 100000 in
theorem r_recorded (l : Launch) (G : fa_G) (n : Nat) (hn : 406 ≤ n) (v : fa_V) (r : fa_R) (hM : fa_RM r) (hJ : fa_MJ v) (a1 : Int32) : fa_MI l G n yX7_recorded cX7_recorded 3 (some .int) 2 [.ref (fa_B G + (397)), .int (a1)] v r (fa_voi r (fun x v1 => ((fa_MJ v1) ∧ (v1 397 9 = v 397 9) ∧ (v1 397 8 = v 397 8) ∧ (x = a1 ∧ v1 398 = v 398 ∧ ∀ A H, fb_okA A → fb_mA (v 399) A → fb_mH v H → fb_mH v1 (fb_rec H A a1))) ∧ (fa_fr (397) (402) v v1))) := by
  refine fa_startI (by decide +kernel) (Nat.le_of_ble_eq_true rfl) (fun p e s m args below meth c ls Q CX hl HX RET => ?_)
  have hl : lv_has ls 3 [(0, .ref (fa_B G + (397))), (1, .int (a1))] := hl
  have hx := CX.1.1
  have hb := CX.1.2.1
  have hS := hJ.1
  obtain ⟨n4, en4⟩ : ∃ m, m = fa_N (v 398 14) := ⟨_, rfl⟩
  obtain ⟨hn4, g4⟩ := hS.n4 en4
  obtain ⟨n5, en5⟩ : ∃ m, m = fa_N (v 398 15) := ⟨_, rfl⟩
  obtain ⟨hn5, g5⟩ := hS.n5 en5
  obtain ⟨n6, en6⟩ : ∃ m, m = fa_N (v 398 16) := ⟨_, rfl⟩
  obtain ⟨hn6, g6⟩ := hS.n6 en6
  obtain ⟨n10, hn10, g10⟩ := hJ.2.2.2.2.1
  obtain ⟨n9, hn9, g9⟩ := hJ.2.2.2.2.2
  refine lv_iload_n hx hb dX7_recorded_0 rfl (lv_at hl 1 rfl) ?_
  refine lv_if_ge (tgt := 10) hx hb dX7_recorded_1 (by decide) (fun c_1 => ?_) (fun c_1 => ?_)
  · refine lv_aload_n hx hb dX7_recorded_10 rfl (lv_at hl 0 rfl) ?_
    refine fa_geti (k := 397) CX HX fl_X7_40 (by omega) rfl rfl dX7_recorded_11 ?_
    rw [show v 397 10 = nI (n10) from g10]
    refine lv_iconst (v := nI (4)) hx hb dX7_recorded_14 (by decide) ?_
    refine lv_icmp_ne (tgt := 59) hx hb dX7_recorded_15 (by decide) (fun c_15 => ?_) (fun c_15 => ?_)
    · have hne : ¬ n10 = 4 := fun z => c_15 (by rw [z])
      refine lv_iconst (v := nI (0)) hx hb dX7_recorded_59 (by decide) ?_
      refine lv_istore_n (lv' := [(2, .int (nI (0))), (0, .ref (fa_B G + (397))), (1, .int (a1))]) hx hb dX7_recorded_60 rfl hl (by decide) rfl (fun ls hl => ?_)
      have LOOP_61 : ∀ (fu : Nat) (k : Nat) (v2500 : fa_V) (H : Heap) (locs : List Loc) (ls : Array Slot), 453 - k < fu → (k ≤ 453 ∧ fa_MB (v2500 401) ∧ fa_fr 401 402 v v2500 ∧ ∀ i, v2500 401 i = if 453 * n10 ≤ i ∧ i < 453 * n10 + k then v 399 (i - 453 * n10) else v 401 i) → lv_has ls 3 [(0, .ref (fa_B G + (397))), (1, .int (a1)), (2, .int (nI (k)))] → fa_HX G (n) v2500 r s H locs → W p l e (fa_rm 2) s m args below meth c H locs (0) (0) Q (F0 m 61 ls []) := by
        intro fu
        induction fu with
        | zero => intro k v2500 H locs ls hk; exact absurd hk (Nat.not_lt_zero _)
        | succ fu ih_61 =>
          intro k v2500 H locs ls hk_61 hi_61 hl HX2501
          refine lv_iload_n hx hb dX7_recorded_61 rfl (lv_at hl 2 rfl) ?_
          refine lv_sipush (v := nI (453)) hx hb dX7_recorded_62 (by decide) ?_
          refine lv_icmp_ge (tgt := 95) hx hb dX7_recorded_65 (by decide) (fun c_65 => ?_) (fun c_65 => ?_)
          · refine lv_aload_n hx hb dX7_recorded_95 rfl (lv_at hl 0 rfl) ?_
            refine lv_dup hx hb dX7_recorded_96 rfl ?_
            refine fa_geti (k := 397) CX HX2501 fl_X7_40 (by omega) rfl rfl dX7_recorded_97 ?_
            rw [show v2500 397 10 = nI (n10) from (by rw [hi_61.2.2.1 _ (by omega)]; exact g10)]
            refine lv_iconst (v := nI (1)) hx hb dX7_recorded_100 (by decide) ?_
            refine fa_iaddN hx hb dX7_recorded_101 ?_
            refine fa_puti (k := 397) CX HX2501 fl_X7_40 (by omega) rfl rfl rfl rfl dX7_recorded_102 (fun H locs v2502 e2503 HX2504 => ?_)
            refine lv_iload_n hx hb dX7_recorded_105 rfl (lv_at hl 1 rfl) ?_
            exact RET _ _ _ _ _ _ _ HX2504 dX7_recorded_106 (⟨rfl, ⟨⟨(show fa_MJ v2502 from ⟨(show fa_MS (v2502 398) from by rw [e2503, fa_u_k _ _ (by decide)]; exact (show fa_MS (v2500 398) from by rw [hi_61.2.2.1 398 (by omega)]; exact hJ.1)), (show fa_MS (v2502 399) from by rw [e2503, fa_u_k _ _ (by decide)]; exact (show fa_MS (v2500 399) from by rw [hi_61.2.2.1 399 (by omega)]; exact hJ.2.1)), (show fa_MS (v2502 400) from by rw [e2503, fa_u_k _ _ (by decide)]; exact (show fa_MS (v2500 400) from by rw [hi_61.2.2.1 400 (by omega)]; exact hJ.2.2.1)), (show fa_MB (v2502 401) from by rw [e2503, fa_u_k _ _ (by decide)]; exact hi_61.2.1), ⟨n10 + 1, by omega, (by rw [e2503, fa_u_s])⟩, ⟨n9, by omega, (by rw [e2503, fa_u_n _ _ (by omega)]; exact (by rw [hi_61.2.2.1 _ (by omega)]; exact g9))⟩⟩), (show v2502 397 9 = v 397 9 from ((show v2502 397 9 = nI (n9) from (by rw [e2503, fa_u_n _ _ (by omega)]; exact (by rw [hi_61.2.2.1 _ (by omega)]; exact g9))).trans g9.symm)), (show v2502 397 8 = v 397 8 from ((show v2502 397 8 = v2500 397 8 from by rw [e2503, fa_u_n _ _ (by omega)]).trans (congrFun (hi_61.2.2.1 397 (by omega)) 8))), ⟨rfl, (show v2502 398 = v 398 from by rw [e2503, fa_u_k _ _ (by decide), hi_61.2.2.1 398 (by omega)]), fun A H o m h => by (rw [fb_rec_y (Or.inl c_1)]; exact fb_m_rec1 o m h g10 hn10 hne (fa_leN (by omega) (by omega) c_65) hi_61.1 hi_61.2.2.2 e2503)⟩⟩, (by rw [e2503]; exact fa_fr.u (fa_fr.tr fa_fr.rf (fa_fr.wide hi_61.2.2.1 (by omega) (by omega))) (by omega))⟩⟩)
          · have hk := fa_ltN (by omega) (by omega) c_65
            refine lv_aload_n hx hb dX7_recorded_68 rfl (lv_at hl 0 rfl) ?_
            refine fa_getr (k := 397) (j := 401) CX HX2501 fl_X7_19 (by omega) rfl rfl hM.2.2.2.1 dX7_recorded_69 ?_
            refine lv_sipush (v := nI (453)) hx hb dX7_recorded_72 (by decide) ?_
            refine lv_aload_n hx hb dX7_recorded_75 rfl (lv_at hl 0 rfl) ?_
            refine fa_geti (k := 397) CX HX2501 fl_X7_40 (by omega) rfl rfl dX7_recorded_76 ?_
            rw [show v2500 397 10 = nI (n10) from (by rw [hi_61.2.2.1 _ (by omega)]; exact g10)]
            refine fa_imulN hx hb dX7_recorded_79 ?_
            refine lv_iload_n hx hb dX7_recorded_80 rfl (lv_at hl 2 rfl) ?_
            refine fa_iaddN hx hb dX7_recorded_81 ?_
            refine lv_aload_n hx hb dX7_recorded_82 rfl (lv_at hl 0 rfl) ?_
            refine fa_getr (k := 397) (j := 399) CX HX2501 fl_X7_13 (by omega) rfl rfl hM.2.1 dX7_recorded_83 ?_
            refine lv_iload_n hx hb dX7_recorded_86 rfl (lv_at hl 2 rfl) ?_
            refine fa_iald (k := 399) (j := k) CX HX2501 (by omega) rfl (by omega) (by first | decide | assumption) dX7_recorded_87 ?_
            refine fa_iast (k := 401) (j := 453 * n10 + k) CX HX2501 (by omega) rfl (by omega) (by first | decide | assumption) dX7_recorded_88 (fun H locs v2505 e2506 HX2507 => ?_)
            refine lv_iinc (v := nI (k + 1)) (lv' := [(2, .int (nI (k + 1))), (0, .ref (fa_B G + (397))), (1, .int (a1))]) hx hb dX7_recorded_89 hl (k := 2) rfl (nI_add (k) 1) (by decide) rfl (fun ls hl => ?_)
            refine lv_goto (tgt := 61) hx hb dX7_recorded_92 (by decide) ?_
            exact ih_61 (k + 1) v2505 _ _ _ (by omega) (⟨by omega, (show fa_MB (v2505 401) from by rw [e2506]; exact fa_MB.u hi_61.2.1 (fa_okb (by omega) ((show fa_MS (v2500 399) from by rw [hi_61.2.2.1 399 (by omega)]; exact hJ.2.1) k (by omega)))), (by rw [e2506]; exact fa_fr.u hi_61.2.2.1 (by omega)), fb_m_cpy (f := v 399) (g := v 401) hi_61.2.2.2 e2506 (congrFun (hi_61.2.2.1 399 (by omega)) k)⟩) (lv_sub hl [1, 2, 0] rfl) HX2507
      exact LOOP_61 (453 - 0 + 1) (0) v _ _ _ (Nat.lt_succ_self _) (⟨Nat.zero_le _, hJ.2.2.2.1, fa_fr.rf, fun i => (if_neg (by omega)).symm⟩) (lv_sub hl [1, 2, 0] rfl) HX
    · have he : n10 = 4 := fa_nIinj (by omega) (by omega) c_15
      refine lv_iconst (v := nI (0)) hx hb dX7_recorded_18 (by decide) ?_
      refine lv_istore_n (lv' := [(2, .int (nI (0))), (0, .ref (fa_B G + (397))), (1, .int (a1))]) hx hb dX7_recorded_19 rfl hl (by decide) rfl (fun ls hl => ?_)
      have LOOP_20 : ∀ (fu : Nat) (k : Nat) (v2508 : fa_V) (H : Heap) (locs : List Loc) (ls : Array Slot), 1359 - k < fu → (k ≤ 1359 ∧ fa_MB (v2508 401) ∧ fa_fr 401 402 v v2508 ∧ ∀ i, v2508 401 i = if i < k then v 401 (453 + i) else v 401 i) → lv_has ls 3 [(0, .ref (fa_B G + (397))), (1, .int (a1)), (2, .int (nI (k)))] → fa_HX G (n) v2508 r s H locs → W p l e (fa_rm 2) s m args below meth c H locs (0) (0) Q (F0 m 20 ls []) := by
        intro fu
        induction fu with
        | zero => intro k v2508 H locs ls hk; exact absurd hk (Nat.not_lt_zero _)
        | succ fu ih_20 =>
          intro k v2508 H locs ls hk_20 hi_20 hl HX2509
          refine lv_iload_n hx hb dX7_recorded_20 rfl (lv_at hl 2 rfl) ?_
          refine lv_sipush (v := nI (1359)) hx hb dX7_recorded_21 (by decide) ?_
          refine lv_icmp_ge (tgt := 49) hx hb dX7_recorded_24 (by decide) (fun c_24 => ?_) (fun c_24 => ?_)
          · refine lv_aload_n hx hb dX7_recorded_49 rfl (lv_at hl 0 rfl) ?_
            refine lv_dup hx hb dX7_recorded_50 rfl ?_
            refine fa_geti (k := 397) CX HX2509 fl_X7_40 (by omega) rfl rfl dX7_recorded_51 ?_
            rw [show v2508 397 10 = nI (n10) from (by rw [hi_20.2.2.1 _ (by omega)]; exact g10)]
            refine lv_iconst (v := nI (1)) hx hb dX7_recorded_54 (by decide) ?_
            refine fa_isubN hx hb dX7_recorded_55 (by omega) ?_
            refine fa_puti (k := 397) CX HX2509 fl_X7_40 (by omega) rfl rfl rfl rfl dX7_recorded_56 (fun H locs v2510 e2511 HX2512 => ?_)
            refine lv_iconst (v := nI (0)) hx hb dX7_recorded_59 (by decide) ?_
            refine lv_istore_n (lv' := [(2, .int (nI (0))), (0, .ref (fa_B G + (397))), (1, .int (a1))]) hx hb dX7_recorded_60 rfl hl (by decide) rfl (fun ls hl => ?_)
            have LOOP_61 : ∀ (fu : Nat) (k : Nat) (v2513 : fa_V) (H : Heap) (locs : List Loc) (ls : Array Slot), 453 - k < fu → (k ≤ 453 ∧ fa_MB (v2513 401) ∧ fa_fr 401 402 v2510 v2513 ∧ ∀ i, v2513 401 i = if 453 * (n10 - 1) ≤ i ∧ i < 453 * (n10 - 1) + k then v2510 399 (i - 453 * (n10 - 1)) else v2510 401 i) → lv_has ls 3 [(0, .ref (fa_B G + (397))), (1, .int (a1)), (2, .int (nI (k)))] → fa_HX G (n) v2513 r s H locs → W p l e (fa_rm 2) s m args below meth c H locs (0) (0) Q (F0 m 61 ls []) := by
              intro fu
              induction fu with
              | zero => intro k v2513 H locs ls hk; exact absurd hk (Nat.not_lt_zero _)
              | succ fu ih_61 =>
                intro k v2513 H locs ls hk_61 hi_61 hl HX2514
                refine lv_iload_n hx hb dX7_recorded_61 rfl (lv_at hl 2 rfl) ?_
                refine lv_sipush (v := nI (453)) hx hb dX7_recorded_62 (by decide) ?_
                refine lv_icmp_ge (tgt := 95) hx hb dX7_recorded_65 (by decide) (fun c_65 => ?_) (fun c_65 => ?_)
                · refine lv_aload_n hx hb dX7_recorded_95 rfl (lv_at hl 0 rfl) ?_
                  refine lv_dup hx hb dX7_recorded_96 rfl ?_
                  refine fa_geti (k := 397) CX HX2514 fl_X7_40 (by omega) rfl rfl dX7_recorded_97 ?_
                  rw [show v2513 397 10 = nI (n10 - 1) from (by rw [hi_61.2.2.1 _ (by omega)]; exact (by rw [e2511, fa_u_s]))]
                  refine lv_iconst (v := nI (1)) hx hb dX7_recorded_100 (by decide) ?_
                  refine fa_iaddN hx hb dX7_recorded_101 ?_
                  refine fa_puti (k := 397) CX HX2514 fl_X7_40 (by omega) rfl rfl rfl rfl dX7_recorded_102 (fun H locs v2515 e2516 HX2517 => ?_)
                  refine lv_iload_n hx hb dX7_recorded_105 rfl (lv_at hl 1 rfl) ?_
                  exact RET _ _ _ _ _ _ _ HX2517 dX7_recorded_106 (⟨rfl, ⟨⟨(show fa_MJ v2515 from ⟨(show fa_MS (v2515 398) from by rw [e2516, fa_u_k _ _ (by decide)]; exact (show fa_MS (v2513 398) from by rw [hi_61.2.2.1 398 (by omega)]; exact (show fa_MS (v2510 398) from by rw [e2511, fa_u_k _ _ (by decide)]; exact (show fa_MS (v2508 398) from by rw [hi_20.2.2.1 398 (by omega)]; exact hJ.1)))), (show fa_MS (v2515 399) from by rw [e2516, fa_u_k _ _ (by decide)]; exact (show fa_MS (v2513 399) from by rw [hi_61.2.2.1 399 (by omega)]; exact (show fa_MS (v2510 399) from by rw [e2511, fa_u_k _ _ (by decide)]; exact (show fa_MS (v2508 399) from by rw [hi_20.2.2.1 399 (by omega)]; exact hJ.2.1)))), (show fa_MS (v2515 400) from by rw [e2516, fa_u_k _ _ (by decide)]; exact (show fa_MS (v2513 400) from by rw [hi_61.2.2.1 400 (by omega)]; exact (show fa_MS (v2510 400) from by rw [e2511, fa_u_k _ _ (by decide)]; exact (show fa_MS (v2508 400) from by rw [hi_20.2.2.1 400 (by omega)]; exact hJ.2.2.1)))), (show fa_MB (v2515 401) from by rw [e2516, fa_u_k _ _ (by decide)]; exact hi_61.2.1), ⟨n10 - 1 + 1, by omega, (by rw [e2516, fa_u_s])⟩, ⟨n9, by omega, (by rw [e2516, fa_u_n _ _ (by omega)]; exact (by rw [hi_61.2.2.1 _ (by omega)]; exact (by rw [e2511, fa_u_n _ _ (by omega)]; exact (by rw [hi_20.2.2.1 _ (by omega)]; exact g9))))⟩⟩), (show v2515 397 9 = v 397 9 from ((show v2515 397 9 = nI (n9) from (by rw [e2516, fa_u_n _ _ (by omega)]; exact (by rw [hi_61.2.2.1 _ (by omega)]; exact (by rw [e2511, fa_u_n _ _ (by omega)]; exact (by rw [hi_20.2.2.1 _ (by omega)]; exact g9))))).trans g9.symm)), (show v2515 397 8 = v 397 8 from ((show v2515 397 8 = v2513 397 8 from by rw [e2516, fa_u_n _ _ (by omega)]).trans ((congrFun (hi_61.2.2.1 397 (by omega)) 8).trans ((show v2510 397 8 = v2508 397 8 from by rw [e2511, fa_u_n _ _ (by omega)]).trans (congrFun (hi_20.2.2.1 397 (by omega)) 8))))), ⟨rfl, (show v2515 398 = v 398 from by rw [e2516, fa_u_k _ _ (by decide), hi_61.2.2.1 398 (by omega), e2511, fa_u_k _ _ (by decide), hi_20.2.2.1 398 (by omega)]), fun A H o m h => by (rw [fb_rec_y (Or.inl c_1)]; exact fb_m_rec2 o m h g10 he (fa_leN (by omega) (by omega) c_24) hi_20.1 hi_20.2.2.1 hi_20.2.2.2 e2511 (fa_leN (by omega) (by omega) c_65) hi_61.1 hi_61.2.2.2 e2516)⟩⟩, (by rw [e2516]; exact fa_fr.u (fa_fr.tr (by rw [e2511]; exact fa_fr.u (fa_fr.tr fa_fr.rf (fa_fr.wide hi_20.2.2.1 (by omega) (by omega))) (by omega)) (fa_fr.wide hi_61.2.2.1 (by omega) (by omega))) (by omega))⟩⟩)
                · have hk := fa_ltN (by omega) (by omega) c_65
                  refine lv_aload_n hx hb dX7_recorded_68 rfl (lv_at hl 0 rfl) ?_
                  refine fa_getr (k := 397) (j := 401) CX HX2514 fl_X7_19 (by omega) rfl rfl hM.2.2.2.1 dX7_recorded_69 ?_
                  refine lv_sipush (v := nI (453)) hx hb dX7_recorded_72 (by decide) ?_
                  refine lv_aload_n hx hb dX7_recorded_75 rfl (lv_at hl 0 rfl) ?_
                  refine fa_geti (k := 397) CX HX2514 fl_X7_40 (by omega) rfl rfl dX7_recorded_76 ?_
                  rw [show v2513 397 10 = nI (n10 - 1) from (by rw [hi_61.2.2.1 _ (by omega)]; exact (by rw [e2511, fa_u_s]))]
                  refine fa_imulN hx hb dX7_recorded_79 ?_
                  refine lv_iload_n hx hb dX7_recorded_80 rfl (lv_at hl 2 rfl) ?_
                  refine fa_iaddN hx hb dX7_recorded_81 ?_
                  refine lv_aload_n hx hb dX7_recorded_82 rfl (lv_at hl 0 rfl) ?_
                  refine fa_getr (k := 397) (j := 399) CX HX2514 fl_X7_13 (by omega) rfl rfl hM.2.1 dX7_recorded_83 ?_
                  refine lv_iload_n hx hb dX7_recorded_86 rfl (lv_at hl 2 rfl) ?_
                  refine fa_iald (k := 399) (j := k) CX HX2514 (by omega) rfl (by omega) (by first | decide | assumption) dX7_recorded_87 ?_
                  refine fa_iast (k := 401) (j := 453 * (n10 - 1) + k) CX HX2514 (by omega) rfl (by omega) (by first | decide | assumption) dX7_recorded_88 (fun H locs v2518 e2519 HX2520 => ?_)
                  refine lv_iinc (v := nI (k + 1)) (lv' := [(2, .int (nI (k + 1))), (0, .ref (fa_B G + (397))), (1, .int (a1))]) hx hb dX7_recorded_89 hl (k := 2) rfl (nI_add (k) 1) (by decide) rfl (fun ls hl => ?_)
                  refine lv_goto (tgt := 61) hx hb dX7_recorded_92 (by decide) ?_
                  exact ih_61 (k + 1) v2518 _ _ _ (by omega) (⟨by omega, (show fa_MB (v2518 401) from by rw [e2519]; exact fa_MB.u hi_61.2.1 (fa_okb (by omega) ((show fa_MS (v2513 399) from by rw [hi_61.2.2.1 399 (by omega)]; exact (show fa_MS (v2510 399) from by rw [e2511, fa_u_k _ _ (by decide)]; exact (show fa_MS (v2508 399) from by rw [hi_20.2.2.1 399 (by omega)]; exact hJ.2.1))) k (by omega)))), (by rw [e2519]; exact fa_fr.u hi_61.2.2.1 (by omega)), fb_m_cpy (f := v2510 399) (g := v2510 401) hi_61.2.2.2 e2519 (congrFun (hi_61.2.2.1 399 (by omega)) k)⟩) (lv_sub hl [1, 2, 0] rfl) HX2520
            exact LOOP_61 (453 - 0 + 1) (0) v2510 _ _ _ (Nat.lt_succ_self _) (⟨Nat.zero_le _, (show fa_MB (v2510 401) from by rw [e2511, fa_u_k _ _ (by decide)]; exact hi_20.2.1), fa_fr.rf, fun i => (if_neg (by omega)).symm⟩) (lv_sub hl [1, 2, 0] rfl) HX2512
          · have hk := fa_ltN (by omega) (by omega) c_24
            refine lv_aload_n hx hb dX7_recorded_27 rfl (lv_at hl 0 rfl) ?_
            refine fa_getr (k := 397) (j := 401) CX HX2509 fl_X7_19 (by omega) rfl rfl hM.2.2.2.1 dX7_recorded_28 ?_
            refine lv_iload_n hx hb dX7_recorded_31 rfl (lv_at hl 2 rfl) ?_
            refine lv_aload_n hx hb dX7_recorded_32 rfl (lv_at hl 0 rfl) ?_
            refine fa_getr (k := 397) (j := 401) CX HX2509 fl_X7_19 (by omega) rfl rfl hM.2.2.2.1 dX7_recorded_33 ?_
            refine lv_sipush (v := nI (453)) hx hb dX7_recorded_36 (by decide) ?_
            refine lv_iload_n hx hb dX7_recorded_39 rfl (lv_at hl 2 rfl) ?_
            refine fa_iaddN hx hb dX7_recorded_40 ?_
            refine fa_iald (k := 401) (j := 453 + k) CX HX2509 (by omega) rfl (by omega) (by first | decide | assumption) dX7_recorded_41 ?_
            refine fa_iast (k := 401) (j := k) CX HX2509 (by omega) rfl (by omega) (by first | decide | assumption) dX7_recorded_42 (fun H locs v2521 e2522 HX2523 => ?_)
            refine lv_iinc (v := nI (k + 1)) (lv' := [(2, .int (nI (k + 1))), (0, .ref (fa_B G + (397))), (1, .int (a1))]) hx hb dX7_recorded_43 hl (k := 2) rfl (nI_add (k) 1) (by decide) rfl (fun ls hl => ?_)
            refine lv_goto (tgt := 20) hx hb dX7_recorded_46 (by decide) ?_
            exact ih_20 (k + 1) v2521 _ _ _ (by omega) (⟨by omega, (show fa_MB (v2521 401) from by rw [e2522]; exact fa_MB.u hi_20.2.1 (fa_okm hi_20.2.1 (by omega))), (by rw [e2522]; exact fa_fr.u hi_20.2.2.1 (by omega)), fb_m_dwn hi_20.2.2.2 e2522⟩) (lv_sub hl [1, 2, 0] rfl) HX2523
      exact LOOP_20 (1359 - 0 + 1) (0) v _ _ _ (Nat.lt_succ_self _) (⟨Nat.zero_le _, hJ.2.2.2.1, fa_fr.rf, fun i => (if_neg (by omega)).symm⟩) (lv_sub hl [1, 2, 0] rfl) HX
  · refine lv_iload_n hx hb dX7_recorded_4 rfl (lv_at hl 1 rfl) ?_
    refine lv_bipush (v := (-6 : Int32)) hx hb dX7_recorded_5 (by decide) ?_
    refine lv_icmp_ne (tgt := 105) hx hb dX7_recorded_7 (by decide) (fun c_7 => ?_) (fun c_7 => ?_)
    · refine lv_iload_n hx hb dX7_recorded_105 rfl (lv_at hl 1 rfl) ?_
      exact RET _ _ _ _ _ _ _ HX dX7_recorded_106 (⟨rfl, ⟨⟨hJ, (show v 397 9 = v 397 9 from rfl), (show v 397 8 = v 397 8 from rfl), ⟨rfl, rfl, fun A H _ _ h => by (rw [fb_rec_n (fun z => z.elim c_1 c_7)]; exact h)⟩⟩, fa_fr.rf⟩⟩)
    · refine lv_aload_n hx hb dX7_recorded_10 rfl (lv_at hl 0 rfl) ?_
      refine fa_geti (k := 397) CX HX fl_X7_40 (by omega) rfl rfl dX7_recorded_11 ?_
      rw [show v 397 10 = nI (n10) from g10]
      refine lv_iconst (v := nI (4)) hx hb dX7_recorded_14 (by decide) ?_
      refine lv_icmp_ne (tgt := 59) hx hb dX7_recorded_15 (by decide) (fun c_15 => ?_) (fun c_15 => ?_)
      · have hne : ¬ n10 = 4 := fun z => c_15 (by rw [z])
        refine lv_iconst (v := nI (0)) hx hb dX7_recorded_59 (by decide) ?_
        refine lv_istore_n (lv' := [(2, .int (nI (0))), (0, .ref (fa_B G + (397))), (1, .int (a1))]) hx hb dX7_recorded_60 rfl hl (by decide) rfl (fun ls hl => ?_)
        have LOOP_61 : ∀ (fu : Nat) (k : Nat) (v2524 : fa_V) (H : Heap) (locs : List Loc) (ls : Array Slot), 453 - k < fu → (k ≤ 453 ∧ fa_MB (v2524 401) ∧ fa_fr 401 402 v v2524 ∧ ∀ i, v2524 401 i = if 453 * n10 ≤ i ∧ i < 453 * n10 + k then v 399 (i - 453 * n10) else v 401 i) → lv_has ls 3 [(0, .ref (fa_B G + (397))), (1, .int (a1)), (2, .int (nI (k)))] → fa_HX G (n) v2524 r s H locs → W p l e (fa_rm 2) s m args below meth c H locs (0) (0) Q (F0 m 61 ls []) := by
          intro fu
          induction fu with
          | zero => intro k v2524 H locs ls hk; exact absurd hk (Nat.not_lt_zero _)
          | succ fu ih_61 =>
            intro k v2524 H locs ls hk_61 hi_61 hl HX2525
            refine lv_iload_n hx hb dX7_recorded_61 rfl (lv_at hl 2 rfl) ?_
            refine lv_sipush (v := nI (453)) hx hb dX7_recorded_62 (by decide) ?_
            refine lv_icmp_ge (tgt := 95) hx hb dX7_recorded_65 (by decide) (fun c_65 => ?_) (fun c_65 => ?_)
            · refine lv_aload_n hx hb dX7_recorded_95 rfl (lv_at hl 0 rfl) ?_
              refine lv_dup hx hb dX7_recorded_96 rfl ?_
              refine fa_geti (k := 397) CX HX2525 fl_X7_40 (by omega) rfl rfl dX7_recorded_97 ?_
              rw [show v2524 397 10 = nI (n10) from (by rw [hi_61.2.2.1 _ (by omega)]; exact g10)]
              refine lv_iconst (v := nI (1)) hx hb dX7_recorded_100 (by decide) ?_
              refine fa_iaddN hx hb dX7_recorded_101 ?_
              refine fa_puti (k := 397) CX HX2525 fl_X7_40 (by omega) rfl rfl rfl rfl dX7_recorded_102 (fun H locs v2526 e2527 HX2528 => ?_)
              refine lv_iload_n hx hb dX7_recorded_105 rfl (lv_at hl 1 rfl) ?_
              exact RET _ _ _ _ _ _ _ HX2528 dX7_recorded_106 (⟨rfl, ⟨⟨(show fa_MJ v2526 from ⟨(show fa_MS (v2526 398) from by rw [e2527, fa_u_k _ _ (by decide)]; exact (show fa_MS (v2524 398) from by rw [hi_61.2.2.1 398 (by omega)]; exact hJ.1)), (show fa_MS (v2526 399) from by rw [e2527, fa_u_k _ _ (by decide)]; exact (show fa_MS (v2524 399) from by rw [hi_61.2.2.1 399 (by omega)]; exact hJ.2.1)), (show fa_MS (v2526 400) from by rw [e2527, fa_u_k _ _ (by decide)]; exact (show fa_MS (v2524 400) from by rw [hi_61.2.2.1 400 (by omega)]; exact hJ.2.2.1)), (show fa_MB (v2526 401) from by rw [e2527, fa_u_k _ _ (by decide)]; exact hi_61.2.1), ⟨n10 + 1, by omega, (by rw [e2527, fa_u_s])⟩, ⟨n9, by omega, (by rw [e2527, fa_u_n _ _ (by omega)]; exact (by rw [hi_61.2.2.1 _ (by omega)]; exact g9))⟩⟩), (show v2526 397 9 = v 397 9 from ((show v2526 397 9 = nI (n9) from (by rw [e2527, fa_u_n _ _ (by omega)]; exact (by rw [hi_61.2.2.1 _ (by omega)]; exact g9))).trans g9.symm)), (show v2526 397 8 = v 397 8 from ((show v2526 397 8 = v2524 397 8 from by rw [e2527, fa_u_n _ _ (by omega)]).trans (congrFun (hi_61.2.2.1 397 (by omega)) 8))), ⟨rfl, (show v2526 398 = v 398 from by rw [e2527, fa_u_k _ _ (by decide), hi_61.2.2.1 398 (by omega)]), fun A H o m h => by (rw [fb_rec_y (Or.inr (by first | exact c_7 | exact Decidable.not_not.mp c_7))]; exact fb_m_rec1 o m h g10 hn10 hne (fa_leN (by omega) (by omega) c_65) hi_61.1 hi_61.2.2.2 e2527)⟩⟩, (by rw [e2527]; exact fa_fr.u (fa_fr.tr fa_fr.rf (fa_fr.wide hi_61.2.2.1 (by omega) (by omega))) (by omega))⟩⟩)
            · have hk := fa_ltN (by omega) (by omega) c_65
              refine lv_aload_n hx hb dX7_recorded_68 rfl (lv_at hl 0 rfl) ?_
              refine fa_getr (k := 397) (j := 401) CX HX2525 fl_X7_19 (by omega) rfl rfl hM.2.2.2.1 dX7_recorded_69 ?_
              refine lv_sipush (v := nI (453)) hx hb dX7_recorded_72 (by decide) ?_
              refine lv_aload_n hx hb dX7_recorded_75 rfl (lv_at hl 0 rfl) ?_
              refine fa_geti (k := 397) CX HX2525 fl_X7_40 (by omega) rfl rfl dX7_recorded_76 ?_
              rw [show v2524 397 10 = nI (n10) from (by rw [hi_61.2.2.1 _ (by omega)]; exact g10)]
              refine fa_imulN hx hb dX7_recorded_79 ?_
              refine lv_iload_n hx hb dX7_recorded_80 rfl (lv_at hl 2 rfl) ?_
              refine fa_iaddN hx hb dX7_recorded_81 ?_
              refine lv_aload_n hx hb dX7_recorded_82 rfl (lv_at hl 0 rfl) ?_
              refine fa_getr (k := 397) (j := 399) CX HX2525 fl_X7_13 (by omega) rfl rfl hM.2.1 dX7_recorded_83 ?_
              refine lv_iload_n hx hb dX7_recorded_86 rfl (lv_at hl 2 rfl) ?_
              refine fa_iald (k := 399) (j := k) CX HX2525 (by omega) rfl (by omega) (by first | decide | assumption) dX7_recorded_87 ?_
              refine fa_iast (k := 401) (j := 453 * n10 + k) CX HX2525 (by omega) rfl (by omega) (by first | decide | assumption) dX7_recorded_88 (fun H locs v2529 e2530 HX2531 => ?_)
              refine lv_iinc (v := nI (k + 1)) (lv' := [(2, .int (nI (k + 1))), (0, .ref (fa_B G + (397))), (1, .int (a1))]) hx hb dX7_recorded_89 hl (k := 2) rfl (nI_add (k) 1) (by decide) rfl (fun ls hl => ?_)
              refine lv_goto (tgt := 61) hx hb dX7_recorded_92 (by decide) ?_
              exact ih_61 (k + 1) v2529 _ _ _ (by omega) (⟨by omega, (show fa_MB (v2529 401) from by rw [e2530]; exact fa_MB.u hi_61.2.1 (fa_okb (by omega) ((show fa_MS (v2524 399) from by rw [hi_61.2.2.1 399 (by omega)]; exact hJ.2.1) k (by omega)))), (by rw [e2530]; exact fa_fr.u hi_61.2.2.1 (by omega)), fb_m_cpy (f := v 399) (g := v 401) hi_61.2.2.2 e2530 (congrFun (hi_61.2.2.1 399 (by omega)) k)⟩) (lv_sub hl [1, 2, 0] rfl) HX2531
        exact LOOP_61 (453 - 0 + 1) (0) v _ _ _ (Nat.lt_succ_self _) (⟨Nat.zero_le _, hJ.2.2.2.1, fa_fr.rf, fun i => (if_neg (by omega)).symm⟩) (lv_sub hl [1, 2, 0] rfl) HX
      · have he : n10 = 4 := fa_nIinj (by omega) (by omega) c_15
        refine lv_iconst (v := nI (0)) hx hb dX7_recorded_18 (by decide) ?_
        refine lv_istore_n (lv' := [(2, .int (nI (0))), (0, .ref (fa_B G + (397))), (1, .int (a1))]) hx hb dX7_recorded_19 rfl hl (by decide) rfl (fun ls hl => ?_)
        have LOOP_20 : ∀ (fu : Nat) (k : Nat) (v2532 : fa_V) (H : Heap) (locs : List Loc) (ls : Array Slot), 1359 - k < fu → (k ≤ 1359 ∧ fa_MB (v2532 401) ∧ fa_fr 401 402 v v2532 ∧ ∀ i, v2532 401 i = if i < k then v 401 (453 + i) else v 401 i) → lv_has ls 3 [(0, .ref (fa_B G + (397))), (1, .int (a1)), (2, .int (nI (k)))] → fa_HX G (n) v2532 r s H locs → W p l e (fa_rm 2) s m args below meth c H locs (0) (0) Q (F0 m 20 ls []) := by
          intro fu
          induction fu with
          | zero => intro k v2532 H locs ls hk; exact absurd hk (Nat.not_lt_zero _)
          | succ fu ih_20 =>
            intro k v2532 H locs ls hk_20 hi_20 hl HX2533
            refine lv_iload_n hx hb dX7_recorded_20 rfl (lv_at hl 2 rfl) ?_
            refine lv_sipush (v := nI (1359)) hx hb dX7_recorded_21 (by decide) ?_
            refine lv_icmp_ge (tgt := 49) hx hb dX7_recorded_24 (by decide) (fun c_24 => ?_) (fun c_24 => ?_)
            · refine lv_aload_n hx hb dX7_recorded_49 rfl (lv_at hl 0 rfl) ?_
              refine lv_dup hx hb dX7_recorded_50 rfl ?_
              refine fa_geti (k := 397) CX HX2533 fl_X7_40 (by omega) rfl rfl dX7_recorded_51 ?_
              rw [show v2532 397 10 = nI (n10) from (by rw [hi_20.2.2.1 _ (by omega)]; exact g10)]
              refine lv_iconst (v := nI (1)) hx hb dX7_recorded_54 (by decide) ?_
              refine fa_isubN hx hb dX7_recorded_55 (by omega) ?_
              refine fa_puti (k := 397) CX HX2533 fl_X7_40 (by omega) rfl rfl rfl rfl dX7_recorded_56 (fun H locs v2534 e2535 HX2536 => ?_)
              refine lv_iconst (v := nI (0)) hx hb dX7_recorded_59 (by decide) ?_
              refine lv_istore_n (lv' := [(2, .int (nI (0))), (0, .ref (fa_B G + (397))), (1, .int (a1))]) hx hb dX7_recorded_60 rfl hl (by decide) rfl (fun ls hl => ?_)
              have LOOP_61 : ∀ (fu : Nat) (k : Nat) (v2537 : fa_V) (H : Heap) (locs : List Loc) (ls : Array Slot), 453 - k < fu → (k ≤ 453 ∧ fa_MB (v2537 401) ∧ fa_fr 401 402 v2534 v2537 ∧ ∀ i, v2537 401 i = if 453 * (n10 - 1) ≤ i ∧ i < 453 * (n10 - 1) + k then v2534 399 (i - 453 * (n10 - 1)) else v2534 401 i) → lv_has ls 3 [(0, .ref (fa_B G + (397))), (1, .int (a1)), (2, .int (nI (k)))] → fa_HX G (n) v2537 r s H locs → W p l e (fa_rm 2) s m args below meth c H locs (0) (0) Q (F0 m 61 ls []) := by
                intro fu
                induction fu with
                | zero => intro k v2537 H locs ls hk; exact absurd hk (Nat.not_lt_zero _)
                | succ fu ih_61 =>
                  intro k v2537 H locs ls hk_61 hi_61 hl HX2538
                  refine lv_iload_n hx hb dX7_recorded_61 rfl (lv_at hl 2 rfl) ?_
                  refine lv_sipush (v := nI (453)) hx hb dX7_recorded_62 (by decide) ?_
                  refine lv_icmp_ge (tgt := 95) hx hb dX7_recorded_65 (by decide) (fun c_65 => ?_) (fun c_65 => ?_)
                  · refine lv_aload_n hx hb dX7_recorded_95 rfl (lv_at hl 0 rfl) ?_
                    refine lv_dup hx hb dX7_recorded_96 rfl ?_
                    refine fa_geti (k := 397) CX HX2538 fl_X7_40 (by omega) rfl rfl dX7_recorded_97 ?_
                    rw [show v2537 397 10 = nI (n10 - 1) from (by rw [hi_61.2.2.1 _ (by omega)]; exact (by rw [e2535, fa_u_s]))]
                    refine lv_iconst (v := nI (1)) hx hb dX7_recorded_100 (by decide) ?_
                    refine fa_iaddN hx hb dX7_recorded_101 ?_
                    refine fa_puti (k := 397) CX HX2538 fl_X7_40 (by omega) rfl rfl rfl rfl dX7_recorded_102 (fun H locs v2539 e2540 HX2541 => ?_)
                    refine lv_iload_n hx hb dX7_recorded_105 rfl (lv_at hl 1 rfl) ?_
                    exact RET _ _ _ _ _ _ _ HX2541 dX7_recorded_106 (⟨rfl, ⟨⟨(show fa_MJ v2539 from ⟨(show fa_MS (v2539 398) from by rw [e2540, fa_u_k _ _ (by decide)]; exact (show fa_MS (v2537 398) from by rw [hi_61.2.2.1 398 (by omega)]; exact (show fa_MS (v2534 398) from by rw [e2535, fa_u_k _ _ (by decide)]; exact (show fa_MS (v2532 398) from by rw [hi_20.2.2.1 398 (by omega)]; exact hJ.1)))), (show fa_MS (v2539 399) from by rw [e2540, fa_u_k _ _ (by decide)]; exact (show fa_MS (v2537 399) from by rw [hi_61.2.2.1 399 (by omega)]; exact (show fa_MS (v2534 399) from by rw [e2535, fa_u_k _ _ (by decide)]; exact (show fa_MS (v2532 399) from by rw [hi_20.2.2.1 399 (by omega)]; exact hJ.2.1)))), (show fa_MS (v2539 400) from by rw [e2540, fa_u_k _ _ (by decide)]; exact (show fa_MS (v2537 400) from by rw [hi_61.2.2.1 400 (by omega)]; exact (show fa_MS (v2534 400) from by rw [e2535, fa_u_k _ _ (by decide)]; exact (show fa_MS (v2532 400) from by rw [hi_20.2.2.1 400 (by omega)]; exact hJ.2.2.1)))), (show fa_MB (v2539 401) from by rw [e2540, fa_u_k _ _ (by decide)]; exact hi_61.2.1), ⟨n10 - 1 + 1, by omega, (by rw [e2540, fa_u_s])⟩, ⟨n9, by omega, (by rw [e2540, fa_u_n _ _ (by omega)]; exact (by rw [hi_61.2.2.1 _ (by omega)]; exact (by rw [e2535, fa_u_n _ _ (by omega)]; exact (by rw [hi_20.2.2.1 _ (by omega)]; exact g9))))⟩⟩), (show v2539 397 9 = v 397 9 from ((show v2539 397 9 = nI (n9) from (by rw [e2540, fa_u_n _ _ (by omega)]; exact (by rw [hi_61.2.2.1 _ (by omega)]; exact (by rw [e2535, fa_u_n _ _ (by omega)]; exact (by rw [hi_20.2.2.1 _ (by omega)]; exact g9))))).trans g9.symm)), (show v2539 397 8 = v 397 8 from ((show v2539 397 8 = v2537 397 8 from by rw [e2540, fa_u_n _ _ (by omega)]).trans ((congrFun (hi_61.2.2.1 397 (by omega)) 8).trans ((show v2534 397 8 = v2532 397 8 from by rw [e2535, fa_u_n _ _ (by omega)]).trans (congrFun (hi_20.2.2.1 397 (by omega)) 8))))), ⟨rfl, (show v2539 398 = v 398 from by rw [e2540, fa_u_k _ _ (by decide), hi_61.2.2.1 398 (by omega), e2535, fa_u_k _ _ (by decide), hi_20.2.2.1 398 (by omega)]), fun A H o m h => by (rw [fb_rec_y (Or.inr (by first | exact c_7 | exact Decidable.not_not.mp c_7))]; exact fb_m_rec2 o m h g10 he (fa_leN (by omega) (by omega) c_24) hi_20.1 hi_20.2.2.1 hi_20.2.2.2 e2535 (fa_leN (by omega) (by omega) c_65) hi_61.1 hi_61.2.2.2 e2540)⟩⟩, (by rw [e2540]; exact fa_fr.u (fa_fr.tr (by rw [e2535]; exact fa_fr.u (fa_fr.tr fa_fr.rf (fa_fr.wide hi_20.2.2.1 (by omega) (by omega))) (by omega)) (fa_fr.wide hi_61.2.2.1 (by omega) (by omega))) (by omega))⟩⟩)
                  · have hk := fa_ltN (by omega) (by omega) c_65
                    refine lv_aload_n hx hb dX7_recorded_68 rfl (lv_at hl 0 rfl) ?_
                    refine fa_getr (k := 397) (j := 401) CX HX2538 fl_X7_19 (by omega) rfl rfl hM.2.2.2.1 dX7_recorded_69 ?_
                    refine lv_sipush (v := nI (453)) hx hb dX7_recorded_72 (by decide) ?_
                    refine lv_aload_n hx hb dX7_recorded_75 rfl (lv_at hl 0 rfl) ?_
                    refine fa_geti (k := 397) CX HX2538 fl_X7_40 (by omega) rfl rfl dX7_recorded_76 ?_
                    rw [show v2537 397 10 = nI (n10 - 1) from (by rw [hi_61.2.2.1 _ (by omega)]; exact (by rw [e2535, fa_u_s]))]
                    refine fa_imulN hx hb dX7_recorded_79 ?_
                    refine lv_iload_n hx hb dX7_recorded_80 rfl (lv_at hl 2 rfl) ?_
                    refine fa_iaddN hx hb dX7_recorded_81 ?_
                    refine lv_aload_n hx hb dX7_recorded_82 rfl (lv_at hl 0 rfl) ?_
                    refine fa_getr (k := 397) (j := 399) CX HX2538 fl_X7_13 (by omega) rfl rfl hM.2.1 dX7_recorded_83 ?_
                    refine lv_iload_n hx hb dX7_recorded_86 rfl (lv_at hl 2 rfl) ?_
                    refine fa_iald (k := 399) (j := k) CX HX2538 (by omega) rfl (by omega) (by first | decide | assumption) dX7_recorded_87 ?_
                    refine fa_iast (k := 401) (j := 453 * (n10 - 1) + k) CX HX2538 (by omega) rfl (by omega) (by first | decide | assumption) dX7_recorded_88 (fun H locs v2542 e2543 HX2544 => ?_)
                    refine lv_iinc (v := nI (k + 1)) (lv' := [(2, .int (nI (k + 1))), (0, .ref (fa_B G + (397))), (1, .int (a1))]) hx hb dX7_recorded_89 hl (k := 2) rfl (nI_add (k) 1) (by decide) rfl (fun ls hl => ?_)
                    refine lv_goto (tgt := 61) hx hb dX7_recorded_92 (by decide) ?_
                    exact ih_61 (k + 1) v2542 _ _ _ (by omega) (⟨by omega, (show fa_MB (v2542 401) from by rw [e2543]; exact fa_MB.u hi_61.2.1 (fa_okb (by omega) ((show fa_MS (v2537 399) from by rw [hi_61.2.2.1 399 (by omega)]; exact (show fa_MS (v2534 399) from by rw [e2535, fa_u_k _ _ (by decide)]; exact (show fa_MS (v2532 399) from by rw [hi_20.2.2.1 399 (by omega)]; exact hJ.2.1))) k (by omega)))), (by rw [e2543]; exact fa_fr.u hi_61.2.2.1 (by omega)), fb_m_cpy (f := v2534 399) (g := v2534 401) hi_61.2.2.2 e2543 (congrFun (hi_61.2.2.1 399 (by omega)) k)⟩) (lv_sub hl [1, 2, 0] rfl) HX2544
              exact LOOP_61 (453 - 0 + 1) (0) v2534 _ _ _ (Nat.lt_succ_self _) (⟨Nat.zero_le _, (show fa_MB (v2534 401) from by rw [e2535, fa_u_k _ _ (by decide)]; exact hi_20.2.1), fa_fr.rf, fun i => (if_neg (by omega)).symm⟩) (lv_sub hl [1, 2, 0] rfl) HX2536
            · have hk := fa_ltN (by omega) (by omega) c_24
              refine lv_aload_n hx hb dX7_recorded_27 rfl (lv_at hl 0 rfl) ?_
              refine fa_getr (k := 397) (j := 401) CX HX2533 fl_X7_19 (by omega) rfl rfl hM.2.2.2.1 dX7_recorded_28 ?_
              refine lv_iload_n hx hb dX7_recorded_31 rfl (lv_at hl 2 rfl) ?_
              refine lv_aload_n hx hb dX7_recorded_32 rfl (lv_at hl 0 rfl) ?_
              refine fa_getr (k := 397) (j := 401) CX HX2533 fl_X7_19 (by omega) rfl rfl hM.2.2.2.1 dX7_recorded_33 ?_
              refine lv_sipush (v := nI (453)) hx hb dX7_recorded_36 (by decide) ?_
              refine lv_iload_n hx hb dX7_recorded_39 rfl (lv_at hl 2 rfl) ?_
              refine fa_iaddN hx hb dX7_recorded_40 ?_
              refine fa_iald (k := 401) (j := 453 + k) CX HX2533 (by omega) rfl (by omega) (by first | decide | assumption) dX7_recorded_41 ?_
              refine fa_iast (k := 401) (j := k) CX HX2533 (by omega) rfl (by omega) (by first | decide | assumption) dX7_recorded_42 (fun H locs v2545 e2546 HX2547 => ?_)
              refine lv_iinc (v := nI (k + 1)) (lv' := [(2, .int (nI (k + 1))), (0, .ref (fa_B G + (397))), (1, .int (a1))]) hx hb dX7_recorded_43 hl (k := 2) rfl (nI_add (k) 1) (by decide) rfl (fun ls hl => ?_)
              refine lv_goto (tgt := 20) hx hb dX7_recorded_46 (by decide) ?_
              exact ih_20 (k + 1) v2545 _ _ _ (by omega) (⟨by omega, (show fa_MB (v2545 401) from by rw [e2546]; exact fa_MB.u hi_20.2.1 (fa_okm hi_20.2.1 (by omega))), (by rw [e2546]; exact fa_fr.u hi_20.2.2.1 (by omega)), fb_m_dwn hi_20.2.2.2 e2546⟩) (lv_sub hl [1, 2, 0] rfl) HX2547
        exact LOOP_20 (1359 - 0 + 1) (0) v _ _ _ (Nat.lt_succ_self _) (⟨Nat.zero_le _, hJ.2.2.2.1, fa_fr.rf, fun i => (if_neg (by omega)).symm⟩) (lv_sub hl [1, 2, 0] rfl) HX
set_option maxHeartbeats 4000000 in
set_option maxRecDepth 100000 in
theorem r_undo (l : Launch) (G : fa_G) (n : Nat) (hn : 406 ≤ n) (v : fa_V) (r : fa_R) (hM : fa_RM r) (hJ : fa_MJ v) : fa_MI l G n yX7_undo cX7_undo 2 (some .int) 1 [.ref (fa_B G + (397))] v r (fa_voi r (fun x v1 => ((fa_MJ v1) ∧ (v1 397 9 = v 397 9) ∧ (v1 397 8 = v 397 8) ∧ (∀ A H, fb_MV v A H → x = (fb_undoA A H).1 ∧ fb_MV v1 (fb_undoA A H).2.1 (fb_undoA A H).2.2)) ∧ (fa_fr (397) (403) v v1))) := by
  refine fa_startI (by decide +kernel) (Nat.le_of_ble_eq_true rfl) (fun p e s m args below meth c ls Q CX hl HX RET => ?_)
  have hl : lv_has ls 2 [(0, .ref (fa_B G + (397)))] := hl
  have hx := CX.1.1
  have hb := CX.1.2.1
  have hS := hJ.1
  obtain ⟨n4, en4⟩ : ∃ m, m = fa_N (v 398 14) := ⟨_, rfl⟩
  obtain ⟨hn4, g4⟩ := hS.n4 en4
  obtain ⟨n5, en5⟩ : ∃ m, m = fa_N (v 398 15) := ⟨_, rfl⟩
  obtain ⟨hn5, g5⟩ := hS.n5 en5
  obtain ⟨n6, en6⟩ : ∃ m, m = fa_N (v 398 16) := ⟨_, rfl⟩
  obtain ⟨hn6, g6⟩ := hS.n6 en6
  obtain ⟨n10, hn10, g10⟩ := hJ.2.2.2.2.1
  obtain ⟨n9, hn9, g9⟩ := hJ.2.2.2.2.2
  refine lv_aload_n hx hb dX7_undo_0 rfl (lv_at hl 0 rfl) ?_
  refine fa_geti (k := 397) CX HX fl_X7_40 (by omega) rfl rfl dX7_undo_1 ?_
  rw [show v 397 10 = nI (n10) from g10]
  refine lv_if_ne (tgt := 10) hx hb dX7_undo_4 (by decide) (fun c_4 => ?_) (fun c_4 => ?_)
  · have hp10 : 0 < n10 := by
      refine Nat.pos_of_ne_zero (fun z => c_4 ?_)
      rw [z]; decide
    refine lv_aload_n hx hb dX7_undo_10 rfl (lv_at hl 0 rfl) ?_
    refine lv_dup hx hb dX7_undo_11 rfl ?_
    refine fa_geti (k := 397) CX HX fl_X7_40 (by omega) rfl rfl dX7_undo_12 ?_
    rw [show v 397 10 = nI (n10) from g10]
    refine lv_iconst (v := nI (1)) hx hb dX7_undo_15 (by decide) ?_
    refine fa_isubN hx hb dX7_undo_16 (by omega) ?_
    refine fa_puti (k := 397) CX HX fl_X7_40 (by omega) rfl rfl rfl rfl dX7_undo_17 (fun H locs v2548 e2549 HX2550 => ?_)
    refine lv_iconst (v := nI (0)) hx hb dX7_undo_20 (by decide) ?_
    refine lv_istore_n (lv' := [(1, .int (nI (0))), (0, .ref (fa_B G + (397)))]) hx hb dX7_undo_21 rfl hl (by decide) rfl (fun ls hl => ?_)
    have LOOP_22 : ∀ (fu : Nat) (k : Nat) (v2551 : fa_V) (H : Heap) (locs : List Loc) (ls : Array Slot), 453 - k < fu → (k ≤ 453 ∧ fa_MS (v2551 398) ∧ fa_fr 398 399 v2548 v2551 ∧ ∀ i, v2551 398 i = if i < k then v2548 401 (453 * (n10 - 1) + i) else v2548 398 i) → lv_has ls 2 [(0, .ref (fa_B G + (397))), (1, .int (nI (k)))] → fa_HX G (n) v2551 r s H locs → W p l e (fa_rm 1) s m args below meth c H locs (0) (0) Q (F0 m 22 ls []) := by
      intro fu
      induction fu with
      | zero => intro k v2551 H locs ls hk; exact absurd hk (Nat.not_lt_zero _)
      | succ fu ih_22 =>
        intro k v2551 H locs ls hk_22 hi_22 hl HX2552
        refine lv_iload_n hx hb dX7_undo_22 rfl (lv_at hl 1 rfl) ?_
        refine lv_sipush (v := nI (453)) hx hb dX7_undo_23 (by decide) ?_
        refine lv_icmp_ge (tgt := 56) hx hb dX7_undo_26 (by decide) (fun c_26 => ?_) (fun c_26 => ?_)
        · refine lv_aload_n hx hb dX7_undo_56 rfl (lv_at hl 0 rfl) ?_
          refine fa_geti (k := 397) CX HX2552 fl_X7_40 (by omega) rfl rfl dX7_undo_57 ?_
          rw [show v2551 397 10 = nI (n10 - 1) from (by rw [hi_22.2.2.1 _ (by omega)]; exact (by rw [e2549, fa_u_s]))]
          exact RET _ _ _ _ _ _ _ HX2552 dX7_undo_60 (⟨rfl, ⟨⟨(show fa_MJ v2551 from ⟨hi_22.2.1, (show fa_MS (v2551 399) from by rw [hi_22.2.2.1 399 (by omega)]; exact (show fa_MS (v2548 399) from by rw [e2549, fa_u_k _ _ (by decide)]; exact hJ.2.1)), (show fa_MS (v2551 400) from by rw [hi_22.2.2.1 400 (by omega)]; exact (show fa_MS (v2548 400) from by rw [e2549, fa_u_k _ _ (by decide)]; exact hJ.2.2.1)), (show fa_MB (v2551 401) from by rw [hi_22.2.2.1 401 (by omega)]; exact (show fa_MB (v2548 401) from by rw [e2549, fa_u_k _ _ (by decide)]; exact hJ.2.2.2.1)), ⟨n10 - 1, by omega, (by rw [hi_22.2.2.1 _ (by omega)]; exact (by rw [e2549, fa_u_s]))⟩, ⟨n9, by omega, (by rw [hi_22.2.2.1 _ (by omega)]; exact (by rw [e2549, fa_u_n _ _ (by omega)]; exact g9))⟩⟩), (show v2551 397 9 = v 397 9 from ((show v2551 397 9 = nI (n9) from (by rw [hi_22.2.2.1 _ (by omega)]; exact (by rw [e2549, fa_u_n _ _ (by omega)]; exact g9))).trans g9.symm)), (show v2551 397 8 = v 397 8 from ((congrFun (hi_22.2.2.1 397 (by omega)) 8).trans (show v2548 397 8 = v 397 8 from by rw [e2549, fa_u_n _ _ (by omega)]))), (fun A H hV => fb_m_undo1 hV g10 hn10 hp10 e2549 hi_22.2.2.1 (fa_leN (by omega) (by omega) c_26) hi_22.2.2.2)⟩, (fa_fr.tr (by rw [e2549]; exact fa_fr.u fa_fr.rf (by omega)) (fa_fr.wide hi_22.2.2.1 (by omega) (by omega)))⟩⟩)
        · have hk := fa_ltN (by omega) (by omega) c_26
          refine lv_aload_n hx hb dX7_undo_29 rfl (lv_at hl 0 rfl) ?_
          refine fa_getr (k := 397) (j := 398) CX HX2552 fl_X7_7 (by omega) rfl rfl hM.1 dX7_undo_30 ?_
          refine lv_iload_n hx hb dX7_undo_33 rfl (lv_at hl 1 rfl) ?_
          refine lv_aload_n hx hb dX7_undo_34 rfl (lv_at hl 0 rfl) ?_
          refine fa_getr (k := 397) (j := 401) CX HX2552 fl_X7_19 (by omega) rfl rfl hM.2.2.2.1 dX7_undo_35 ?_
          refine lv_sipush (v := nI (453)) hx hb dX7_undo_38 (by decide) ?_
          refine lv_aload_n hx hb dX7_undo_41 rfl (lv_at hl 0 rfl) ?_
          refine fa_geti (k := 397) CX HX2552 fl_X7_40 (by omega) rfl rfl dX7_undo_42 ?_
          rw [show v2551 397 10 = nI (n10 - 1) from (by rw [hi_22.2.2.1 _ (by omega)]; exact (by rw [e2549, fa_u_s]))]
          refine fa_imulN hx hb dX7_undo_45 ?_
          refine lv_iload_n hx hb dX7_undo_46 rfl (lv_at hl 1 rfl) ?_
          refine fa_iaddN hx hb dX7_undo_47 ?_
          refine fa_iald (k := 401) (j := 453 * (n10 - 1) + k) CX HX2552 (by omega) rfl (by omega) (by first | decide | assumption) dX7_undo_48 ?_
          refine fa_iast (k := 398) (j := k) CX HX2552 (by omega) rfl (by omega) (by first | decide | assumption) dX7_undo_49 (fun H locs v2553 e2554 HX2555 => ?_)
          refine lv_iinc (v := nI (k + 1)) (lv' := [(1, .int (nI (k + 1))), (0, .ref (fa_B G + (397)))]) hx hb dX7_undo_50 hl (k := 1) rfl (nI_add (k) 1) (by decide) rfl (fun ls hl => ?_)
          refine lv_goto (tgt := 22) hx hb dX7_undo_53 (by decide) ?_
          exact ih_22 (k + 1) v2553 _ _ _ (by omega) (⟨by omega, (show fa_MS (v2553 398) from by rw [e2554]; exact fa_MS.u hi_22.2.1 (fa_okx (show fa_MB (v2551 401) from by rw [hi_22.2.2.1 401 (by omega)]; exact (show fa_MB (v2548 401) from by rw [e2549, fa_u_k _ _ (by decide)]; exact hJ.2.2.2.1)) (by omega) (by omega))), (by rw [e2554]; exact fa_fr.u hi_22.2.2.1 (by omega)), fb_m_bck (u := v2548) hi_22.2.2.2 e2554 (congrFun (hi_22.2.2.1 401 (by omega)) (453 * (n10 - 1) + k))⟩) (lv_sub hl [1, 0] rfl) HX2555
    exact LOOP_22 (453 - 0 + 1) (0) v2548 _ _ _ (Nat.lt_succ_self _) (⟨Nat.zero_le _, (show fa_MS (v2548 398) from by rw [e2549, fa_u_k _ _ (by decide)]; exact hJ.1), fa_fr.rf, fun i => (if_neg (Nat.not_lt_zero _)).symm⟩) (lv_sub hl [1, 0] rfl) HX2550
  · refine lv_bipush (v := (-6 : Int32)) hx hb dX7_undo_7 (by decide) ?_
    exact RET _ _ _ _ _ _ _ HX dX7_undo_9 (⟨rfl, ⟨⟨hJ, (show v 397 9 = v 397 9 from rfl), (show v 397 8 = v 397 8 from rfl), (fun A H hV => fb_m_undo0 hV g10 hn10 (by first | exact c_4 | exact Decidable.not_not.mp c_4))⟩, fa_fr.rf⟩⟩)
set_option maxHeartbeats 4000000 in
set_option maxRecDepth 100000 in
theorem r_add (l : Launch) (G : fa_G) (n : Nat) (hn : 406 ≤ n) (v : fa_V) (r : fa_R) (hM : fa_RM r) (hJ : fa_MJ v) (a1 : Int32) (a2 : Int32) : fa_MI l G n yX7_add cX7_add 3 (some .int) 8 [.ref (fa_B G + (397)), .int (a1), .int (a2)] v r (fa_voi r (fun x v1 => ((fa_MJ v1) ∧ (v1 397 9 = v 397 9) ∧ (v1 397 8 = v 397 8) ∧ (∀ A H, fb_MV v A H → x = (fb_addA A a1 a2).1 ∧ fb_MV v1 (fb_addA A a1 a2).2 (fb_rec H A (fb_addA A a1 a2).1))) ∧ (fa_fr (397) (403) v v1))) := by
  refine fa_startI (by decide +kernel) (Nat.le_of_ble_eq_true rfl) (fun p e s m args below meth c ls Q CX hl HX RET => ?_)
  have hl : lv_has ls 3 [(0, .ref (fa_B G + (397))), (1, .int (a1)), (2, .int (a2))] := hl
  have hx := CX.1.1
  have hb := CX.1.2.1
  have hS := hJ.1
  obtain ⟨n4, en4⟩ : ∃ m, m = fa_N (v 398 14) := ⟨_, rfl⟩
  obtain ⟨hn4, g4⟩ := hS.n4 en4
  obtain ⟨n5, en5⟩ : ∃ m, m = fa_N (v 398 15) := ⟨_, rfl⟩
  obtain ⟨hn5, g5⟩ := hS.n5 en5
  obtain ⟨n6, en6⟩ : ∃ m, m = fa_N (v 398 16) := ⟨_, rfl⟩
  obtain ⟨hn6, g6⟩ := hS.n6 en6
  obtain ⟨n10, hn10, g10⟩ := hJ.2.2.2.2.1
  obtain ⟨n9, hn9, g9⟩ := hJ.2.2.2.2.2
  refine lv_aload_n hx hb dX7_add_0 rfl (lv_at hl 0 rfl) ?_
  refine fa_callVvu (As := []) (rest := []) CX HX (r_hold l G n hn v r hM) ln_X7_102 (by omega) rfl rfl rfl rfl (Nat.le_of_ble_eq_true rfl) hl.1 ⟨Nat.le_of_ble_eq_true rfl, Nat.le_of_ble_eq_true rfl⟩ ⟨Nat.le_refl _, Nat.le_refl _⟩ dX7_add_1 (fun v2557 H locs h2556 HX2558 => ?_)
  have h_hold := h2556.1
  refine lv_aload_n hx hb dX7_add_4 rfl (lv_at hl 0 rfl) ?_
  refine lv_aload_n hx hb dX7_add_5 rfl (lv_at hl 0 rfl) ?_
  refine lv_iload_n hx hb dX7_add_6 rfl (lv_at hl 1 rfl) ?_
  refine lv_iload_n hx hb dX7_add_7 rfl (lv_at hl 2 rfl) ?_
  refine fa_callViu (As := [.int (a1), .int (a2)]) (rest := [.ref (fa_B G + (397))]) CX HX2558 (r_adds l G n hn v2557 r hM (show fa_MS (v2557 398) from by rw [h2556.2 398 (by omega)]; exact hJ.1) (a1) (a2)) ln_X7_105 (by omega) rfl rfl rfl rfl (Nat.le_of_ble_eq_true rfl) hl.1 ⟨Nat.le_of_ble_eq_true rfl, Nat.le_of_ble_eq_true rfl⟩ ⟨Nat.le_refl _, Nat.le_refl _⟩ dX7_add_8 (fun x2560 v2561 H locs h2559 HX2562 => ?_)
  have hS_v2561 := h2559.1.1
  have h_adds := h2559.1.2.2.2
  refine fa_callViu (As := [.int (x2560)]) (rest := []) CX HX2562 (r_recorded l G n hn v2561 r hM (show fa_MJ v2561 from ⟨hS_v2561, (show fa_MS (v2561 399) from by rw [h2559.2 399 (by omega)]; exact (fa_MS.cp hJ.1 h2556.1)), (show fa_MS (v2561 400) from by rw [h2559.2 400 (by omega)]; exact (show fa_MS (v2557 400) from by rw [h2556.2 400 (by omega)]; exact hJ.2.2.1)), (show fa_MB (v2561 401) from by rw [h2559.2 401 (by omega)]; exact (show fa_MB (v2557 401) from by rw [h2556.2 401 (by omega)]; exact hJ.2.2.2.1)), ⟨n10, by omega, (by rw [h2559.2 _ (by omega)]; exact (by rw [h2556.2 _ (by omega)]; exact g10))⟩, ⟨n9, by omega, (by rw [h2559.2 _ (by omega)]; exact (by rw [h2556.2 _ (by omega)]; exact g9))⟩⟩) (x2560)) ln_X7_109 (by omega) rfl rfl rfl rfl (Nat.le_of_ble_eq_true rfl) hl.1 ⟨Nat.le_of_ble_eq_true rfl, Nat.le_of_ble_eq_true rfl⟩ ⟨Nat.le_refl _, Nat.le_refl _⟩ dX7_add_11 (fun x2564 v2565 H locs h2563 HX2566 => ?_)
  have hJ_v2565 := h2563.1.1
  obtain ⟨n10_v2565, hn10_v2565, g10_v2565⟩ := hJ_v2565.2.2.2.2.1
  have h_recorded := h2563.1.2.2.2
  exact RET _ _ _ _ _ _ _ HX2566 dX7_add_14 (⟨rfl, ⟨⟨hJ_v2565, (show v2565 397 9 = v 397 9 from ((show v2565 397 9 = nI (n9) from ((h2563.1.2.1).trans (by rw [h2559.2 _ (by omega)]; exact (by rw [h2556.2 _ (by omega)]; exact g9)))).trans g9.symm)), (show v2565 397 8 = v 397 8 from (h2563.1.2.2.1.trans ((congrFun (h2559.2 397 (by omega)) 8).trans (congrFun (h2556.2 397 (by omega)) 8)))), (fun A H hV => fb_m_face (op := fb_addA A a1 a2) hV h2556.2 h_hold (h2559.2 397 (by omega)) (h2559.2 399 (by omega)) (h2559.2 401 (by omega)) (h_adds A hV.1) (hV.1.add a1 a2) h_recorded)⟩, (fa_fr.tr (fa_fr.tr (fa_fr.tr fa_fr.rf (fa_fr.wide h2556.2 (by omega) (by omega))) (fa_fr.wide h2559.2 (by omega) (by omega))) (fa_fr.wide h2563.2 (by omega) (by omega)))⟩⟩)
set_option maxHeartbeats 4000000 in
set_option maxRecDepth 100000 in
theorem r_ask (l : Launch) (G : fa_G) (n : Nat) (hn : 406 ≤ n) (v : fa_V) (r : fa_R) (hM : fa_RM r) (hJ : fa_MJ v) (a1 : Int32) : fa_MI l G n yX7_ask cX7_ask 2 (some .int) 8 [.ref (fa_B G + (397)), .int (a1)] v r (fa_voi r (fun x v1 => ((fa_MJ v1) ∧ (v1 397 9 = v 397 9) ∧ (v1 397 8 = v 397 8) ∧ (∀ A H, fb_MV v A H → x = (fb_askA A a1).1 ∧ fb_MV v1 (fb_askA A a1).2 (fb_rec H A (fb_askA A a1).1))) ∧ (fa_fr (397) (403) v v1))) := by
  refine fa_startI (by decide +kernel) (Nat.le_of_ble_eq_true rfl) (fun p e s m args below meth c ls Q CX hl HX RET => ?_)
  have hl : lv_has ls 2 [(0, .ref (fa_B G + (397))), (1, .int (a1))] := hl
  have hx := CX.1.1
  have hb := CX.1.2.1
  have hS := hJ.1
  obtain ⟨n4, en4⟩ : ∃ m, m = fa_N (v 398 14) := ⟨_, rfl⟩
  obtain ⟨hn4, g4⟩ := hS.n4 en4
  obtain ⟨n5, en5⟩ : ∃ m, m = fa_N (v 398 15) := ⟨_, rfl⟩
  obtain ⟨hn5, g5⟩ := hS.n5 en5
  obtain ⟨n6, en6⟩ : ∃ m, m = fa_N (v 398 16) := ⟨_, rfl⟩
  obtain ⟨hn6, g6⟩ := hS.n6 en6
  obtain ⟨n10, hn10, g10⟩ := hJ.2.2.2.2.1
  obtain ⟨n9, hn9, g9⟩ := hJ.2.2.2.2.2
  refine lv_aload_n hx hb dX7_ask_0 rfl (lv_at hl 0 rfl) ?_
  refine fa_callVvu (As := []) (rest := []) CX HX (r_hold l G n hn v r hM) ln_X7_102 (by omega) rfl rfl rfl rfl (Nat.le_of_ble_eq_true rfl) hl.1 ⟨Nat.le_of_ble_eq_true rfl, Nat.le_of_ble_eq_true rfl⟩ ⟨Nat.le_refl _, Nat.le_refl _⟩ dX7_ask_1 (fun v2568 H locs h2567 HX2569 => ?_)
  have h_hold := h2567.1
  refine lv_aload_n hx hb dX7_ask_4 rfl (lv_at hl 0 rfl) ?_
  refine lv_aload_n hx hb dX7_ask_5 rfl (lv_at hl 0 rfl) ?_
  refine lv_iload_n hx hb dX7_ask_6 rfl (lv_at hl 1 rfl) ?_
  refine fa_callViu (As := [.int (a1)]) (rest := [.ref (fa_B G + (397))]) CX HX2569 (r_asksFor l G n hn v2568 r hM (show fa_MS (v2568 398) from by rw [h2567.2 398 (by omega)]; exact hJ.1) (a1)) ln_X7_112 (by omega) rfl rfl rfl rfl (Nat.le_of_ble_eq_true rfl) hl.1 ⟨Nat.le_of_ble_eq_true rfl, Nat.le_of_ble_eq_true rfl⟩ ⟨Nat.le_refl _, Nat.le_refl _⟩ dX7_ask_7 (fun x2571 v2572 H locs h2570 HX2573 => ?_)
  have hS_v2572 := h2570.1.1
  have h_asksFor := h2570.1.2.2.2.2
  refine fa_callViu (As := [.int (x2571)]) (rest := []) CX HX2573 (r_recorded l G n hn v2572 r hM (show fa_MJ v2572 from ⟨hS_v2572, (show fa_MS (v2572 399) from by rw [h2570.2 399 (by omega)]; exact (fa_MS.cp hJ.1 h2567.1)), (show fa_MS (v2572 400) from by rw [h2570.2 400 (by omega)]; exact (show fa_MS (v2568 400) from by rw [h2567.2 400 (by omega)]; exact hJ.2.2.1)), (show fa_MB (v2572 401) from by rw [h2570.2 401 (by omega)]; exact (show fa_MB (v2568 401) from by rw [h2567.2 401 (by omega)]; exact hJ.2.2.2.1)), ⟨n10, by omega, (by rw [h2570.2 _ (by omega)]; exact (by rw [h2567.2 _ (by omega)]; exact g10))⟩, ⟨n9, by omega, (by rw [h2570.2 _ (by omega)]; exact (by rw [h2567.2 _ (by omega)]; exact g9))⟩⟩) (x2571)) ln_X7_109 (by omega) rfl rfl rfl rfl (Nat.le_of_ble_eq_true rfl) hl.1 ⟨Nat.le_of_ble_eq_true rfl, Nat.le_of_ble_eq_true rfl⟩ ⟨Nat.le_refl _, Nat.le_refl _⟩ dX7_ask_10 (fun x2575 v2576 H locs h2574 HX2577 => ?_)
  have hJ_v2576 := h2574.1.1
  obtain ⟨n10_v2576, hn10_v2576, g10_v2576⟩ := hJ_v2576.2.2.2.2.1
  have h_recorded := h2574.1.2.2.2
  exact RET _ _ _ _ _ _ _ HX2577 dX7_ask_13 (⟨rfl, ⟨⟨hJ_v2576, (show v2576 397 9 = v 397 9 from ((show v2576 397 9 = nI (n9) from ((h2574.1.2.1).trans (by rw [h2570.2 _ (by omega)]; exact (by rw [h2567.2 _ (by omega)]; exact g9)))).trans g9.symm)), (show v2576 397 8 = v 397 8 from (h2574.1.2.2.1.trans ((congrFun (h2570.2 397 (by omega)) 8).trans (congrFun (h2567.2 397 (by omega)) 8)))), (fun A H hV => fb_m_face (op := fb_askA A a1) hV h2567.2 h_hold (h2570.2 397 (by omega)) (h2570.2 399 (by omega)) (h2570.2 401 (by omega)) (h_asksFor A hV.1) (hV.1.ask a1) h_recorded)⟩, (fa_fr.tr (fa_fr.tr (fa_fr.tr fa_fr.rf (fa_fr.wide h2567.2 (by omega) (by omega))) (fa_fr.wide h2570.2 (by omega) (by omega))) (fa_fr.wide h2574.2 (by omega) (by omega)))⟩⟩)
set_option maxHeartbeats 4000000 in
set_option maxRecDepth 100000 in
theorem r_seal (l : Launch) (G : fa_G) (n : Nat) (hn : 406 ≤ n) (v : fa_V) (r : fa_R) (hM : fa_RM r) (hJ : fa_MJ v) (a1 : Int32) (a2 : Int32) (a3 : Int32) : fa_MI l G n yX7_seal cX7_seal 4 (some .int) 8 [.ref (fa_B G + (397)), .int (a1), .int (a2), .int (a3)] v r (fa_voi r (fun x v1 => ((fa_MJ v1) ∧ (v1 397 9 = v 397 9) ∧ (v1 397 8 = v 397 8) ∧ (∀ A H, fb_MV v A H → x = (fb_sealA A a1 a2 a3).1 ∧ fb_MV v1 (fb_sealA A a1 a2 a3).2 (fb_rec H A (fb_sealA A a1 a2 a3).1))) ∧ (fa_fr (397) (403) v v1))) := by
  refine fa_startI (by decide +kernel) (Nat.le_of_ble_eq_true rfl) (fun p e s m args below meth c ls Q CX hl HX RET => ?_)
  have hl : lv_has ls 4 [(0, .ref (fa_B G + (397))), (1, .int (a1)), (2, .int (a2)), (3, .int (a3))] := hl
  have hx := CX.1.1
  have hb := CX.1.2.1
  have hS := hJ.1
  obtain ⟨n4, en4⟩ : ∃ m, m = fa_N (v 398 14) := ⟨_, rfl⟩
  obtain ⟨hn4, g4⟩ := hS.n4 en4
  obtain ⟨n5, en5⟩ : ∃ m, m = fa_N (v 398 15) := ⟨_, rfl⟩
  obtain ⟨hn5, g5⟩ := hS.n5 en5
  obtain ⟨n6, en6⟩ : ∃ m, m = fa_N (v 398 16) := ⟨_, rfl⟩
  obtain ⟨hn6, g6⟩ := hS.n6 en6
  obtain ⟨n10, hn10, g10⟩ := hJ.2.2.2.2.1
  obtain ⟨n9, hn9, g9⟩ := hJ.2.2.2.2.2
  refine lv_aload_n hx hb dX7_seal_0 rfl (lv_at hl 0 rfl) ?_
  refine fa_callVvu (As := []) (rest := []) CX HX (r_hold l G n hn v r hM) ln_X7_102 (by omega) rfl rfl rfl rfl (Nat.le_of_ble_eq_true rfl) hl.1 ⟨Nat.le_of_ble_eq_true rfl, Nat.le_of_ble_eq_true rfl⟩ ⟨Nat.le_refl _, Nat.le_refl _⟩ dX7_seal_1 (fun v2579 H locs h2578 HX2580 => ?_)
  have h_hold := h2578.1
  refine lv_aload_n hx hb dX7_seal_4 rfl (lv_at hl 0 rfl) ?_
  refine lv_aload_n hx hb dX7_seal_5 rfl (lv_at hl 0 rfl) ?_
  refine lv_iload_n hx hb dX7_seal_6 rfl (lv_at hl 1 rfl) ?_
  refine lv_iload_n hx hb dX7_seal_7 rfl (lv_at hl 2 rfl) ?_
  refine lv_iload_n hx hb dX7_seal_8 rfl (lv_at hl 3 rfl) ?_
  refine fa_callViu (As := [.int (a1), .int (a2), .int (a3)]) (rest := [.ref (fa_B G + (397))]) CX HX2580 (r_seals l G n hn v2579 r hM (show fa_MS (v2579 398) from by rw [h2578.2 398 (by omega)]; exact hJ.1) (a1) (a2) (a3)) ln_X7_115 (by omega) rfl rfl rfl rfl (Nat.le_of_ble_eq_true rfl) hl.1 ⟨Nat.le_of_ble_eq_true rfl, Nat.le_of_ble_eq_true rfl⟩ ⟨Nat.le_refl _, Nat.le_refl _⟩ dX7_seal_9 (fun x2582 v2583 H locs h2581 HX2584 => ?_)
  have hS_v2583 := h2581.1.1
  have h_seals := h2581.1.2.2.2.2
  refine fa_callViu (As := [.int (x2582)]) (rest := []) CX HX2584 (r_recorded l G n hn v2583 r hM (show fa_MJ v2583 from ⟨hS_v2583, (show fa_MS (v2583 399) from by rw [h2581.2 399 (by omega)]; exact (fa_MS.cp hJ.1 h2578.1)), (show fa_MS (v2583 400) from by rw [h2581.2 400 (by omega)]; exact (show fa_MS (v2579 400) from by rw [h2578.2 400 (by omega)]; exact hJ.2.2.1)), (show fa_MB (v2583 401) from by rw [h2581.2 401 (by omega)]; exact (show fa_MB (v2579 401) from by rw [h2578.2 401 (by omega)]; exact hJ.2.2.2.1)), ⟨n10, by omega, (by rw [h2581.2 _ (by omega)]; exact (by rw [h2578.2 _ (by omega)]; exact g10))⟩, ⟨n9, by omega, (by rw [h2581.2 _ (by omega)]; exact (by rw [h2578.2 _ (by omega)]; exact g9))⟩⟩) (x2582)) ln_X7_109 (by omega) rfl rfl rfl rfl (Nat.le_of_ble_eq_true rfl) hl.1 ⟨Nat.le_of_ble_eq_true rfl, Nat.le_of_ble_eq_true rfl⟩ ⟨Nat.le_refl _, Nat.le_refl _⟩ dX7_seal_12 (fun x2586 v2587 H locs h2585 HX2588 => ?_)
  have hJ_v2587 := h2585.1.1
  obtain ⟨n10_v2587, hn10_v2587, g10_v2587⟩ := hJ_v2587.2.2.2.2.1
  have h_recorded := h2585.1.2.2.2
  exact RET _ _ _ _ _ _ _ HX2588 dX7_seal_15 (⟨rfl, ⟨⟨hJ_v2587, (show v2587 397 9 = v 397 9 from ((show v2587 397 9 = nI (n9) from ((h2585.1.2.1).trans (by rw [h2581.2 _ (by omega)]; exact (by rw [h2578.2 _ (by omega)]; exact g9)))).trans g9.symm)), (show v2587 397 8 = v 397 8 from (h2585.1.2.2.1.trans ((congrFun (h2581.2 397 (by omega)) 8).trans (congrFun (h2578.2 397 (by omega)) 8)))), (fun A H hV => fb_m_face (op := fb_sealA A a1 a2 a3) hV h2578.2 h_hold (h2581.2 397 (by omega)) (h2581.2 399 (by omega)) (h2581.2 401 (by omega)) (h_seals A hV.1) (hV.1.sealA a1 a2 a3) h_recorded)⟩, (fa_fr.tr (fa_fr.tr (fa_fr.tr fa_fr.rf (fa_fr.wide h2578.2 (by omega) (by omega))) (fa_fr.wide h2581.2 (by omega) (by omega))) (fa_fr.wide h2585.2 (by omega) (by omega)))⟩⟩)
set_option maxHeartbeats 4000000 in
set_option maxRecDepth 100000 in
theorem r_lift (l : Launch) (G : fa_G) (n : Nat) (hn : 406 ≤ n) (v : fa_V) (r : fa_R) (hM : fa_RM r) (hJ : fa_MJ v) (a1 : Int32) (a2 : Int32) : fa_MI l G n yX7_lift cX7_lift 3 (some .int) 8 [.ref (fa_B G + (397)), .int (a1), .int (a2)] v r (fa_voi r (fun x v1 => ((fa_MJ v1) ∧ (v1 397 9 = v 397 9) ∧ (v1 397 8 = v 397 8) ∧ (∀ A H, fb_MV v A H → x = (fb_liftA A a1 a2).1 ∧ fb_MV v1 (fb_liftA A a1 a2).2 (fb_rec H A (fb_liftA A a1 a2).1))) ∧ (fa_fr (397) (403) v v1))) := by
  refine fa_startI (by decide +kernel) (Nat.le_of_ble_eq_true rfl) (fun p e s m args below meth c ls Q CX hl HX RET => ?_)
  have hl : lv_has ls 3 [(0, .ref (fa_B G + (397))), (1, .int (a1)), (2, .int (a2))] := hl
  have hx := CX.1.1
  have hb := CX.1.2.1
  have hS := hJ.1
  obtain ⟨n4, en4⟩ : ∃ m, m = fa_N (v 398 14) := ⟨_, rfl⟩
  obtain ⟨hn4, g4⟩ := hS.n4 en4
  obtain ⟨n5, en5⟩ : ∃ m, m = fa_N (v 398 15) := ⟨_, rfl⟩
  obtain ⟨hn5, g5⟩ := hS.n5 en5
  obtain ⟨n6, en6⟩ : ∃ m, m = fa_N (v 398 16) := ⟨_, rfl⟩
  obtain ⟨hn6, g6⟩ := hS.n6 en6
  obtain ⟨n10, hn10, g10⟩ := hJ.2.2.2.2.1
  obtain ⟨n9, hn9, g9⟩ := hJ.2.2.2.2.2
  refine lv_aload_n hx hb dX7_lift_0 rfl (lv_at hl 0 rfl) ?_
  refine fa_callVvu (As := []) (rest := []) CX HX (r_hold l G n hn v r hM) ln_X7_102 (by omega) rfl rfl rfl rfl (Nat.le_of_ble_eq_true rfl) hl.1 ⟨Nat.le_of_ble_eq_true rfl, Nat.le_of_ble_eq_true rfl⟩ ⟨Nat.le_refl _, Nat.le_refl _⟩ dX7_lift_1 (fun v2590 H locs h2589 HX2591 => ?_)
  have h_hold := h2589.1
  refine lv_aload_n hx hb dX7_lift_4 rfl (lv_at hl 0 rfl) ?_
  refine lv_aload_n hx hb dX7_lift_5 rfl (lv_at hl 0 rfl) ?_
  refine lv_iload_n hx hb dX7_lift_6 rfl (lv_at hl 1 rfl) ?_
  refine lv_iload_n hx hb dX7_lift_7 rfl (lv_at hl 2 rfl) ?_
  refine fa_callViu (As := [.int (a1), .int (a2)]) (rest := [.ref (fa_B G + (397))]) CX HX2591 (r_lifts l G n hn v2590 r hM (show fa_MS (v2590 398) from by rw [h2589.2 398 (by omega)]; exact hJ.1) (a1) (a2)) ln_X7_119 (by omega) rfl rfl rfl rfl (Nat.le_of_ble_eq_true rfl) hl.1 ⟨Nat.le_of_ble_eq_true rfl, Nat.le_of_ble_eq_true rfl⟩ ⟨Nat.le_refl _, Nat.le_refl _⟩ dX7_lift_8 (fun x2593 v2594 H locs h2592 HX2595 => ?_)
  have hS_v2594 := h2592.1.1
  have h_lifts := h2592.1.2.2.2.2
  refine fa_callViu (As := [.int (x2593)]) (rest := []) CX HX2595 (r_recorded l G n hn v2594 r hM (show fa_MJ v2594 from ⟨hS_v2594, (show fa_MS (v2594 399) from by rw [h2592.2 399 (by omega)]; exact (fa_MS.cp hJ.1 h2589.1)), (show fa_MS (v2594 400) from by rw [h2592.2 400 (by omega)]; exact (show fa_MS (v2590 400) from by rw [h2589.2 400 (by omega)]; exact hJ.2.2.1)), (show fa_MB (v2594 401) from by rw [h2592.2 401 (by omega)]; exact (show fa_MB (v2590 401) from by rw [h2589.2 401 (by omega)]; exact hJ.2.2.2.1)), ⟨n10, by omega, (by rw [h2592.2 _ (by omega)]; exact (by rw [h2589.2 _ (by omega)]; exact g10))⟩, ⟨n9, by omega, (by rw [h2592.2 _ (by omega)]; exact (by rw [h2589.2 _ (by omega)]; exact g9))⟩⟩) (x2593)) ln_X7_109 (by omega) rfl rfl rfl rfl (Nat.le_of_ble_eq_true rfl) hl.1 ⟨Nat.le_of_ble_eq_true rfl, Nat.le_of_ble_eq_true rfl⟩ ⟨Nat.le_refl _, Nat.le_refl _⟩ dX7_lift_11 (fun x2597 v2598 H locs h2596 HX2599 => ?_)
  have hJ_v2598 := h2596.1.1
  obtain ⟨n10_v2598, hn10_v2598, g10_v2598⟩ := hJ_v2598.2.2.2.2.1
  have h_recorded := h2596.1.2.2.2
  exact RET _ _ _ _ _ _ _ HX2599 dX7_lift_14 (⟨rfl, ⟨⟨hJ_v2598, (show v2598 397 9 = v 397 9 from ((show v2598 397 9 = nI (n9) from ((h2596.1.2.1).trans (by rw [h2592.2 _ (by omega)]; exact (by rw [h2589.2 _ (by omega)]; exact g9)))).trans g9.symm)), (show v2598 397 8 = v 397 8 from (h2596.1.2.2.1.trans ((congrFun (h2592.2 397 (by omega)) 8).trans (congrFun (h2589.2 397 (by omega)) 8)))), (fun A H hV => fb_m_face (op := fb_liftA A a1 a2) hV h2589.2 h_hold (h2592.2 397 (by omega)) (h2592.2 399 (by omega)) (h2592.2 401 (by omega)) (h_lifts A hV.1) (hV.1.liftA a1 a2) h_recorded)⟩, (fa_fr.tr (fa_fr.tr (fa_fr.tr fa_fr.rf (fa_fr.wide h2589.2 (by omega) (by omega))) (fa_fr.wide h2592.2 (by omega) (by omega))) (fa_fr.wide h2596.2 (by omega) (by omega)))⟩⟩)
set_option maxHeartbeats 4000000 in
set_option maxRecDepth 100000 in
theorem r_refer (l : Launch) (G : fa_G) (n : Nat) (hn : 406 ≤ n) (v : fa_V) (r : fa_R) (hM : fa_RM r) (hJ : fa_MJ v) (a1 : Int32) (a2 : Int32) : fa_MI l G n yX7_refer cX7_refer 3 (some .int) 8 [.ref (fa_B G + (397)), .int (a1), .int (a2)] v r (fa_voi r (fun x v1 => ((fa_MJ v1) ∧ (v1 397 9 = v 397 9) ∧ (v1 397 8 = v 397 8) ∧ (∀ A H, fb_MV v A H → x = (fb_refA A a1 a2).1 ∧ fb_MV v1 (fb_refA A a1 a2).2 (fb_rec H A (fb_refA A a1 a2).1))) ∧ (fa_fr (397) (403) v v1))) := by
  refine fa_startI (by decide +kernel) (Nat.le_of_ble_eq_true rfl) (fun p e s m args below meth c ls Q CX hl HX RET => ?_)
  have hl : lv_has ls 3 [(0, .ref (fa_B G + (397))), (1, .int (a1)), (2, .int (a2))] := hl
  have hx := CX.1.1
  have hb := CX.1.2.1
  have hS := hJ.1
  obtain ⟨n4, en4⟩ : ∃ m, m = fa_N (v 398 14) := ⟨_, rfl⟩
  obtain ⟨hn4, g4⟩ := hS.n4 en4
  obtain ⟨n5, en5⟩ : ∃ m, m = fa_N (v 398 15) := ⟨_, rfl⟩
  obtain ⟨hn5, g5⟩ := hS.n5 en5
  obtain ⟨n6, en6⟩ : ∃ m, m = fa_N (v 398 16) := ⟨_, rfl⟩
  obtain ⟨hn6, g6⟩ := hS.n6 en6
  obtain ⟨n10, hn10, g10⟩ := hJ.2.2.2.2.1
  obtain ⟨n9, hn9, g9⟩ := hJ.2.2.2.2.2
  refine lv_aload_n hx hb dX7_refer_0 rfl (lv_at hl 0 rfl) ?_
  refine fa_callVvu (As := []) (rest := []) CX HX (r_hold l G n hn v r hM) ln_X7_102 (by omega) rfl rfl rfl rfl (Nat.le_of_ble_eq_true rfl) hl.1 ⟨Nat.le_of_ble_eq_true rfl, Nat.le_of_ble_eq_true rfl⟩ ⟨Nat.le_refl _, Nat.le_refl _⟩ dX7_refer_1 (fun v2601 H locs h2600 HX2602 => ?_)
  have h_hold := h2600.1
  refine lv_aload_n hx hb dX7_refer_4 rfl (lv_at hl 0 rfl) ?_
  refine lv_aload_n hx hb dX7_refer_5 rfl (lv_at hl 0 rfl) ?_
  refine lv_iload_n hx hb dX7_refer_6 rfl (lv_at hl 1 rfl) ?_
  refine lv_iload_n hx hb dX7_refer_7 rfl (lv_at hl 2 rfl) ?_
  refine fa_callViu (As := [.int (a1), .int (a2)]) (rest := [.ref (fa_B G + (397))]) CX HX2602 (r_refers l G n hn v2601 r hM (show fa_MS (v2601 398) from by rw [h2600.2 398 (by omega)]; exact hJ.1) (a1) (a2)) ln_X7_122 (by omega) rfl rfl rfl rfl (Nat.le_of_ble_eq_true rfl) hl.1 ⟨Nat.le_of_ble_eq_true rfl, Nat.le_of_ble_eq_true rfl⟩ ⟨Nat.le_refl _, Nat.le_refl _⟩ dX7_refer_8 (fun x2604 v2605 H locs h2603 HX2606 => ?_)
  have hS_v2605 := h2603.1.1
  have h_refers := h2603.1.2.2.2.2
  refine fa_callViu (As := [.int (x2604)]) (rest := []) CX HX2606 (r_recorded l G n hn v2605 r hM (show fa_MJ v2605 from ⟨hS_v2605, (show fa_MS (v2605 399) from by rw [h2603.2 399 (by omega)]; exact (fa_MS.cp hJ.1 h2600.1)), (show fa_MS (v2605 400) from by rw [h2603.2 400 (by omega)]; exact (show fa_MS (v2601 400) from by rw [h2600.2 400 (by omega)]; exact hJ.2.2.1)), (show fa_MB (v2605 401) from by rw [h2603.2 401 (by omega)]; exact (show fa_MB (v2601 401) from by rw [h2600.2 401 (by omega)]; exact hJ.2.2.2.1)), ⟨n10, by omega, (by rw [h2603.2 _ (by omega)]; exact (by rw [h2600.2 _ (by omega)]; exact g10))⟩, ⟨n9, by omega, (by rw [h2603.2 _ (by omega)]; exact (by rw [h2600.2 _ (by omega)]; exact g9))⟩⟩) (x2604)) ln_X7_109 (by omega) rfl rfl rfl rfl (Nat.le_of_ble_eq_true rfl) hl.1 ⟨Nat.le_of_ble_eq_true rfl, Nat.le_of_ble_eq_true rfl⟩ ⟨Nat.le_refl _, Nat.le_refl _⟩ dX7_refer_11 (fun x2608 v2609 H locs h2607 HX2610 => ?_)
  have hJ_v2609 := h2607.1.1
  obtain ⟨n10_v2609, hn10_v2609, g10_v2609⟩ := hJ_v2609.2.2.2.2.1
  have h_recorded := h2607.1.2.2.2
  exact RET _ _ _ _ _ _ _ HX2610 dX7_refer_14 (⟨rfl, ⟨⟨hJ_v2609, (show v2609 397 9 = v 397 9 from ((show v2609 397 9 = nI (n9) from ((h2607.1.2.1).trans (by rw [h2603.2 _ (by omega)]; exact (by rw [h2600.2 _ (by omega)]; exact g9)))).trans g9.symm)), (show v2609 397 8 = v 397 8 from (h2607.1.2.2.1.trans ((congrFun (h2603.2 397 (by omega)) 8).trans (congrFun (h2600.2 397 (by omega)) 8)))), (fun A H hV => fb_m_face (op := fb_refA A a1 a2) hV h2600.2 h_hold (h2603.2 397 (by omega)) (h2603.2 399 (by omega)) (h2603.2 401 (by omega)) (h_refers A hV.1) (hV.1.refA a1 a2) h_recorded)⟩, (fa_fr.tr (fa_fr.tr (fa_fr.tr fa_fr.rf (fa_fr.wide h2600.2 (by omega) (by omega))) (fa_fr.wide h2603.2 (by omega) (by omega))) (fa_fr.wide h2607.2 (by omega) (by omega)))⟩⟩)
set_option maxHeartbeats 4000000 in
set_option maxRecDepth 100000 in
theorem r_pass (l : Launch) (G : fa_G) (n : Nat) (hn : 406 ≤ n) (v : fa_V) (r : fa_R) (hM : fa_RM r) (hJ : fa_MJ v) (a1 : Int32) : fa_MI l G n yX7_pass cX7_pass 2 (some .int) 10 [.ref (fa_B G + (397)), .int (a1)] v r (fa_voi r (fun x v1 => ((fa_MJ v1) ∧ (v1 397 9 = v 397 9) ∧ (v1 397 8 = v 397 8) ∧ (∀ A H, fb_MV v A H → x = (fb_passA A a1).1 ∧ fb_MV v1 (fb_passA A a1).2 (fb_rec H A (fb_passA A a1).1))) ∧ (fa_fr (397) (403) v v1))) := by
  refine fa_startI (by decide +kernel) (Nat.le_of_ble_eq_true rfl) (fun p e s m args below meth c ls Q CX hl HX RET => ?_)
  have hl : lv_has ls 2 [(0, .ref (fa_B G + (397))), (1, .int (a1))] := hl
  have hx := CX.1.1
  have hb := CX.1.2.1
  have hS := hJ.1
  obtain ⟨n4, en4⟩ : ∃ m, m = fa_N (v 398 14) := ⟨_, rfl⟩
  obtain ⟨hn4, g4⟩ := hS.n4 en4
  obtain ⟨n5, en5⟩ : ∃ m, m = fa_N (v 398 15) := ⟨_, rfl⟩
  obtain ⟨hn5, g5⟩ := hS.n5 en5
  obtain ⟨n6, en6⟩ : ∃ m, m = fa_N (v 398 16) := ⟨_, rfl⟩
  obtain ⟨hn6, g6⟩ := hS.n6 en6
  obtain ⟨n10, hn10, g10⟩ := hJ.2.2.2.2.1
  obtain ⟨n9, hn9, g9⟩ := hJ.2.2.2.2.2
  refine lv_aload_n hx hb dX7_pass_0 rfl (lv_at hl 0 rfl) ?_
  refine fa_callVvu (As := []) (rest := []) CX HX (r_hold l G n hn v r hM) ln_X7_102 (by omega) rfl rfl rfl rfl (Nat.le_of_ble_eq_true rfl) hl.1 ⟨Nat.le_of_ble_eq_true rfl, Nat.le_of_ble_eq_true rfl⟩ ⟨Nat.le_refl _, Nat.le_refl _⟩ dX7_pass_1 (fun v2612 H locs h2611 HX2613 => ?_)
  have h_hold := h2611.1
  refine lv_aload_n hx hb dX7_pass_4 rfl (lv_at hl 0 rfl) ?_
  refine lv_aload_n hx hb dX7_pass_5 rfl (lv_at hl 0 rfl) ?_
  refine lv_iload_n hx hb dX7_pass_6 rfl (lv_at hl 1 rfl) ?_
  refine fa_callViu (As := [.int (a1)]) (rest := [.ref (fa_B G + (397))]) CX HX2613 (r_passes l G n hn v2612 r hM (show fa_MS (v2612 398) from by rw [h2611.2 398 (by omega)]; exact hJ.1) (a1)) ln_X7_128 (by omega) rfl rfl rfl rfl (Nat.le_of_ble_eq_true rfl) hl.1 ⟨Nat.le_of_ble_eq_true rfl, Nat.le_of_ble_eq_true rfl⟩ ⟨Nat.le_refl _, Nat.le_refl _⟩ dX7_pass_7 (fun x2615 v2616 H locs h2614 HX2617 => ?_)
  have hS_v2616 := h2614.1.1
  have h_passes := h2614.1.2.2
  refine fa_callViu (As := [.int (x2615)]) (rest := []) CX HX2617 (r_recorded l G n hn v2616 r hM (show fa_MJ v2616 from ⟨hS_v2616, (show fa_MS (v2616 399) from by rw [h2614.1.2.1 399 (by decide) (by decide)]; exact (fa_MS.cp hJ.1 h2611.1)), (show fa_MS (v2616 400) from by rw [h2614.1.2.1 400 (by decide) (by decide)]; exact (show fa_MS (v2612 400) from by rw [h2611.2 400 (by omega)]; exact hJ.2.2.1)), (show fa_MB (v2616 401) from by rw [h2614.1.2.1 401 (by decide) (by decide)]; exact (show fa_MB (v2612 401) from by rw [h2611.2 401 (by omega)]; exact hJ.2.2.2.1)), ⟨n10, by omega, (by rw [h2614.2 _ (by omega)]; exact (by rw [h2611.2 _ (by omega)]; exact g10))⟩, ⟨n9, by omega, (by rw [h2614.2 _ (by omega)]; exact (by rw [h2611.2 _ (by omega)]; exact g9))⟩⟩) (x2615)) ln_X7_109 (by omega) rfl rfl rfl rfl (Nat.le_of_ble_eq_true rfl) hl.1 ⟨Nat.le_of_ble_eq_true rfl, Nat.le_of_ble_eq_true rfl⟩ ⟨Nat.le_refl _, Nat.le_refl _⟩ dX7_pass_10 (fun x2619 v2620 H locs h2618 HX2621 => ?_)
  have hJ_v2620 := h2618.1.1
  obtain ⟨n10_v2620, hn10_v2620, g10_v2620⟩ := hJ_v2620.2.2.2.2.1
  have h_recorded := h2618.1.2.2.2
  exact RET _ _ _ _ _ _ _ HX2621 dX7_pass_13 (⟨rfl, ⟨⟨hJ_v2620, (show v2620 397 9 = v 397 9 from ((show v2620 397 9 = nI (n9) from ((h2618.1.2.1).trans (by rw [h2614.2 _ (by omega)]; exact (by rw [h2611.2 _ (by omega)]; exact g9)))).trans g9.symm)), (show v2620 397 8 = v 397 8 from (h2618.1.2.2.1.trans ((congrFun (h2614.2 397 (by omega)) 8).trans (congrFun (h2611.2 397 (by omega)) 8)))), (fun A H hV => fb_m_face (op := fb_passA A a1) hV h2611.2 h_hold (h2614.2 397 (by omega)) (h2614.1.2.1 399 (by decide) (by decide)) (h2614.1.2.1 401 (by decide) (by decide)) (h_passes A hV.1) (hV.1.passA a1) h_recorded)⟩, (fa_fr.tr (fa_fr.tr (fa_fr.tr fa_fr.rf (fa_fr.wide h2611.2 (by omega) (by omega))) (fa_fr.wide h2614.2 (by omega) (by omega))) (fa_fr.wide h2618.2 (by omega) (by omega)))⟩⟩)
set_option maxHeartbeats 4000000 in
set_option maxRecDepth 100000 in
theorem r_reserve (l : Launch) (G : fa_G) (n : Nat) (hn : 406 ≤ n) (v : fa_V) (r : fa_R) (hM : fa_RM r) (hJ : fa_MJ v) (a1 : Int32) (a2 : Int32) : fa_MI l G n yX7_reserve cX7_reserve 3 (some .int) 8 [.ref (fa_B G + (397)), .int (a1), .int (a2)] v r (fa_voi r (fun x v1 => ((fa_MJ v1) ∧ (v1 397 9 = v 397 9) ∧ (v1 397 8 = v 397 8) ∧ (∀ A H, fb_MV v A H → x = (fb_resA A a1 a2).1 ∧ fb_MV v1 (fb_resA A a1 a2).2 (fb_rec H A (fb_resA A a1 a2).1))) ∧ (fa_fr (397) (403) v v1))) := by
  refine fa_startI (by decide +kernel) (Nat.le_of_ble_eq_true rfl) (fun p e s m args below meth c ls Q CX hl HX RET => ?_)
  have hl : lv_has ls 3 [(0, .ref (fa_B G + (397))), (1, .int (a1)), (2, .int (a2))] := hl
  have hx := CX.1.1
  have hb := CX.1.2.1
  have hS := hJ.1
  obtain ⟨n4, en4⟩ : ∃ m, m = fa_N (v 398 14) := ⟨_, rfl⟩
  obtain ⟨hn4, g4⟩ := hS.n4 en4
  obtain ⟨n5, en5⟩ : ∃ m, m = fa_N (v 398 15) := ⟨_, rfl⟩
  obtain ⟨hn5, g5⟩ := hS.n5 en5
  obtain ⟨n6, en6⟩ : ∃ m, m = fa_N (v 398 16) := ⟨_, rfl⟩
  obtain ⟨hn6, g6⟩ := hS.n6 en6
  obtain ⟨n10, hn10, g10⟩ := hJ.2.2.2.2.1
  obtain ⟨n9, hn9, g9⟩ := hJ.2.2.2.2.2
  refine lv_aload_n hx hb dX7_reserve_0 rfl (lv_at hl 0 rfl) ?_
  refine lv_iload_n hx hb dX7_reserve_1 rfl (lv_at hl 1 rfl) ?_
  refine fa_callVip (As := [.int (a1)]) (rest := []) CX HX (r_placeOf l G n hn v r hM hJ.1 (a1)) ln_X7_60 (by omega) rfl rfl rfl rfl (Nat.le_of_ble_eq_true rfl) hl.1 ⟨Nat.le_of_ble_eq_true rfl, Nat.le_of_ble_eq_true rfl⟩ ⟨Nat.le_refl _, Nat.le_refl _⟩ dX7_reserve_2 (fun x2623 H locs h2622 HX2624 => ?_)
  have h_pl2 := h2622.1
  have h_plm2 := h2622.2
  refine lv_iconst (v := (-1 : Int32)) hx hb dX7_reserve_5 (by decide) ?_
  refine lv_icmp_ne (tgt := 11) hx hb dX7_reserve_6 (by decide) (fun c_6 => ?_) (fun c_6 => ?_)
  · refine lv_iload_n hx hb dX7_reserve_11 rfl (lv_at hl 2 rfl) ?_
    refine lv_aload_n hx hb dX7_reserve_12 rfl (lv_at hl 0 rfl) ?_
    refine fa_getr (k := 397) (j := 398) CX HX2624 fl_X7_7 (by omega) rfl rfl hM.1 dX7_reserve_13 ?_
    refine lv_bipush (v := nI (7)) hx hb dX7_reserve_16 (by decide) ?_
    refine fa_iald (k := 398) (j := 7) CX HX2624 (by omega) rfl (by omega) (by first | decide | assumption) dX7_reserve_18 ?_
    refine lv_iconst (v := nI (1)) hx hb dX7_reserve_19 (by decide) ?_
    refine lv_iadd hx hb dX7_reserve_20 ?_
    refine lv_sipush (v := nI (9999)) hx hb dX7_reserve_21 (by decide) ?_
    refine fa_callSip (As := [.int (a2), .int ((v 398 7) + (nI (1))), .int (nI (9999))]) (rest := []) CX HX2624 (r_in l G n v r (a2) ((v 398 7) + (nI (1))) (nI (9999))) ln_X7_86 rfl rfl (Nat.le_of_ble_eq_true rfl) hl.1 ⟨Nat.le_of_ble_eq_true rfl, Nat.le_of_ble_eq_true rfl⟩ ⟨Nat.le_refl _, Nat.le_refl _⟩ dX7_reserve_24 (fun x2626 H locs h2625 HX2627 => ?_)
    have h_in_24 := h2625
    refine lv_if_ne (tgt := 33) hx hb dX7_reserve_27 (by decide) (fun c_27 => ?_) (fun c_27 => ?_)
    · refine lv_aload_n hx hb dX7_reserve_33 rfl (lv_at hl 0 rfl) ?_
      refine lv_iload_n hx hb dX7_reserve_34 rfl (lv_at hl 1 rfl) ?_
      refine lv_iload_n hx hb dX7_reserve_35 rfl (lv_at hl 2 rfl) ?_
      refine fa_callVip (As := [.int (a1), .int (a2)]) (rest := []) CX HX2627 (r_find l G n hn v r hM hJ.1 (a1) (a2)) ln_X7_125 (by omega) rfl rfl rfl rfl (Nat.le_of_ble_eq_true rfl) hl.1 ⟨Nat.le_of_ble_eq_true rfl, Nat.le_of_ble_eq_true rfl⟩ ⟨Nat.le_refl _, Nat.le_refl _⟩ dX7_reserve_36 (fun x2629 H locs h2628 HX2630 => ?_)
      have h_pl36 := h2628.1
      have h_plm36 := h2628.2
      refine lv_iconst (v := (-1 : Int32)) hx hb dX7_reserve_39 (by decide) ?_
      refine lv_icmp_eq (tgt := 46) hx hb dX7_reserve_40 (by decide) (fun c_40 => ?_) (fun c_40 => ?_)
      · refine lv_aload_n hx hb dX7_reserve_46 rfl (lv_at hl 0 rfl) ?_
        refine fa_getr (k := 397) (j := 398) CX HX2630 fl_X7_7 (by omega) rfl rfl hM.1 dX7_reserve_47 ?_
        refine lv_bipush (v := nI (15)) hx hb dX7_reserve_50 (by decide) ?_
        refine fa_iald (k := 398) (j := 15) CX HX2630 (by omega) rfl (by omega) (by first | decide | assumption) dX7_reserve_52 ?_
        rw [show v 398 15 = nI (n5) from g5]
        refine lv_bipush (v := nI (8)) hx hb dX7_reserve_53 (by decide) ?_
        refine lv_icmp_ne (tgt := 61) hx hb dX7_reserve_55 (by decide) (fun c_55 => ?_) (fun c_55 => ?_)
        · have hne : ¬ n5 = 8 := fun z => c_55 (by rw [z])
          refine lv_aload_n hx hb dX7_reserve_61 rfl (lv_at hl 0 rfl) ?_
          refine fa_callVvu (As := []) (rest := []) CX HX2630 (r_hold l G n hn v r hM) ln_X7_102 (by omega) rfl rfl rfl rfl (Nat.le_of_ble_eq_true rfl) hl.1 ⟨Nat.le_of_ble_eq_true rfl, Nat.le_of_ble_eq_true rfl⟩ ⟨Nat.le_refl _, Nat.le_refl _⟩ dX7_reserve_62 (fun v2632 H locs h2631 HX2633 => ?_)
          have h_hold := h2631.1
          refine lv_aload_n hx hb dX7_reserve_65 rfl (lv_at hl 0 rfl) ?_
          refine fa_getr (k := 397) (j := 398) CX HX2633 fl_X7_7 (by omega) rfl rfl hM.1 dX7_reserve_66 ?_
          refine lv_sipush (v := nI (377)) hx hb dX7_reserve_69 (by decide) ?_
          refine lv_iconst (v := nI (2)) hx hb dX7_reserve_72 (by decide) ?_
          refine lv_aload_n hx hb dX7_reserve_73 rfl (lv_at hl 0 rfl) ?_
          refine fa_getr (k := 397) (j := 398) CX HX2633 fl_X7_7 (by omega) rfl rfl hM.1 dX7_reserve_74 ?_
          refine lv_bipush (v := nI (15)) hx hb dX7_reserve_77 (by decide) ?_
          refine fa_iald (k := 398) (j := 15) CX HX2633 (by omega) rfl (by omega) (by first | decide | assumption) dX7_reserve_79 ?_
          rw [show v2632 398 15 = nI (n5) from (by rw [h2631.2 _ (by omega)]; exact g5)]
          refine fa_imulN hx hb dX7_reserve_80 ?_
          refine fa_iaddN hx hb dX7_reserve_81 ?_
          refine lv_iload_n hx hb dX7_reserve_82 rfl (lv_at hl 1 rfl) ?_
          refine fa_iast (k := 398) (j := 377 + (2 * n5)) CX HX2633 (by omega) rfl (by omega) (by first | decide | assumption) dX7_reserve_83 (fun H locs v2634 e2635 HX2636 => ?_)
          refine lv_aload_n hx hb dX7_reserve_84 rfl (lv_at hl 0 rfl) ?_
          refine fa_getr (k := 397) (j := 398) CX HX2636 fl_X7_7 (by omega) rfl rfl hM.1 dX7_reserve_85 ?_
          refine lv_sipush (v := nI (377)) hx hb dX7_reserve_88 (by decide) ?_
          refine lv_iconst (v := nI (2)) hx hb dX7_reserve_91 (by decide) ?_
          refine lv_aload_n hx hb dX7_reserve_92 rfl (lv_at hl 0 rfl) ?_
          refine fa_getr (k := 397) (j := 398) CX HX2636 fl_X7_7 (by omega) rfl rfl hM.1 dX7_reserve_93 ?_
          refine lv_bipush (v := nI (15)) hx hb dX7_reserve_96 (by decide) ?_
          refine fa_iald (k := 398) (j := 15) CX HX2636 (by omega) rfl (by omega) (by first | decide | assumption) dX7_reserve_98 ?_
          rw [show v2634 398 15 = nI (n5) from (by rw [e2635, fa_u_n _ _ (by omega)]; exact (by rw [h2631.2 _ (by omega)]; exact g5))]
          refine fa_imulN hx hb dX7_reserve_99 ?_
          refine fa_iaddN hx hb dX7_reserve_100 ?_
          refine lv_iconst (v := nI (1)) hx hb dX7_reserve_101 (by decide) ?_
          refine fa_iaddN hx hb dX7_reserve_102 ?_
          refine lv_iload_n hx hb dX7_reserve_103 rfl (lv_at hl 2 rfl) ?_
          refine fa_iast (k := 398) (j := 377 + (2 * n5) + 1) CX HX2636 (by omega) rfl (by omega) (by first | decide | assumption) dX7_reserve_104 (fun H locs v2637 e2638 HX2639 => ?_)
          refine lv_aload_n hx hb dX7_reserve_105 rfl (lv_at hl 0 rfl) ?_
          refine fa_getr (k := 397) (j := 398) CX HX2639 fl_X7_7 (by omega) rfl rfl hM.1 dX7_reserve_106 ?_
          refine lv_bipush (v := nI (15)) hx hb dX7_reserve_109 (by decide) ?_
          refine lv_dup2_11 hx hb dX7_reserve_111 rfl rfl ?_
          refine fa_iald (k := 398) (j := 15) CX HX2639 (by omega) rfl (by omega) (by first | decide | assumption) dX7_reserve_112 ?_
          rw [show v2637 398 15 = nI (n5) from (by rw [e2638, fa_u_n _ _ (by omega)]; exact (by rw [e2635, fa_u_n _ _ (by omega)]; exact (by rw [h2631.2 _ (by omega)]; exact g5)))]
          refine lv_iconst (v := nI (1)) hx hb dX7_reserve_113 (by decide) ?_
          refine fa_iaddN hx hb dX7_reserve_114 ?_
          refine fa_iast (k := 398) (j := 15) CX HX2639 (by omega) rfl (by omega) (by first | decide | assumption) dX7_reserve_115 (fun H locs v2640 e2641 HX2642 => ?_)
          refine lv_aload_n hx hb dX7_reserve_116 rfl (lv_at hl 0 rfl) ?_
          refine lv_aload_n hx hb dX7_reserve_117 rfl (lv_at hl 0 rfl) ?_
          refine fa_getr (k := 397) (j := 398) CX HX2642 fl_X7_7 (by omega) rfl rfl hM.1 dX7_reserve_118 ?_
          refine lv_bipush (v := nI (15)) hx hb dX7_reserve_121 (by decide) ?_
          refine fa_iald (k := 398) (j := 15) CX HX2642 (by omega) rfl (by omega) (by first | decide | assumption) dX7_reserve_123 ?_
          rw [show v2640 398 15 = nI (n5 + 1) from (by rw [e2641, fa_u_s])]
          refine fa_callViu (As := [.int (nI (n5 + 1))]) (rest := []) CX HX2642 (r_recorded l G n hn v2640 r hM (show fa_MJ v2640 from ⟨(show fa_MS (v2640 398) from by rw [e2641]; exact fa_MS.u (show fa_MS (v2637 398) from by rw [e2638]; exact fa_MS.u (show fa_MS (v2634 398) from by rw [e2635]; exact fa_MS.u (show fa_MS (v2632 398) from by rw [h2631.2 398 (by omega)]; exact hJ.1) (fa_ok.o (by omega) (by omega) (by omega) (fun p hp => by omega))) (fa_ok.o (by omega) (by omega) (by omega) (fun p hp => by omega))) (fa_ok.n15 (by omega))), (show fa_MS (v2640 399) from by rw [e2641, fa_u_k _ _ (by decide)]; exact (show fa_MS (v2637 399) from by rw [e2638, fa_u_k _ _ (by decide)]; exact (show fa_MS (v2634 399) from by rw [e2635, fa_u_k _ _ (by decide)]; exact (fa_MS.cp hJ.1 h2631.1)))), (show fa_MS (v2640 400) from by rw [e2641, fa_u_k _ _ (by decide)]; exact (show fa_MS (v2637 400) from by rw [e2638, fa_u_k _ _ (by decide)]; exact (show fa_MS (v2634 400) from by rw [e2635, fa_u_k _ _ (by decide)]; exact (show fa_MS (v2632 400) from by rw [h2631.2 400 (by omega)]; exact hJ.2.2.1)))), (show fa_MB (v2640 401) from by rw [e2641, fa_u_k _ _ (by decide)]; exact (show fa_MB (v2637 401) from by rw [e2638, fa_u_k _ _ (by decide)]; exact (show fa_MB (v2634 401) from by rw [e2635, fa_u_k _ _ (by decide)]; exact (show fa_MB (v2632 401) from by rw [h2631.2 401 (by omega)]; exact hJ.2.2.2.1)))), ⟨n10, by omega, (by rw [e2641, fa_u_n _ _ (by omega)]; exact (by rw [e2638, fa_u_n _ _ (by omega)]; exact (by rw [e2635, fa_u_n _ _ (by omega)]; exact (by rw [h2631.2 _ (by omega)]; exact g10))))⟩, ⟨n9, by omega, (by rw [e2641, fa_u_n _ _ (by omega)]; exact (by rw [e2638, fa_u_n _ _ (by omega)]; exact (by rw [e2635, fa_u_n _ _ (by omega)]; exact (by rw [h2631.2 _ (by omega)]; exact g9))))⟩⟩) (nI (n5 + 1))) ln_X7_109 (by omega) rfl rfl rfl rfl (Nat.le_of_ble_eq_true rfl) hl.1 ⟨Nat.le_of_ble_eq_true rfl, Nat.le_of_ble_eq_true rfl⟩ ⟨Nat.le_refl _, Nat.le_refl _⟩ dX7_reserve_124 (fun x2644 v2645 H locs h2643 HX2646 => ?_)
          have hJ_v2645 := h2643.1.1
          obtain ⟨n10_v2645, hn10_v2645, g10_v2645⟩ := hJ_v2645.2.2.2.2.1
          have h_recorded := h2643.1.2.2.2
          exact RET _ _ _ _ _ _ _ HX2646 dX7_reserve_127 (⟨rfl, ⟨⟨hJ_v2645, (show v2645 397 9 = v 397 9 from ((show v2645 397 9 = nI (n9) from ((h2643.1.2.1).trans (by rw [e2641, fa_u_n _ _ (by omega)]; exact (by rw [e2638, fa_u_n _ _ (by omega)]; exact (by rw [e2635, fa_u_n _ _ (by omega)]; exact (by rw [h2631.2 _ (by omega)]; exact g9)))))).trans g9.symm)), (show v2645 397 8 = v 397 8 from (h2643.1.2.2.1.trans ((show v2640 397 8 = v2637 397 8 from by rw [e2641, fa_u_n _ _ (by omega)]).trans ((show v2637 397 8 = v2634 397 8 from by rw [e2638, fa_u_n _ _ (by omega)]).trans ((show v2634 397 8 = v2632 397 8 from by rw [e2635, fa_u_n _ _ (by omega)]).trans (congrFun (h2631.2 397 (by omega)) 8)))))), (fun A H hV => by (obtain ⟨p, hp, ep, ei, -⟩ := fb_m_pl1 hV.2.1 hV.1 h_plm2 c_6; have NB : ¬ (a2 ≤ A.g 7 ∨ ¬ a2 ≤ nI 9999) := (fun z => fa_in1 h_in_24 c_27 (by rw [hV.2.1.g (k := 7) (by decide)]; exact (fb_m_inR hV.1 a2).mpr z)); have NM := fb_m_fd0 hV.2.1 h_plm36 (by first | exact c_40 | exact Decidable.not_not.mp c_40); have ql : A.q.length = n5 := fa_nIinj (by have := hV.2.1.q8; omega) (by omega) (hV.2.1.n5.symm.trans g5); exact fb_m_face (op := fb_resA A a1 a2) hV h2631.2 h_hold (show v2640 397 = v2632 397 from by rw [e2641, fa_u_k _ _ (by decide), e2638, fa_u_k _ _ (by decide), e2635, fa_u_k _ _ (by decide)]) (show v2640 399 = v2632 399 from by rw [e2641, fa_u_k _ _ (by decide), e2638, fa_u_k _ _ (by decide), e2635, fa_u_k _ _ (by decide)]) (show v2640 401 = v2632 401 from by rw [e2641, fa_u_k _ _ (by decide), e2638, fa_u_k _ _ (by decide), e2635, fa_u_k _ _ (by decide)]) (fun m => by (rw [fb_resA_s ei NB NM (by omega)]; exact fb_m_res m (by rw [h2631.2 398 (by omega)]; exact g5) (by omega) e2635 e2638 e2641)) (hV.1.resA a1 a2) h_recorded))⟩, (fa_fr.tr (by rw [e2641]; exact fa_fr.u (by rw [e2638]; exact fa_fr.u (by rw [e2635]; exact fa_fr.u (fa_fr.tr fa_fr.rf (fa_fr.wide h2631.2 (by omega) (by omega))) (by omega)) (by omega)) (by omega)) (fa_fr.wide h2643.2 (by omega) (by omega)))⟩⟩)
        · refine lv_bipush (v := (-4 : Int32)) hx hb dX7_reserve_58 (by decide) ?_
          exact RET _ _ _ _ _ _ _ HX2630 dX7_reserve_60 (⟨rfl, ⟨⟨hJ, (show v 397 9 = v 397 9 from rfl), (show v 397 8 = v 397 8 from rfl), (fun A H hV => by (obtain ⟨p, hp, ep, ei, -⟩ := fb_m_pl1 hV.2.1 hV.1 h_plm2 c_6; have NB : ¬ (a2 ≤ A.g 7 ∨ ¬ a2 ≤ nI 9999) := (fun z => fa_in1 h_in_24 c_27 (by rw [hV.2.1.g (k := 7) (by decide)]; exact (fb_m_inR hV.1 a2).mpr z)); have NM := fb_m_fd0 hV.2.1 h_plm36 (by first | exact c_40 | exact Decidable.not_not.mp c_40); have ql : A.q.length = n5 := fa_nIinj (by have := hV.2.1.q8; omega) (by omega) (hV.2.1.n5.symm.trans g5); have z8 := fa_nIinj (by omega) (by omega) c_55; exact fb_m_err hV (fb_resA_m ei NB NM (by omega)) (by decide)))⟩, fa_fr.rf⟩⟩)
      · refine lv_bipush (v := (-5 : Int32)) hx hb dX7_reserve_43 (by decide) ?_
        exact RET _ _ _ _ _ _ _ HX2630 dX7_reserve_45 (⟨rfl, ⟨⟨hJ, (show v 397 9 = v 397 9 from rfl), (show v 397 8 = v 397 8 from rfl), (fun A H hV => by (obtain ⟨p, hp, ep, ei, -⟩ := fb_m_pl1 hV.2.1 hV.1 h_plm2 c_6; have NB : ¬ (a2 ≤ A.g 7 ∨ ¬ a2 ≤ nI 9999) := (fun z => fa_in1 h_in_24 c_27 (by rw [hV.2.1.g (k := 7) (by decide)]; exact (fb_m_inR hV.1 a2).mpr z)); obtain ⟨-, -, -, -, -, mm⟩ := fb_m_fd1 hV.2.1 h_plm36 c_40; exact fb_m_err hV (fb_resA_p ei NB mm) (by decide)))⟩, fa_fr.rf⟩⟩)
    · refine lv_bipush (v := (-2 : Int32)) hx hb dX7_reserve_30 (by decide) ?_
      exact RET _ _ _ _ _ _ _ HX2627 dX7_reserve_32 (⟨rfl, ⟨⟨hJ, (show v 397 9 = v 397 9 from rfl), (show v 397 8 = v 397 8 from rfl), (fun A H hV => by (obtain ⟨p, hp, ep, ei, -⟩ := fb_m_pl1 hV.2.1 hV.1 h_plm2 c_6; exact fb_m_err hV (fb_resA_b ei ((fb_m_inR hV.1 a2).mp (by rw [← hV.2.1.g (k := 7) (by decide)]; exact fa_in0 h_in_24 (by first | exact c_27 | exact Decidable.not_not.mp c_27)))) (by decide)))⟩, fa_fr.rf⟩⟩)
  · refine lv_iconst (v := (-1 : Int32)) hx hb dX7_reserve_9 (by decide) ?_
    exact RET _ _ _ _ _ _ _ HX2624 dX7_reserve_10 (⟨rfl, ⟨⟨hJ, (show v 397 9 = v 397 9 from rfl), (show v 397 8 = v 397 8 from rfl), (fun A H hV => fb_m_err hV (fb_resA_n (fb_m_pl0 hV.2.1 hV.1 h_plm2 (by first | exact c_6 | exact Decidable.not_not.mp c_6))) (by decide))⟩, fa_fr.rf⟩⟩)
set_option maxHeartbeats 4000000 in
set_option maxRecDepth 100000 in
theorem r_cancel (l : Launch) (G : fa_G) (n : Nat) (hn : 406 ≤ n) (v : fa_V) (r : fa_R) (hM : fa_RM r) (hJ : fa_MJ v) (a1 : Int32) (a2 : Int32) : fa_MI l G n yX7_cancel cX7_cancel 4 (some .int) 8 [.ref (fa_B G + (397)), .int (a1), .int (a2)] v r (fa_voi r (fun x v1 => ((fa_MJ v1) ∧ (v1 397 9 = v 397 9) ∧ (v1 397 8 = v 397 8) ∧ (∀ A H, fb_MV v A H → x = (fb_canA A a1 a2).1 ∧ fb_MV v1 (fb_canA A a1 a2).2 (fb_rec H A (fb_canA A a1 a2).1))) ∧ (fa_fr (397) (403) v v1))) := by
  refine fa_startI (by decide +kernel) (Nat.le_of_ble_eq_true rfl) (fun p e s m args below meth c ls Q CX hl HX RET => ?_)
  have hl : lv_has ls 4 [(0, .ref (fa_B G + (397))), (1, .int (a1)), (2, .int (a2))] := hl
  have hx := CX.1.1
  have hb := CX.1.2.1
  have hS := hJ.1
  obtain ⟨n4, en4⟩ : ∃ m, m = fa_N (v 398 14) := ⟨_, rfl⟩
  obtain ⟨hn4, g4⟩ := hS.n4 en4
  obtain ⟨n5, en5⟩ : ∃ m, m = fa_N (v 398 15) := ⟨_, rfl⟩
  obtain ⟨hn5, g5⟩ := hS.n5 en5
  obtain ⟨n6, en6⟩ : ∃ m, m = fa_N (v 398 16) := ⟨_, rfl⟩
  obtain ⟨hn6, g6⟩ := hS.n6 en6
  obtain ⟨n10, hn10, g10⟩ := hJ.2.2.2.2.1
  obtain ⟨n9, hn9, g9⟩ := hJ.2.2.2.2.2
  refine lv_aload_n hx hb dX7_cancel_0 rfl (lv_at hl 0 rfl) ?_
  refine lv_iload_n hx hb dX7_cancel_1 rfl (lv_at hl 1 rfl) ?_
  refine lv_iload_n hx hb dX7_cancel_2 rfl (lv_at hl 2 rfl) ?_
  refine fa_callVip (As := [.int (a1), .int (a2)]) (rest := []) CX HX (r_find l G n hn v r hM hJ.1 (a1) (a2)) ln_X7_125 (by omega) rfl rfl rfl rfl (Nat.le_of_ble_eq_true rfl) hl.1 ⟨Nat.le_of_ble_eq_true rfl, Nat.le_of_ble_eq_true rfl⟩ ⟨Nat.le_refl _, Nat.le_refl _⟩ dX7_cancel_3 (fun x2648 H locs h2647 HX2649 => ?_)
  have h_pl3 := h2647.1
  have h_plm3 := h2647.2
  refine lv_istore_n (lv' := [(3, .int (x2648)), (0, .ref (fa_B G + (397))), (1, .int (a1)), (2, .int (a2))]) hx hb dX7_cancel_6 rfl hl (by decide) rfl (fun ls hl => ?_)
  refine lv_iload_n hx hb dX7_cancel_7 rfl (lv_at hl 0 rfl) ?_
  refine lv_iconst (v := (-1 : Int32)) hx hb dX7_cancel_8 (by decide) ?_
  refine lv_icmp_ne (tgt := 14) hx hb dX7_cancel_9 (by decide) (fun c_9 => ?_) (fun c_9 => ?_)
  · obtain ⟨tp, htp, etp⟩ := h_pl3.ne c_9
    refine lv_aload_n hx hb dX7_cancel_14 rfl (lv_at hl 1 rfl) ?_
    refine fa_callVvu (As := []) (rest := []) CX HX2649 (r_hold l G n hn v r hM) ln_X7_102 (by omega) rfl rfl rfl rfl (Nat.le_of_ble_eq_true rfl) hl.1 ⟨Nat.le_of_ble_eq_true rfl, Nat.le_of_ble_eq_true rfl⟩ ⟨Nat.le_refl _, Nat.le_refl _⟩ dX7_cancel_15 (fun v2651 H locs h2650 HX2652 => ?_)
    have h_hold := h2650.1
    refine lv_aload_n hx hb dX7_cancel_18 rfl (lv_at hl 1 rfl) ?_
    refine lv_iload_n hx hb dX7_cancel_19 rfl (lv_at hl 0 rfl) ?_
    rw [show x2648 = nI (tp) from etp]
    refine fa_callVvu (As := [.int (nI (tp))]) (rest := []) CX HX2652 (r_removeReservation l G n hn v2651 r hM (show fa_MS (v2651 398) from by rw [h2650.2 398 (by omega)]; exact hJ.1) (tp) (by omega) (show tp < fa_N (v2651 398 15) from by rw [show v2651 398 = v 398 from h2650.2 398 (by omega)]; exact htp)) ln_X7_76 (by omega) rfl rfl rfl rfl (Nat.le_of_ble_eq_true rfl) hl.1 ⟨Nat.le_of_ble_eq_true rfl, Nat.le_of_ble_eq_true rfl⟩ ⟨Nat.le_refl _, Nat.le_refl _⟩ dX7_cancel_20 (fun v2654 H locs h2653 HX2655 => ?_)
    have hS_v2654 := h2653.1.1
    have h_removeReservation := h2653.1.2.2.2
    refine lv_aload_n hx hb dX7_cancel_23 rfl (lv_at hl 1 rfl) ?_
    refine lv_aload_n hx hb dX7_cancel_24 rfl (lv_at hl 1 rfl) ?_
    refine fa_getr (k := 397) (j := 398) CX HX2655 fl_X7_7 (by omega) rfl rfl hM.1 dX7_cancel_25 ?_
    refine lv_bipush (v := nI (15)) hx hb dX7_cancel_28 (by decide) ?_
    refine fa_iald (k := 398) (j := 15) CX HX2655 (by omega) rfl (by omega) (by first | decide | assumption) dX7_cancel_30 ?_
    rw [show v2654 398 15 = nI (n5 - 1) from (by rw [h_removeReservation.1, (show v2651 398 15 = nI (n5) from (by rw [h2650.2 _ (by omega)]; exact g5)), fa_N_nI (by omega)])]
    refine fa_callViu (As := [.int (nI (n5 - 1))]) (rest := []) CX HX2655 (r_recorded l G n hn v2654 r hM (show fa_MJ v2654 from ⟨hS_v2654, (show fa_MS (v2654 399) from by rw [h2653.2 399 (by omega)]; exact (fa_MS.cp hJ.1 h2650.1)), (show fa_MS (v2654 400) from by rw [h2653.2 400 (by omega)]; exact (show fa_MS (v2651 400) from by rw [h2650.2 400 (by omega)]; exact hJ.2.2.1)), (show fa_MB (v2654 401) from by rw [h2653.2 401 (by omega)]; exact (show fa_MB (v2651 401) from by rw [h2650.2 401 (by omega)]; exact hJ.2.2.2.1)), ⟨n10, by omega, (by rw [h2653.2 _ (by omega)]; exact (by rw [h2650.2 _ (by omega)]; exact g10))⟩, ⟨n9, by omega, (by rw [h2653.2 _ (by omega)]; exact (by rw [h2650.2 _ (by omega)]; exact g9))⟩⟩) (nI (n5 - 1))) ln_X7_109 (by omega) rfl rfl rfl rfl (Nat.le_of_ble_eq_true rfl) hl.1 ⟨Nat.le_of_ble_eq_true rfl, Nat.le_of_ble_eq_true rfl⟩ ⟨Nat.le_refl _, Nat.le_refl _⟩ dX7_cancel_31 (fun x2657 v2658 H locs h2656 HX2659 => ?_)
    have hJ_v2658 := h2656.1.1
    obtain ⟨n10_v2658, hn10_v2658, g10_v2658⟩ := hJ_v2658.2.2.2.2.1
    have h_recorded := h2656.1.2.2.2
    exact RET _ _ _ _ _ _ _ HX2659 dX7_cancel_34 (⟨rfl, ⟨⟨hJ_v2658, (show v2658 397 9 = v 397 9 from ((show v2658 397 9 = nI (n9) from ((h2656.1.2.1).trans (by rw [h2653.2 _ (by omega)]; exact (by rw [h2650.2 _ (by omega)]; exact g9)))).trans g9.symm)), (show v2658 397 8 = v 397 8 from (h2656.1.2.2.1.trans ((congrFun (h2653.2 397 (by omega)) 8).trans (congrFun (h2650.2 397 (by omega)) 8)))), (fun A H hV => by (obtain ⟨k, hk, ek, e1, e2, mm⟩ := fb_m_fd1 hV.2.1 h_plm3 c_9; have et : tp = k := fa_nIinj (by omega) (by omega) (etp.symm.trans ek); subst et; exact fb_m_face (op := fb_canA A a1 a2) hV h2650.2 h_hold (show v2654 397 = v2651 397 from by rw [h2653.2 397 (by omega)]) (show v2654 399 = v2651 399 from by rw [h2653.2 399 (by omega)]) (show v2654 401 = v2651 401 from by rw [h2653.2 401 (by omega)]) (fun m => by (rw [fb_canA_s mm]; exact fb_m_can m (by rw [h2650.2 398 (by omega)]; exact g5) hn5 (by omega) (by rw [h2650.2 398 (by omega)]; exact e1) (by rw [h2650.2 398 (by omega)]; exact e2) h_removeReservation.2)) (hV.1.canA a1 a2) h_recorded))⟩, (fa_fr.tr (fa_fr.tr (fa_fr.tr fa_fr.rf (fa_fr.wide h2650.2 (by omega) (by omega))) (fa_fr.wide h2653.2 (by omega) (by omega))) (fa_fr.wide h2656.2 (by omega) (by omega)))⟩⟩)
  · refine lv_iconst (v := (-1 : Int32)) hx hb dX7_cancel_12 (by decide) ?_
    exact RET _ _ _ _ _ _ _ HX2649 dX7_cancel_13 (⟨rfl, ⟨⟨hJ, (show v 397 9 = v 397 9 from rfl), (show v 397 8 = v 397 8 from rfl), (fun A H hV => fb_m_err hV (fb_canA_n (fb_m_fd0 hV.2.1 h_plm3 (by first | exact c_9 | exact Decidable.not_not.mp c_9))) (by decide))⟩, fa_fr.rf⟩⟩)
set_option maxHeartbeats 4000000 in
set_option maxRecDepth 100000 in
theorem r_set (l : Launch) (G : fa_G) (n : Nat) (hn : 406 ≤ n) (v : fa_V) (r : fa_R) (hM : fa_RM r) (hJ : fa_MJ v) (a1 : Int32) (a2 : Int32) : fa_MI l G n yX7_set cX7_set 4 (some .int) 8 [.ref (fa_B G + (397)), .int (a1), .int (a2)] v r (fa_voi r (fun x v1 => ((fa_MJ v1) ∧ (v1 397 9 = v 397 9) ∧ (v1 397 8 = v 397 8) ∧ (∀ A H, fb_MV v A H → x = (fb_setA A a1 a2).1 ∧ fb_MV v1 (fb_setA A a1 a2).2 (fb_rec H A (fb_setA A a1 a2).1))) ∧ (fa_fr (397) (403) v v1))) := by
  refine fa_startI (by decide +kernel) (Nat.le_of_ble_eq_true rfl) (fun p e s m args below meth c ls Q CX hl HX RET => ?_)
  have hl : lv_has ls 4 [(0, .ref (fa_B G + (397))), (1, .int (a1)), (2, .int (a2))] := hl
  have hx := CX.1.1
  have hb := CX.1.2.1
  have hS := hJ.1
  obtain ⟨n4, en4⟩ : ∃ m, m = fa_N (v 398 14) := ⟨_, rfl⟩
  obtain ⟨hn4, g4⟩ := hS.n4 en4
  obtain ⟨n5, en5⟩ : ∃ m, m = fa_N (v 398 15) := ⟨_, rfl⟩
  obtain ⟨hn5, g5⟩ := hS.n5 en5
  obtain ⟨n6, en6⟩ : ∃ m, m = fa_N (v 398 16) := ⟨_, rfl⟩
  obtain ⟨hn6, g6⟩ := hS.n6 en6
  obtain ⟨n10, hn10, g10⟩ := hJ.2.2.2.2.1
  obtain ⟨n9, hn9, g9⟩ := hJ.2.2.2.2.2
  refine lv_iload_n hx hb dX7_set_0 rfl (lv_at hl 1 rfl) ?_
  refine lv_iconst (v := nI (0)) hx hb dX7_set_1 (by decide) ?_
  refine lv_bipush (v := nI (6)) hx hb dX7_set_2 (by decide) ?_
  refine fa_callSip (As := [.int (a1), .int (nI (0)), .int (nI (6))]) (rest := []) CX HX (r_in l G n v r (a1) (nI (0)) (nI (6))) ln_X7_86 rfl rfl (Nat.le_of_ble_eq_true rfl) hl.1 ⟨Nat.le_of_ble_eq_true rfl, Nat.le_of_ble_eq_true rfl⟩ ⟨Nat.le_refl _, Nat.le_refl _⟩ dX7_set_4 (fun x2661 H locs h2660 HX2662 => ?_)
  have h_in_4 := h2660
  refine lv_if_ne (tgt := 12) hx hb dX7_set_7 (by decide) (fun c_7 => ?_) (fun c_7 => ?_)
  · obtain ⟨ja, hja, eja⟩ := fa_inN (by decide) (fa_in1 h_in_4 c_7)
    refine lv_iload_n hx hb dX7_set_12 rfl (lv_at hl 2 rfl) ?_
    refine lv_iload_n hx hb dX7_set_13 rfl (lv_at hl 1 rfl) ?_
    rw [show a1 = nI (ja) from eja]
    refine lv_iconst (v := nI (5)) hx hb dX7_set_14 (by decide) ?_
    refine lv_icmp_ge (tgt := 23) hx hb dX7_set_15 (by decide) (fun c_15 => ?_) (fun c_15 => ?_)
    · have k15 := fa_leN (by omega) (by omega) c_15
      refine lv_iload_n hx hb dX7_set_23 rfl (lv_at hl 1 rfl) ?_
      rw [show a1 = nI (ja) from eja]
      refine lv_iconst (v := nI (5)) hx hb dX7_set_24 (by decide) ?_
      refine lv_icmp_ne (tgt := 32) hx hb dX7_set_25 (by decide) (fun c_25 => ?_) (fun c_25 => ?_)
      · have k25 : ¬ ja = 5 := fun z => c_25 (by rw [z])
        refine lv_bipush (v := nI (50)) hx hb dX7_set_32 (by decide) ?_
        refine lv_iload_n hx hb dX7_set_34 rfl (lv_at hl 1 rfl) ?_
        rw [show a1 = nI (ja) from eja]
        refine lv_iconst (v := nI (5)) hx hb dX7_set_35 (by decide) ?_
        refine lv_icmp_ge (tgt := 45) hx hb dX7_set_36 (by decide) (fun c_36 => ?_) (fun c_36 => ?_)
        · refine lv_iload_n hx hb dX7_set_45 rfl (lv_at hl 1 rfl) ?_
          rw [show a1 = nI (ja) from eja]
          refine lv_iconst (v := nI (5)) hx hb dX7_set_46 (by decide) ?_
          refine lv_icmp_ne (tgt := 55) hx hb dX7_set_47 (by decide) (fun c_47 => ?_) (fun c_47 => ?_)
          · refine lv_sipush (v := nI (600)) hx hb dX7_set_55 (by decide) ?_
            refine fa_callSip (As := [.int (a2), .int (nI (50)), .int (nI (600))]) (rest := []) CX HX2662 (r_in l G n v r (a2) (nI (50)) (nI (600))) ln_X7_86 rfl rfl (Nat.le_of_ble_eq_true rfl) hl.1 ⟨Nat.le_of_ble_eq_true rfl, Nat.le_of_ble_eq_true rfl⟩ ⟨Nat.le_refl _, Nat.le_refl _⟩ dX7_set_58 (fun x2664 H locs h2663 HX2665 => ?_)
            have h_in_58 := h2663
            refine lv_if_ne (tgt := 67) hx hb dX7_set_61 (by decide) (fun c_61 => ?_) (fun c_61 => ?_)
            · refine lv_aload_n hx hb dX7_set_67 rfl (lv_at hl 0 rfl) ?_
              refine fa_callVvu (As := []) (rest := []) CX HX2665 (r_hold l G n hn v r hM) ln_X7_102 (by omega) rfl rfl rfl rfl (Nat.le_of_ble_eq_true rfl) hl.1 ⟨Nat.le_of_ble_eq_true rfl, Nat.le_of_ble_eq_true rfl⟩ ⟨Nat.le_refl _, Nat.le_refl _⟩ dX7_set_68 (fun v2667 H locs h2666 HX2668 => ?_)
              have h_hold := h2666.1
              refine lv_aload_n hx hb dX7_set_71 rfl (lv_at hl 0 rfl) ?_
              refine fa_getr (k := 397) (j := 398) CX HX2668 fl_X7_7 (by omega) rfl rfl hM.1 dX7_set_72 ?_
              refine lv_iload_n hx hb dX7_set_75 rfl (lv_at hl 1 rfl) ?_
              rw [show a1 = nI (ja) from eja]
              refine fa_iald (k := 398) (j := ja) CX HX2668 (by omega) rfl (by omega) (by first | decide | assumption) dX7_set_76 ?_
              refine lv_istore_n (lv' := [(3, .int (v2667 398 ja)), (0, .ref (fa_B G + (397))), (1, .int (a1)), (2, .int (a2))]) hx hb dX7_set_77 rfl hl (by decide) rfl (fun ls hl => ?_)
              refine lv_aload_n hx hb dX7_set_78 rfl (lv_at hl 1 rfl) ?_
              refine fa_getr (k := 397) (j := 398) CX HX2668 fl_X7_7 (by omega) rfl rfl hM.1 dX7_set_79 ?_
              refine lv_iload_n hx hb dX7_set_82 rfl (lv_at hl 2 rfl) ?_
              rw [show a1 = nI (ja) from eja]
              refine lv_iload_n hx hb dX7_set_83 rfl (lv_at hl 3 rfl) ?_
              refine fa_iast (k := 398) (j := ja) CX HX2668 (by omega) rfl (by omega) (by first | decide | assumption) dX7_set_84 (fun H locs v2669 e2670 HX2671 => ?_)
              refine lv_aload_n hx hb dX7_set_85 rfl (lv_at hl 1 rfl) ?_
              refine lv_iload_n hx hb dX7_set_86 rfl (lv_at hl 0 rfl) ?_
              refine fa_callViu (As := [.int (v2667 398 ja)]) (rest := []) CX HX2671 (r_recorded l G n hn v2669 r hM (show fa_MJ v2669 from ⟨(show fa_MS (v2669 398) from by rw [e2670]; exact fa_MS.u (show fa_MS (v2667 398) from by rw [h2666.2 398 (by omega)]; exact hJ.1) (fa_ok.o (by omega) (by omega) (by omega) (fun p hp => by omega))), (show fa_MS (v2669 399) from by rw [e2670, fa_u_k _ _ (by decide)]; exact (fa_MS.cp hJ.1 h2666.1)), (show fa_MS (v2669 400) from by rw [e2670, fa_u_k _ _ (by decide)]; exact (show fa_MS (v2667 400) from by rw [h2666.2 400 (by omega)]; exact hJ.2.2.1)), (show fa_MB (v2669 401) from by rw [e2670, fa_u_k _ _ (by decide)]; exact (show fa_MB (v2667 401) from by rw [h2666.2 401 (by omega)]; exact hJ.2.2.2.1)), ⟨n10, by omega, (by rw [e2670, fa_u_n _ _ (by omega)]; exact (by rw [h2666.2 _ (by omega)]; exact g10))⟩, ⟨n9, by omega, (by rw [e2670, fa_u_n _ _ (by omega)]; exact (by rw [h2666.2 _ (by omega)]; exact g9))⟩⟩) (v2667 398 ja)) ln_X7_109 (by omega) rfl rfl rfl rfl (Nat.le_of_ble_eq_true rfl) hl.1 ⟨Nat.le_of_ble_eq_true rfl, Nat.le_of_ble_eq_true rfl⟩ ⟨Nat.le_refl _, Nat.le_refl _⟩ dX7_set_87 (fun x2673 v2674 H locs h2672 HX2675 => ?_)
              have hJ_v2674 := h2672.1.1
              obtain ⟨n10_v2674, hn10_v2674, g10_v2674⟩ := hJ_v2674.2.2.2.2.1
              have h_recorded := h2672.1.2.2.2
              exact RET _ _ _ _ _ _ _ HX2675 dX7_set_90 (⟨rfl, ⟨⟨hJ_v2674, (show v2674 397 9 = v 397 9 from ((show v2674 397 9 = nI (n9) from ((h2672.1.2.1).trans (by rw [e2670, fa_u_n _ _ (by omega)]; exact (by rw [h2666.2 _ (by omega)]; exact g9)))).trans g9.symm)), (show v2674 397 8 = v 397 8 from (h2672.1.2.2.1.trans ((show v2669 397 8 = v2667 397 8 from by rw [e2670, fa_u_n _ _ (by omega)]).trans (congrFun (h2666.2 397 (by omega)) 8)))), (fun A H hV => by (have NC : ¬ (a1 < 0 ∨ ¬ a1 < nI 7) := (fun z => fa_in1 h_in_4 c_7 ((fb_m_in6 a1).mpr z)); have st := fb_st7 k15 hja k25; exact fb_m_face (op := fb_setA A a1 a2) hV h2666.2 h_hold (show v2669 397 = v2667 397 from by rw [e2670, fa_u_k _ _ (by decide)]) (show v2669 399 = v2667 399 from by rw [e2670, fa_u_k _ _ (by decide)]) (show v2669 401 = v2667 401 from by rw [e2670, fa_u_k _ _ (by decide)]) (fun m => by (rw [fb_setA_3 NC eja (by omega) (by rw [st.1, st.2]; exact fun z => fa_in1 h_in_58 c_61 (z.elim Or.inl (fun y => Or.inr (Int32.not_le.mp y))))]; exact ⟨m.g (by omega), (by rw [e2670]; exact m.ug (by omega))⟩)) (hV.1.setA a1 a2) h_recorded))⟩, (fa_fr.tr (by rw [e2670]; exact fa_fr.u (fa_fr.tr fa_fr.rf (fa_fr.wide h2666.2 (by omega) (by omega))) (by omega)) (fa_fr.wide h2672.2 (by omega) (by omega)))⟩⟩)
            · refine lv_bipush (v := (-2 : Int32)) hx hb dX7_set_64 (by decide) ?_
              exact RET _ _ _ _ _ _ _ HX2665 dX7_set_66 (⟨rfl, ⟨⟨hJ, (show v 397 9 = v 397 9 from rfl), (show v 397 8 = v 397 8 from rfl), (fun A H hV => by (have NC : ¬ (a1 < 0 ∨ ¬ a1 < nI 7) := (fun z => fa_in1 h_in_4 c_7 ((fb_m_in6 a1).mpr z)); have st := fb_st7 k15 hja k25; exact fb_m_err hV (fb_setA_2 NC eja (by omega) (by rw [st.1, st.2]; exact (fa_in0 h_in_58 (by first | exact c_61 | exact Decidable.not_not.mp c_61)).elim Or.inl (fun z => Or.inr (Int32.not_le.mpr z)))) (by decide)))⟩, fa_fr.rf⟩⟩)
          · exact absurd (fa_nIinj (by omega) (by omega) c_47) k25
        · exact absurd (fa_ltN (by omega) (by omega) c_36) (by omega)
      · have k25 : ja = 5 := fa_nIinj (by omega) (by omega) c_25
        refine lv_iconst (v := nI (1)) hx hb dX7_set_28 (by decide) ?_
        refine lv_goto (tgt := 34) hx hb dX7_set_29 (by decide) ?_
        refine lv_iload_n hx hb dX7_set_34 rfl (lv_at hl 1 rfl) ?_
        rw [show a1 = nI (ja) from eja]
        refine lv_iconst (v := nI (5)) hx hb dX7_set_35 (by decide) ?_
        refine lv_icmp_ge (tgt := 45) hx hb dX7_set_36 (by decide) (fun c_36 => ?_) (fun c_36 => ?_)
        · refine lv_iload_n hx hb dX7_set_45 rfl (lv_at hl 1 rfl) ?_
          rw [show a1 = nI (ja) from eja]
          refine lv_iconst (v := nI (5)) hx hb dX7_set_46 (by decide) ?_
          refine lv_icmp_ne (tgt := 55) hx hb dX7_set_47 (by decide) (fun c_47 => ?_) (fun c_47 => ?_)
          · exact absurd (by rw [k25]) c_47
          · refine lv_bipush (v := nI (20)) hx hb dX7_set_50 (by decide) ?_
            refine lv_goto (tgt := 58) hx hb dX7_set_52 (by decide) ?_
            refine fa_callSip (As := [.int (a2), .int (nI (1)), .int (nI (20))]) (rest := []) CX HX2662 (r_in l G n v r (a2) (nI (1)) (nI (20))) ln_X7_86 rfl rfl (Nat.le_of_ble_eq_true rfl) hl.1 ⟨Nat.le_of_ble_eq_true rfl, Nat.le_of_ble_eq_true rfl⟩ ⟨Nat.le_refl _, Nat.le_refl _⟩ dX7_set_58 (fun x2677 H locs h2676 HX2678 => ?_)
            have h_in_58 := h2676
            refine lv_if_ne (tgt := 67) hx hb dX7_set_61 (by decide) (fun c_61 => ?_) (fun c_61 => ?_)
            · refine lv_aload_n hx hb dX7_set_67 rfl (lv_at hl 0 rfl) ?_
              refine fa_callVvu (As := []) (rest := []) CX HX2678 (r_hold l G n hn v r hM) ln_X7_102 (by omega) rfl rfl rfl rfl (Nat.le_of_ble_eq_true rfl) hl.1 ⟨Nat.le_of_ble_eq_true rfl, Nat.le_of_ble_eq_true rfl⟩ ⟨Nat.le_refl _, Nat.le_refl _⟩ dX7_set_68 (fun v2680 H locs h2679 HX2681 => ?_)
              have h_hold := h2679.1
              refine lv_aload_n hx hb dX7_set_71 rfl (lv_at hl 0 rfl) ?_
              refine fa_getr (k := 397) (j := 398) CX HX2681 fl_X7_7 (by omega) rfl rfl hM.1 dX7_set_72 ?_
              refine lv_iload_n hx hb dX7_set_75 rfl (lv_at hl 1 rfl) ?_
              rw [show a1 = nI (ja) from eja]
              refine fa_iald (k := 398) (j := ja) CX HX2681 (by omega) rfl (by omega) (by first | decide | assumption) dX7_set_76 ?_
              refine lv_istore_n (lv' := [(3, .int (v2680 398 ja)), (0, .ref (fa_B G + (397))), (1, .int (a1)), (2, .int (a2))]) hx hb dX7_set_77 rfl hl (by decide) rfl (fun ls hl => ?_)
              refine lv_aload_n hx hb dX7_set_78 rfl (lv_at hl 1 rfl) ?_
              refine fa_getr (k := 397) (j := 398) CX HX2681 fl_X7_7 (by omega) rfl rfl hM.1 dX7_set_79 ?_
              refine lv_iload_n hx hb dX7_set_82 rfl (lv_at hl 2 rfl) ?_
              rw [show a1 = nI (ja) from eja]
              refine lv_iload_n hx hb dX7_set_83 rfl (lv_at hl 3 rfl) ?_
              refine fa_iast (k := 398) (j := ja) CX HX2681 (by omega) rfl (by omega) (by first | decide | assumption) dX7_set_84 (fun H locs v2682 e2683 HX2684 => ?_)
              refine lv_aload_n hx hb dX7_set_85 rfl (lv_at hl 1 rfl) ?_
              refine lv_iload_n hx hb dX7_set_86 rfl (lv_at hl 0 rfl) ?_
              refine fa_callViu (As := [.int (v2680 398 ja)]) (rest := []) CX HX2684 (r_recorded l G n hn v2682 r hM (show fa_MJ v2682 from ⟨(show fa_MS (v2682 398) from by rw [e2683]; exact fa_MS.u (show fa_MS (v2680 398) from by rw [h2679.2 398 (by omega)]; exact hJ.1) (fa_ok.o (by omega) (by omega) (by omega) (fun p hp => by omega))), (show fa_MS (v2682 399) from by rw [e2683, fa_u_k _ _ (by decide)]; exact (fa_MS.cp hJ.1 h2679.1)), (show fa_MS (v2682 400) from by rw [e2683, fa_u_k _ _ (by decide)]; exact (show fa_MS (v2680 400) from by rw [h2679.2 400 (by omega)]; exact hJ.2.2.1)), (show fa_MB (v2682 401) from by rw [e2683, fa_u_k _ _ (by decide)]; exact (show fa_MB (v2680 401) from by rw [h2679.2 401 (by omega)]; exact hJ.2.2.2.1)), ⟨n10, by omega, (by rw [e2683, fa_u_n _ _ (by omega)]; exact (by rw [h2679.2 _ (by omega)]; exact g10))⟩, ⟨n9, by omega, (by rw [e2683, fa_u_n _ _ (by omega)]; exact (by rw [h2679.2 _ (by omega)]; exact g9))⟩⟩) (v2680 398 ja)) ln_X7_109 (by omega) rfl rfl rfl rfl (Nat.le_of_ble_eq_true rfl) hl.1 ⟨Nat.le_of_ble_eq_true rfl, Nat.le_of_ble_eq_true rfl⟩ ⟨Nat.le_refl _, Nat.le_refl _⟩ dX7_set_87 (fun x2686 v2687 H locs h2685 HX2688 => ?_)
              have hJ_v2687 := h2685.1.1
              obtain ⟨n10_v2687, hn10_v2687, g10_v2687⟩ := hJ_v2687.2.2.2.2.1
              have h_recorded := h2685.1.2.2.2
              exact RET _ _ _ _ _ _ _ HX2688 dX7_set_90 (⟨rfl, ⟨⟨hJ_v2687, (show v2687 397 9 = v 397 9 from ((show v2687 397 9 = nI (n9) from ((h2685.1.2.1).trans (by rw [e2683, fa_u_n _ _ (by omega)]; exact (by rw [h2679.2 _ (by omega)]; exact g9)))).trans g9.symm)), (show v2687 397 8 = v 397 8 from (h2685.1.2.2.1.trans ((show v2682 397 8 = v2680 397 8 from by rw [e2683, fa_u_n _ _ (by omega)]).trans (congrFun (h2679.2 397 (by omega)) 8)))), (fun A H hV => by (have NC : ¬ (a1 < 0 ∨ ¬ a1 < nI 7) := (fun z => fa_in1 h_in_4 c_7 ((fb_m_in6 a1).mpr z)); have st := fb_st6 k25; exact fb_m_face (op := fb_setA A a1 a2) hV h2679.2 h_hold (show v2682 397 = v2680 397 from by rw [e2683, fa_u_k _ _ (by decide)]) (show v2682 399 = v2680 399 from by rw [e2683, fa_u_k _ _ (by decide)]) (show v2682 401 = v2680 401 from by rw [e2683, fa_u_k _ _ (by decide)]) (fun m => by (rw [fb_setA_3 NC eja (by omega) (by rw [st.1, st.2]; exact fun z => fa_in1 h_in_58 c_61 (z.elim Or.inl (fun y => Or.inr (Int32.not_le.mp y))))]; exact ⟨m.g (by omega), (by rw [e2683]; exact m.ug (by omega))⟩)) (hV.1.setA a1 a2) h_recorded))⟩, (fa_fr.tr (by rw [e2683]; exact fa_fr.u (fa_fr.tr fa_fr.rf (fa_fr.wide h2679.2 (by omega) (by omega))) (by omega)) (fa_fr.wide h2685.2 (by omega) (by omega)))⟩⟩)
            · refine lv_bipush (v := (-2 : Int32)) hx hb dX7_set_64 (by decide) ?_
              exact RET _ _ _ _ _ _ _ HX2678 dX7_set_66 (⟨rfl, ⟨⟨hJ, (show v 397 9 = v 397 9 from rfl), (show v 397 8 = v 397 8 from rfl), (fun A H hV => by (have NC : ¬ (a1 < 0 ∨ ¬ a1 < nI 7) := (fun z => fa_in1 h_in_4 c_7 ((fb_m_in6 a1).mpr z)); have st := fb_st6 k25; exact fb_m_err hV (fb_setA_2 NC eja (by omega) (by rw [st.1, st.2]; exact (fa_in0 h_in_58 (by first | exact c_61 | exact Decidable.not_not.mp c_61)).elim Or.inl (fun z => Or.inr (Int32.not_le.mpr z)))) (by decide)))⟩, fa_fr.rf⟩⟩)
        · exact absurd (fa_ltN (by omega) (by omega) c_36) (by omega)
    · have k15 := fa_ltN (by omega) (by omega) c_15
      refine lv_bipush (v := nI (30)) hx hb dX7_set_18 (by decide) ?_
      refine lv_goto (tgt := 34) hx hb dX7_set_20 (by decide) ?_
      refine lv_iload_n hx hb dX7_set_34 rfl (lv_at hl 1 rfl) ?_
      rw [show a1 = nI (ja) from eja]
      refine lv_iconst (v := nI (5)) hx hb dX7_set_35 (by decide) ?_
      refine lv_icmp_ge (tgt := 45) hx hb dX7_set_36 (by decide) (fun c_36 => ?_) (fun c_36 => ?_)
      · exact absurd (fa_leN (by omega) (by omega) c_36) (by omega)
      · refine lv_sipush (v := nI (2000)) hx hb dX7_set_39 (by decide) ?_
        refine lv_goto (tgt := 58) hx hb dX7_set_42 (by decide) ?_
        refine fa_callSip (As := [.int (a2), .int (nI (30)), .int (nI (2000))]) (rest := []) CX HX2662 (r_in l G n v r (a2) (nI (30)) (nI (2000))) ln_X7_86 rfl rfl (Nat.le_of_ble_eq_true rfl) hl.1 ⟨Nat.le_of_ble_eq_true rfl, Nat.le_of_ble_eq_true rfl⟩ ⟨Nat.le_refl _, Nat.le_refl _⟩ dX7_set_58 (fun x2690 H locs h2689 HX2691 => ?_)
        have h_in_58 := h2689
        refine lv_if_ne (tgt := 67) hx hb dX7_set_61 (by decide) (fun c_61 => ?_) (fun c_61 => ?_)
        · refine lv_aload_n hx hb dX7_set_67 rfl (lv_at hl 0 rfl) ?_
          refine fa_callVvu (As := []) (rest := []) CX HX2691 (r_hold l G n hn v r hM) ln_X7_102 (by omega) rfl rfl rfl rfl (Nat.le_of_ble_eq_true rfl) hl.1 ⟨Nat.le_of_ble_eq_true rfl, Nat.le_of_ble_eq_true rfl⟩ ⟨Nat.le_refl _, Nat.le_refl _⟩ dX7_set_68 (fun v2693 H locs h2692 HX2694 => ?_)
          have h_hold := h2692.1
          refine lv_aload_n hx hb dX7_set_71 rfl (lv_at hl 0 rfl) ?_
          refine fa_getr (k := 397) (j := 398) CX HX2694 fl_X7_7 (by omega) rfl rfl hM.1 dX7_set_72 ?_
          refine lv_iload_n hx hb dX7_set_75 rfl (lv_at hl 1 rfl) ?_
          rw [show a1 = nI (ja) from eja]
          refine fa_iald (k := 398) (j := ja) CX HX2694 (by omega) rfl (by omega) (by first | decide | assumption) dX7_set_76 ?_
          refine lv_istore_n (lv' := [(3, .int (v2693 398 ja)), (0, .ref (fa_B G + (397))), (1, .int (a1)), (2, .int (a2))]) hx hb dX7_set_77 rfl hl (by decide) rfl (fun ls hl => ?_)
          refine lv_aload_n hx hb dX7_set_78 rfl (lv_at hl 1 rfl) ?_
          refine fa_getr (k := 397) (j := 398) CX HX2694 fl_X7_7 (by omega) rfl rfl hM.1 dX7_set_79 ?_
          refine lv_iload_n hx hb dX7_set_82 rfl (lv_at hl 2 rfl) ?_
          rw [show a1 = nI (ja) from eja]
          refine lv_iload_n hx hb dX7_set_83 rfl (lv_at hl 3 rfl) ?_
          refine fa_iast (k := 398) (j := ja) CX HX2694 (by omega) rfl (by omega) (by first | decide | assumption) dX7_set_84 (fun H locs v2695 e2696 HX2697 => ?_)
          refine lv_aload_n hx hb dX7_set_85 rfl (lv_at hl 1 rfl) ?_
          refine lv_iload_n hx hb dX7_set_86 rfl (lv_at hl 0 rfl) ?_
          refine fa_callViu (As := [.int (v2693 398 ja)]) (rest := []) CX HX2697 (r_recorded l G n hn v2695 r hM (show fa_MJ v2695 from ⟨(show fa_MS (v2695 398) from by rw [e2696]; exact fa_MS.u (show fa_MS (v2693 398) from by rw [h2692.2 398 (by omega)]; exact hJ.1) (fa_ok.o (by omega) (by omega) (by omega) (fun p hp => by omega))), (show fa_MS (v2695 399) from by rw [e2696, fa_u_k _ _ (by decide)]; exact (fa_MS.cp hJ.1 h2692.1)), (show fa_MS (v2695 400) from by rw [e2696, fa_u_k _ _ (by decide)]; exact (show fa_MS (v2693 400) from by rw [h2692.2 400 (by omega)]; exact hJ.2.2.1)), (show fa_MB (v2695 401) from by rw [e2696, fa_u_k _ _ (by decide)]; exact (show fa_MB (v2693 401) from by rw [h2692.2 401 (by omega)]; exact hJ.2.2.2.1)), ⟨n10, by omega, (by rw [e2696, fa_u_n _ _ (by omega)]; exact (by rw [h2692.2 _ (by omega)]; exact g10))⟩, ⟨n9, by omega, (by rw [e2696, fa_u_n _ _ (by omega)]; exact (by rw [h2692.2 _ (by omega)]; exact g9))⟩⟩) (v2693 398 ja)) ln_X7_109 (by omega) rfl rfl rfl rfl (Nat.le_of_ble_eq_true rfl) hl.1 ⟨Nat.le_of_ble_eq_true rfl, Nat.le_of_ble_eq_true rfl⟩ ⟨Nat.le_refl _, Nat.le_refl _⟩ dX7_set_87 (fun x2699 v2700 H locs h2698 HX2701 => ?_)
          have hJ_v2700 := h2698.1.1
          obtain ⟨n10_v2700, hn10_v2700, g10_v2700⟩ := hJ_v2700.2.2.2.2.1
          have h_recorded := h2698.1.2.2.2
          exact RET _ _ _ _ _ _ _ HX2701 dX7_set_90 (⟨rfl, ⟨⟨hJ_v2700, (show v2700 397 9 = v 397 9 from ((show v2700 397 9 = nI (n9) from ((h2698.1.2.1).trans (by rw [e2696, fa_u_n _ _ (by omega)]; exact (by rw [h2692.2 _ (by omega)]; exact g9)))).trans g9.symm)), (show v2700 397 8 = v 397 8 from (h2698.1.2.2.1.trans ((show v2695 397 8 = v2693 397 8 from by rw [e2696, fa_u_n _ _ (by omega)]).trans (congrFun (h2692.2 397 (by omega)) 8)))), (fun A H hV => by (have NC : ¬ (a1 < 0 ∨ ¬ a1 < nI 7) := (fun z => fa_in1 h_in_4 c_7 ((fb_m_in6 a1).mpr z)); have st := fb_st5 k15; exact fb_m_face (op := fb_setA A a1 a2) hV h2692.2 h_hold (show v2695 397 = v2693 397 from by rw [e2696, fa_u_k _ _ (by decide)]) (show v2695 399 = v2693 399 from by rw [e2696, fa_u_k _ _ (by decide)]) (show v2695 401 = v2693 401 from by rw [e2696, fa_u_k _ _ (by decide)]) (fun m => by (rw [fb_setA_3 NC eja (by omega) (by rw [st.1, st.2]; exact fun z => fa_in1 h_in_58 c_61 (z.elim Or.inl (fun y => Or.inr (Int32.not_le.mp y))))]; exact ⟨m.g (by omega), (by rw [e2696]; exact m.ug (by omega))⟩)) (hV.1.setA a1 a2) h_recorded))⟩, (fa_fr.tr (by rw [e2696]; exact fa_fr.u (fa_fr.tr fa_fr.rf (fa_fr.wide h2692.2 (by omega) (by omega))) (by omega)) (fa_fr.wide h2698.2 (by omega) (by omega)))⟩⟩)
        · refine lv_bipush (v := (-2 : Int32)) hx hb dX7_set_64 (by decide) ?_
          exact RET _ _ _ _ _ _ _ HX2691 dX7_set_66 (⟨rfl, ⟨⟨hJ, (show v 397 9 = v 397 9 from rfl), (show v 397 8 = v 397 8 from rfl), (fun A H hV => by (have NC : ¬ (a1 < 0 ∨ ¬ a1 < nI 7) := (fun z => fa_in1 h_in_4 c_7 ((fb_m_in6 a1).mpr z)); have st := fb_st5 k15; exact fb_m_err hV (fb_setA_2 NC eja (by omega) (by rw [st.1, st.2]; exact (fa_in0 h_in_58 (by first | exact c_61 | exact Decidable.not_not.mp c_61)).elim Or.inl (fun z => Or.inr (Int32.not_le.mpr z)))) (by decide)))⟩, fa_fr.rf⟩⟩)
  · refine lv_iconst (v := (-1 : Int32)) hx hb dX7_set_10 (by decide) ?_
    exact RET _ _ _ _ _ _ _ HX2662 dX7_set_11 (⟨rfl, ⟨⟨hJ, (show v 397 9 = v 397 9 from rfl), (show v 397 8 = v 397 8 from rfl), (fun A H hV => fb_m_err hV (fb_setA_1 ((fb_m_in6 a1).mp (fa_in0 h_in_4 (by first | exact c_7 | exact Decidable.not_not.mp c_7)))) (by decide))⟩, fa_fr.rf⟩⟩)
set_option maxHeartbeats 4000000 in
set_option maxRecDepth 100000 in
theorem r_append (l : Launch) (G : fa_G) (n : Nat) (hn : 406 ≤ n) (v : fa_V) (r : fa_R) (hM : fa_RM r) (hJ : fa_MJ v) (a1 : Int32) : fa_MI l G n yX7_append cX7_append 2 (some .int) 2 [.ref (fa_B G + (397)), .int (a1)] v r (fa_voi r (fun x v1 => ((fa_MJ v1) ∧ (v1 397 8 = v 397 8) ∧ ((¬ (nI 32 ≤ a1 ∧ a1 ≤ nI 126) ∧ x = (-2 : Int32) ∧ v1 = v) ∨ ((nI 32 ≤ a1 ∧ a1 ≤ nI 126) ∧ ((x = (-4 : Int32) ∧ 60 ≤ fa_N (v 397 9) ∧ v1 = v) ∨ (x = nI (fa_N (v 397 9) + 1) ∧ fa_N (v 397 9) < 60 ∧ v1 = fa_put7 v (((a1).toUInt32 % 65536).toInt32)))))) ∧ (fa_fr (397) (406) v v1))) := by
  refine fa_startI (by decide +kernel) (Nat.le_of_ble_eq_true rfl) (fun p e s m args below meth c ls Q CX hl HX RET => ?_)
  have hl : lv_has ls 2 [(0, .ref (fa_B G + (397))), (1, .int (a1))] := hl
  have hx := CX.1.1
  have hb := CX.1.2.1
  have hS := hJ.1
  obtain ⟨n4, en4⟩ : ∃ m, m = fa_N (v 398 14) := ⟨_, rfl⟩
  obtain ⟨hn4, g4⟩ := hS.n4 en4
  obtain ⟨n5, en5⟩ : ∃ m, m = fa_N (v 398 15) := ⟨_, rfl⟩
  obtain ⟨hn5, g5⟩ := hS.n5 en5
  obtain ⟨n6, en6⟩ : ∃ m, m = fa_N (v 398 16) := ⟨_, rfl⟩
  obtain ⟨hn6, g6⟩ := hS.n6 en6
  obtain ⟨n10, hn10, g10⟩ := hJ.2.2.2.2.1
  obtain ⟨n9, hn9, g9⟩ := hJ.2.2.2.2.2
  have en9 : fa_N (v 397 9) = n9 := by rw [g9]; exact fa_N_nI (by omega)
  refine lv_iload_n hx hb dX7_append_0 rfl (lv_at hl 1 rfl) ?_
  refine lv_bipush (v := nI (32)) hx hb dX7_append_1 (by decide) ?_
  refine lv_bipush (v := nI (126)) hx hb dX7_append_3 (by decide) ?_
  refine fa_callSip (As := [.int (a1), .int (nI (32)), .int (nI (126))]) (rest := []) CX HX (r_in l G n v r (a1) (nI (32)) (nI (126))) ln_X7_86 rfl rfl (Nat.le_of_ble_eq_true rfl) hl.1 ⟨Nat.le_of_ble_eq_true rfl, Nat.le_of_ble_eq_true rfl⟩ ⟨Nat.le_refl _, Nat.le_refl _⟩ dX7_append_5 (fun x2703 H locs h2702 HX2704 => ?_)
  have h_in_5 := h2702
  refine lv_if_ne (tgt := 14) hx hb dX7_append_8 (by decide) (fun c_8 => ?_) (fun c_8 => ?_)
  · refine lv_aload_n hx hb dX7_append_14 rfl (lv_at hl 0 rfl) ?_
    refine fa_geti (k := 397) CX HX2704 fl_X7_131 (by omega) rfl rfl dX7_append_15 ?_
    rw [show v 397 9 = nI (n9) from g9]
    refine lv_bipush (v := nI (60)) hx hb dX7_append_18 (by decide) ?_
    refine lv_icmp_ne (tgt := 26) hx hb dX7_append_20 (by decide) (fun c_20 => ?_) (fun c_20 => ?_)
    · have hne : ¬ n9 = 60 := fun z => c_20 (by rw [z])
      refine lv_aload_n hx hb dX7_append_26 rfl (lv_at hl 0 rfl) ?_
      refine fa_getr (k := 397) (j := 405) CX HX2704 fl_X7_32 (by omega) rfl rfl hM.2.2.2.2.2.2.2 dX7_append_27 ?_
      refine lv_aload_n hx hb dX7_append_30 rfl (lv_at hl 0 rfl) ?_
      refine fa_geti (k := 397) CX HX2704 fl_X7_131 (by omega) rfl rfl dX7_append_31 ?_
      rw [show v 397 9 = nI (n9) from g9]
      refine lv_iload_n hx hb dX7_append_34 rfl (lv_at hl 1 rfl) ?_
      refine lv_i2c hx hb dX7_append_35 rfl ?_
      refine fa_cast (k := 405) (j := n9) CX HX2704 (by omega) rfl (by omega) (by first | decide | assumption) dX7_append_36 (fun H locs v2705 e2706 HX2707 => ?_)
      refine lv_aload_n hx hb dX7_append_37 rfl (lv_at hl 0 rfl) ?_
      refine lv_dup hx hb dX7_append_38 rfl ?_
      refine fa_geti (k := 397) CX HX2707 fl_X7_131 (by omega) rfl rfl dX7_append_39 ?_
      rw [show v2705 397 9 = nI (n9) from (by rw [e2706, fa_u_n _ _ (by omega)]; exact g9)]
      refine lv_iconst (v := nI (1)) hx hb dX7_append_42 (by decide) ?_
      refine fa_iaddN hx hb dX7_append_43 ?_
      refine fa_puti (k := 397) CX HX2707 fl_X7_131 (by omega) rfl rfl rfl rfl dX7_append_44 (fun H locs v2708 e2709 HX2710 => ?_)
      refine lv_aload_n hx hb dX7_append_47 rfl (lv_at hl 0 rfl) ?_
      refine fa_geti (k := 397) CX HX2710 fl_X7_131 (by omega) rfl rfl dX7_append_48 ?_
      rw [show v2708 397 9 = nI (n9 + 1) from (by rw [e2709, fa_u_s])]
      exact RET _ _ _ _ _ _ _ HX2710 dX7_append_51 (⟨rfl, ⟨⟨(show fa_MJ v2708 from ⟨(show fa_MS (v2708 398) from by rw [e2709, fa_u_k _ _ (by decide)]; exact (show fa_MS (v2705 398) from by rw [e2706, fa_u_k _ _ (by decide)]; exact hJ.1)), (show fa_MS (v2708 399) from by rw [e2709, fa_u_k _ _ (by decide)]; exact (show fa_MS (v2705 399) from by rw [e2706, fa_u_k _ _ (by decide)]; exact hJ.2.1)), (show fa_MS (v2708 400) from by rw [e2709, fa_u_k _ _ (by decide)]; exact (show fa_MS (v2705 400) from by rw [e2706, fa_u_k _ _ (by decide)]; exact hJ.2.2.1)), (show fa_MB (v2708 401) from by rw [e2709, fa_u_k _ _ (by decide)]; exact (show fa_MB (v2705 401) from by rw [e2706, fa_u_k _ _ (by decide)]; exact hJ.2.2.2.1)), ⟨n10, by omega, (by rw [e2709, fa_u_n _ _ (by omega)]; exact (by rw [e2706, fa_u_n _ _ (by omega)]; exact g10))⟩, ⟨n9 + 1, by omega, (by rw [e2709, fa_u_s])⟩⟩), (show v2708 397 8 = v 397 8 from ((show v2708 397 8 = v2705 397 8 from by rw [e2709, fa_u_n _ _ (by omega)]).trans (show v2705 397 8 = v 397 8 from by rw [e2706, fa_u_n _ _ (by omega)]))), (Or.inr ⟨fa_inr1 h_in_5 c_8, Or.inr ⟨(by rw [en9]), (by omega), (by show v2708 = _; rw [e2709, e2706]; exact (fa_put7_eq g9 (by omega)).symm)⟩⟩)⟩, (by rw [e2709]; exact fa_fr.u (by rw [e2706]; exact fa_fr.u fa_fr.rf (by omega)) (by omega))⟩⟩)
    · have he : n9 = 60 := fa_nIinj (by omega) (by omega) c_20
      refine lv_bipush (v := (-4 : Int32)) hx hb dX7_append_23 (by decide) ?_
      exact RET _ _ _ _ _ _ _ HX2704 dX7_append_25 (⟨rfl, ⟨⟨hJ, (show v 397 8 = v 397 8 from rfl), (Or.inr ⟨fa_inr1 h_in_5 c_8, Or.inl ⟨rfl, (by omega), rfl⟩⟩)⟩, fa_fr.rf⟩⟩)
  · refine lv_bipush (v := (-2 : Int32)) hx hb dX7_append_11 (by decide) ?_
    exact RET _ _ _ _ _ _ _ HX2704 dX7_append_13 (⟨rfl, ⟨⟨hJ, (show v 397 8 = v 397 8 from rfl), (Or.inl ⟨fa_inr0 h_in_5 c_8, rfl, rfl⟩)⟩, fa_fr.rf⟩⟩)
set_option maxHeartbeats 4000000 in
set_option maxRecDepth 100000 in
theorem r_clearText (l : Launch) (G : fa_G) (n : Nat) (hn : 406 ≤ n) (v : fa_V) (r : fa_R) (hM : fa_RM r) (hJ : fa_MJ v) : fa_MI l G n yX7_clearText cX7_clearText 2 (some .int) 1 [.ref (fa_B G + (397))] v r (fa_voi r (fun x v1 => ((fa_MJ v1) ∧ (v1 397 8 = v 397 8) ∧ (x = v 397 9 ∧ v1 = fa_u v 397 9 (nI 0))) ∧ (fa_fr (397) (403) v v1))) := by
  refine fa_startI (by decide +kernel) (Nat.le_of_ble_eq_true rfl) (fun p e s m args below meth c ls Q CX hl HX RET => ?_)
  have hl : lv_has ls 2 [(0, .ref (fa_B G + (397)))] := hl
  have hx := CX.1.1
  have hb := CX.1.2.1
  have hS := hJ.1
  obtain ⟨n4, en4⟩ : ∃ m, m = fa_N (v 398 14) := ⟨_, rfl⟩
  obtain ⟨hn4, g4⟩ := hS.n4 en4
  obtain ⟨n5, en5⟩ : ∃ m, m = fa_N (v 398 15) := ⟨_, rfl⟩
  obtain ⟨hn5, g5⟩ := hS.n5 en5
  obtain ⟨n6, en6⟩ : ∃ m, m = fa_N (v 398 16) := ⟨_, rfl⟩
  obtain ⟨hn6, g6⟩ := hS.n6 en6
  obtain ⟨n10, hn10, g10⟩ := hJ.2.2.2.2.1
  obtain ⟨n9, hn9, g9⟩ := hJ.2.2.2.2.2
  refine lv_aload_n hx hb dX7_clearText_0 rfl (lv_at hl 0 rfl) ?_
  refine fa_geti (k := 397) CX HX fl_X7_131 (by omega) rfl rfl dX7_clearText_1 ?_
  rw [show v 397 9 = nI (n9) from g9]
  refine lv_istore_n (lv' := [(1, .int (nI (n9))), (0, .ref (fa_B G + (397)))]) hx hb dX7_clearText_4 rfl hl (by decide) rfl (fun ls hl => ?_)
  refine lv_aload_n hx hb dX7_clearText_5 rfl (lv_at hl 1 rfl) ?_
  refine lv_iconst (v := nI (0)) hx hb dX7_clearText_6 (by decide) ?_
  refine fa_puti (k := 397) CX HX fl_X7_131 (by omega) rfl rfl rfl rfl dX7_clearText_7 (fun H locs v2711 e2712 HX2713 => ?_)
  refine lv_iload_n hx hb dX7_clearText_10 rfl (lv_at hl 0 rfl) ?_
  exact RET _ _ _ _ _ _ _ HX2713 dX7_clearText_11 (⟨rfl, ⟨⟨(show fa_MJ v2711 from ⟨(show fa_MS (v2711 398) from by rw [e2712, fa_u_k _ _ (by decide)]; exact hJ.1), (show fa_MS (v2711 399) from by rw [e2712, fa_u_k _ _ (by decide)]; exact hJ.2.1), (show fa_MS (v2711 400) from by rw [e2712, fa_u_k _ _ (by decide)]; exact hJ.2.2.1), (show fa_MB (v2711 401) from by rw [e2712, fa_u_k _ _ (by decide)]; exact hJ.2.2.2.1), ⟨n10, by omega, (by rw [e2712, fa_u_n _ _ (by omega)]; exact g10)⟩, ⟨0, by omega, (by rw [e2712, fa_u_s])⟩⟩), (show v2711 397 8 = v 397 8 from (show v2711 397 8 = v 397 8 from by rw [e2712, fa_u_n _ _ (by omega)])), ⟨g9.symm, (by show v2711 = _; rw [e2712])⟩⟩, (by rw [e2712]; exact fa_fr.u fa_fr.rf (by omega))⟩⟩)
/-! THE REFERENCE'S RUN -/
/-- the reference's report -/
def fb_rpm (A : fb_At) (S : Nat → Int32) (o e : Nat) (i d s k : Int32) : Prop := (e < o → i = nI 1 ∧ d = nI e ∧ s = nI (fa_ps S e) ∧ k = -(fb_ry A S e)) ∧ (e = o → i = nI 0)
def fb_mzI (A : fb_At) (H : List fb_At) (S : Nat → Int32) (o : Nat) (w : fa_V) (dn : Nat) : Prop :=
  fb_mA (w 399) A ∧ fb_mH w H ∧ (∀ k, k < o → fa_rd (w 403) S k) ∧
  ((w 397 8 = nI 0 ∧ dn ≤ o ∧ (∀ k, k < dn → ¬ fb_er (fb_ry A S k)) ∧ fb_mA (w 398) (fb_ra A S dn)) ∨
   (w 397 8 = nI 1 ∧ dn < o ∧ (∀ k, k < dn → ¬ fb_er (fb_ry A S k)) ∧ fb_er (fb_ry A S dn) ∧ fb_mA (w 398) (fb_ra A S (dn + 1)) ∧ w 404 0 = nI dn ∧ w 404 1 = nI (fa_ps S dn) ∧ w 404 2 = -(fb_ry A S dn)))
theorem fb_mzI.start {A : fb_At} {H : List fb_At} {S : Nat → Int32} {o : Nat} {v v1 v2 v3 : fa_V} (hV : fb_MV v A H) (hfx : fa_f3 v v1) (f2 : fa_fr 399 400 v1 v2) (hh : ∀ i, i < 453 → v2 399 i = v1 398 i) (e : v3 = fa_u v2 397 8 (nI 0)) (hrd : ∀ k, k < o → fa_rd (v1 403) S k) : fb_mzI A H S o v3 0 := by
  obtain ⟨ok, m, h⟩ := hV
  have r : ∀ k, ¬ k = 397 → v3 k = v2 k := fun k hk => by rw [e, fa_u_k _ _ hk]
  have m1 : fb_mA (v1 398) A := by rw [hfx.1 398 (by decide) (by decide)]; exact m
  refine ⟨?_, h.cong ?_ ?_, ?_, Or.inl ⟨by rw [e, fa_u_s], Nat.zero_le _, fun k hk => absurd hk (Nat.not_lt_zero _), ?_⟩⟩
  · rw [r 399 (by decide)]; exact m1.congr hh
  · rw [e, fa_u_n _ _ (by decide), f2 397 (by omega)]; exact hfx.2 10 (by decide) (by decide)
  · rw [r 401 (by decide), f2 401 (by omega)]; exact hfx.1 401 (by decide) (by decide)
  · rw [r 403 (by decide), f2 403 (by omega)]; exact hrd
  · rw [r 398 (by decide), f2 398 (by omega)]; exact m1
theorem fb_mzI.s {A : fb_At} {H : List fb_At} {S : Nat → Int32} {o : Nat} {w w2 : fa_V} {dn : Nat} {x : Int32} (hA : fb_okA A) (h : fb_mzI A H S o w dn) (c : w 397 8 = 0) (hd : dn < o) (f2 : fa_f2 w w2)
    (hx : ∀ B, fb_okA B → fb_mA (w 398) B → x = (fb_doA B (w 403 (4 * dn + 1)) (w 403 (4 * dn + 2)) (w 403 (4 * dn + 3))).1 ∧ fb_mA (w2 398) (fb_doA B (w 403 (4 * dn + 1)) (w 403 (4 * dn + 2)) (w 403 (4 * dn + 3))).2) :
    x = fb_ry A S dn ∧ dn < o ∧ (∀ k, k < dn → ¬ fb_er (fb_ry A S k)) ∧ fb_mA (w2 398) (fb_ra A S (dn + 1)) ∧ fb_mA (w2 399) A ∧ fb_mH w2 H ∧ (∀ k, k < o → fa_rd (w2 403) S k) ∧ w2 397 8 = nI 0 := by
  obtain ⟨h1, h2, h3, h4⟩ := h
  have k7 : w2 397 = w 397 := f2 397 (by decide) (by decide)
  rcases h4 with ⟨a1, a2, a3, a4⟩ | ⟨a1, -⟩
  · have z := hx _ (hA.ra dn) a4
    obtain ⟨-, r1, r2, r3⟩ := h3 dn hd
    rw [r1, r2, fb_doA_q r3] at z
    exact ⟨z.1, hd, a3, z.2, by rw [f2 399 (by decide) (by decide)]; exact h1, h2.cong (by rw [k7]) (f2 401 (by decide) (by decide)), by rw [f2 403 (by decide) (by decide)]; exact h3, by rw [k7]; exact a1⟩
  · rw [a1] at c
    exact absurd c (by decide)
theorem fb_mzI.ok {A : fb_At} {H : List fb_At} {S : Nat → Int32} {o : Nat} {w2 : fa_V} {dn : Nat} {x : Int32} (h : x = fb_ry A S dn ∧ dn < o ∧ (∀ k, k < dn → ¬ fb_er (fb_ry A S k)) ∧ fb_mA (w2 398) (fb_ra A S (dn + 1)) ∧ fb_mA (w2 399) A ∧ fb_mH w2 H ∧ (∀ k, k < o → fa_rd (w2 403) S k) ∧ w2 397 8 = nI 0)
    (he : 0 ≤ x ∨ x = (-6 : Int32)) : fb_mzI A H S o w2 (dn + 1) := by
  obtain ⟨h1, h2, h3, h4, h5, h6, h7, h8⟩ := h
  refine ⟨h5, h6, h7, Or.inl ⟨h8, by omega, fun k hk => ?_, h4⟩⟩
  by_cases z : k = dn
  · rw [z, ← h1]; exact fun y => y he
  · exact h3 k (by omega)
theorem fb_mzI.er {A : fb_At} {H : List fb_At} {S : Nat → Int32} {o : Nat} {w2 w3 w4 w5 w6 : fa_V} {dn : Nat} {x : Int32} (h : x = fb_ry A S dn ∧ dn < o ∧ (∀ k, k < dn → ¬ fb_er (fb_ry A S k)) ∧ fb_mA (w2 398) (fb_ra A S (dn + 1)) ∧ fb_mA (w2 399) A ∧ fb_mH w2 H ∧ (∀ k, k < o → fa_rd (w2 403) S k) ∧ w2 397 8 = nI 0)
    (he : ¬ (0 ≤ x ∨ x = (-6 : Int32))) (e1 : w3 = fa_u w2 397 8 (nI 1)) (e2 : w4 = fa_u w3 404 0 (nI dn)) (e3 : w5 = fa_u w4 404 1 (w4 403 (4 * dn))) (e4 : w6 = fa_u w5 404 2 (-(x))) : fb_mzI A H S o w6 dn := by
  obtain ⟨h1, h2, h3, h4, h5, h6, h7, h8⟩ := h
  have r : ∀ k, ¬ k = 397 → ¬ k = 404 → w6 k = w2 k := fun k a b => by rw [e4, fa_u_k _ _ b, e3, fa_u_k _ _ b, e2, fa_u_k _ _ b, e1, fa_u_k _ _ a]
  have r7 : ∀ i, ¬ i = 8 → w6 397 i = w2 397 i := fun i a => by rw [e4, fa_u_k _ _ (by decide), e3, fa_u_k _ _ (by decide), e2, fa_u_k _ _ (by decide), e1, fa_u_n _ _ (fun z => a z.2)]
  have r4 : w4 403 (4 * dn) = nI (fa_ps S dn) := by rw [e2, fa_u_k _ _ (by decide), e1, fa_u_k _ _ (by decide)]; exact (h7 dn h2).1
  refine ⟨by rw [r 399 (by decide) (by decide)]; exact h5, h6.cong (r7 10 (by decide)) (r 401 (by decide) (by decide)), by rw [r 403 (by decide) (by decide)]; exact h7, Or.inr ⟨?_, h2, h3, by rw [← h1]; exact he, by rw [r 398 (by decide) (by decide)]; exact h4, ?_, ?_, ?_⟩⟩
  · rw [e4, fa_u_k _ _ (by decide), e3, fa_u_k _ _ (by decide), e2, fa_u_k _ _ (by decide), e1, fa_u_s]
  · rw [e4, fa_u_n _ _ (by decide), e3, fa_u_n _ _ (by decide), e2, fa_u_s]
  · rw [e4, fa_u_n _ _ (by decide), e3, fa_u_s]; exact r4
  · rw [e4, fa_u_s, h1]
theorem fb_mzI.e {A : fb_At} {H : List fb_At} {S : Nat → Int32} {o : Nat} {w w1 : fa_V} {dn : Nat} {x : Int32} (hA : fb_okA A) (h : fb_mzI A H S o w dn) (c : ¬ w 397 8 = 0 ∨ o ≤ dn) (hr : x = nI dn ∧ w1 398 = w 398 ∧ ∀ A H, fb_okA A → fb_mA (w 399) A → fb_mH w H → fb_mH w1 (fb_rec H A (nI dn))) (hdn : dn < 2 ^ 31) (k8 : w1 397 8 = w 397 8) (k4 : w1 404 = w 404) :
    ∃ e, fb_runP A S o e ∧ x = nI e ∧ fb_MV w1 (fb_fin A S o e) (fb_push H A) ∧ fb_rpm A S o e (w1 397 8) (w1 404 0) (w1 404 1) (w1 404 2) := by
  obtain ⟨h1, h2, -, h4⟩ := h
  obtain ⟨r1, r2, r3⟩ := hr
  have hH := r3 A H hA h1 h2
  rw [fb_rec_y (Or.inl (Int32.not_lt.mp (nI_pos hdn)))] at hH
  rw [k8, k4]
  rcases h4 with ⟨a1, a2, a3, a4⟩ | ⟨a1, a2, a3, a4, a5, a6⟩
  · have ho : dn = o := by
      rcases c with z | z
      · exact absurd a1 z
      · omega
    subst ho
    refine ⟨dn, ⟨Nat.le_refl _, a3, fun z => absurd z (Nat.lt_irrefl _)⟩, r1, ⟨?_, ?_, hH⟩, fun z => absurd z (Nat.lt_irrefl _), fun _ => a1⟩
    · rw [fb_fin_o]; exact hA.ra _
    · rw [fb_fin_o, r2]; exact a4
  · refine ⟨dn, ⟨by omega, a3, fun _ => a4⟩, r1, ⟨?_, ?_, hH⟩, fun _ => ⟨a1, a6⟩, fun z => absurd a2 (by omega)⟩
    · rw [fb_fin_t a2]; exact hA.ra _
    · rw [fb_fin_t a2, r2]; exact a5
def fb_whm (i : Int32) (f : Nat → Int32) (w : Int32) : Int32 := if w < 0 ∨ ¬ w ≤ nI 2 then (-2 : Int32) else if i = 0 then (-6 : Int32) else f (fa_N w)
/-! QUERIES of the reference's row -/
theorem fb_m_in2 (a : Int32) : (a < nI 0 ∨ nI 2 < a) ↔ (a < 0 ∨ ¬ a ≤ nI 2) := by
  rw [Int32.not_le]
  exact Iff.rfl
theorem fb_m_in4 (a : Int32) : (a < nI 0 ∨ nI 4 < a) ↔ (a < 0 ∨ ¬ a < nI 5) := by
  rw [fa_ltS (by decide)]
  exact Iff.rfl
theorem fb_m_in1 (a : Int32) : (a < nI 0 ∨ nI 1 < a) ↔ (a < 0 ∨ ¬ a ≤ nI 1) := by
  rw [Int32.not_le]
  exact Iff.rfl
theorem fb_m_slo0 {A : fb_At} {h a : Int32} (c : h < 0 ∨ ¬ h < nI 8) : fb_sloA A h a = (-1 : Int32) := by
  cases e : fb_ix A.F a A.n with
  | none => exact fb_sloA_n e
  | some p => exact fb_sloA_h e c
theorem fb_mA.mt {f : Nat → Int32} {A : fb_At} {n6 : Nat} (h : fb_mA f A) (g6 : f 16 = nI n6) (hn : n6 ≤ 12) : A.m = n6 := fa_nIinj (by have := h.2.2.2.1; omega) (by omega) (h.m6.symm.trans g6)
theorem fb_mA.T {f : Nat → Int32} {A : fb_At} (h : fb_mA f A) {p i : Nat} (hp : p < A.m) (hi : i < 5) : f (393 + 5 * p + i) = A.T p i := h.2.2.2.2.2 p i hp hi
theorem fb_mA.ages {f : Nat → Int32} {A : fb_At} (h : fb_mA f A) : fa_sum (fun p => f 7 - f (17 + 15 * p + 3)) (fa_N (f 14)) = fb_ages A := by
  unfold fb_ages
  rw [h.n]
  exact fa_sum_congr _ (fun k hk => by rw [h.F hk (i := 3) (by decide), h.g (k := 7) (by decide)])
theorem fb_m_m6t {x : Int32} (h : 0 ≤ x) : x = fb_m6 x := (if_neg (Int32.not_lt.mpr h)).symm
theorem fb_m_m6f {x : Int32} (h : ¬ 0 ≤ x) : (-6 : Int32) = fb_m6 x := (if_pos (Int32.not_le.mp h)).symm
theorem fb_m_why0 {A : fb_At} {p : Nat} {x w : Int32} (hx : x = fb_ownA A p) (c : x ≤ 0) (hw : w = if fb_stb A p = true then nI 1 else nI 0) (d : w = 0) : nI 0 = fb_why A p := by
  rw [hx] at c
  unfold fb_why
  rw [if_pos ((fb_own_le A p).mp c)]
  by_cases z : fb_stb A p = true
  · rw [if_pos z] at hw
    rw [hw] at d
    exact absurd d (by decide)
  · rw [if_neg z]; rfl
theorem fb_m_why4 {A : fb_At} {p : Nat} {x w : Int32} (hx : x = fb_ownA A p) (c : x ≤ 0) (hw : w = if fb_stb A p = true then nI 1 else nI 0) (d : ¬ w = 0) : nI 4 = fb_why A p := by
  rw [hx] at c
  unfold fb_why
  rw [if_pos ((fb_own_le A p).mp c)]
  by_cases z : fb_stb A p = true
  · rw [if_pos z]
  · rw [if_neg z] at hw
    rw [hw] at d
    exact absurd rfl d
theorem fb_m_whyo {A : fb_At} {p : Nat} {x : Int32} (hx : x = fb_ownA A p) (c : ¬ x ≤ 0) : x = fb_why A p := by
  rw [hx] at c
  unfold fb_why
  rw [if_neg (fun z => c ((fb_own_le A p).mpr z))]
  exact hx
/-- the keeper, from the last place down to kk -/
def fb_kq (A : fb_At) (a : Int32) (kk : Nat) (x : Int32) : Prop := (x = (-6 : Int32) ∧ ∀ p, kk ≤ p → p < A.n → ¬ (A.F p 6 = a ∧ fb_stb A p = true)) ∨ (∃ p, kk ≤ p ∧ p < A.n ∧ (A.F p 6 = a ∧ fb_stb A p = true) ∧ x = A.F p 0 ∧ ∀ k, kk ≤ k → k < p → ¬ (A.F k 6 = a ∧ fb_stb A k = true))
theorem fb_kq.start {A : fb_At} {a : Int32} {n : Nat} (h : A.n = n) : fb_kq A a n (-6 : Int32) := Or.inl ⟨rfl, fun p h1 h2 => absurd h2 (by omega)⟩
theorem fb_kq.no {A : fb_At} {a x : Int32} {kk : Nat} (h : fb_kq A a (kk + 1) x) (c : ¬ (A.F kk 6 = a ∧ fb_stb A kk = true)) : fb_kq A a kk x := by
  rcases h with ⟨h1, h2⟩ | ⟨p, h1, h2, h3, h4, h5⟩
  · refine Or.inl ⟨h1, fun p hp => ?_⟩
    by_cases z : p = kk
    · rw [z]; exact fun _ => c
    · exact h2 p (by omega)
  · refine Or.inr ⟨p, by omega, h2, h3, h4, fun k hk hkp => ?_⟩
    by_cases z : k = kk
    · rw [z]; exact c
    · exact h5 k (by omega) hkp
theorem fb_kq.yes {A : fb_At} {a x : Int32} {kk : Nat} (hk : kk < A.n) (c : A.F kk 6 = a ∧ fb_stb A kk = true) (hx : x = A.F kk 0) : fb_kq A a kk x := Or.inr ⟨kk, Nat.le_refl _, hk, c, hx, fun k h1 h2 => absurd h2 (by omega)⟩
theorem fb_kq.e {A : fb_At} {a x : Int32} (hok : fb_okA A) (h : fb_kq A a 0 x) : x = fb_kpr A a A.n := by
  rcases h with ⟨h1, h2⟩ | ⟨p, -, h2, h3, h4, h5⟩
  · rw [h1, fb_kpr_no A.n (fun k hk => h2 k (Nat.zero_le _) hk)]
  · rw [h4, fb_kpr_at h3 (hok.1.2.2.2.2.1 p h2).1 (fun k hk => h5 k (Nat.zero_le _) hk) A.n h2]
theorem fb_stb_w {A : fb_At} {p : Nat} {w : Int32} (hw : w = if fb_stb A p = true then nI 1 else nI 0) : fb_stb A p = true ↔ ¬ w = 0 := by
  constructor
  · intro z
    rw [hw, if_pos z]; decide
  · intro d
    refine Decidable.byContradiction (fun z => d ?_)
    rw [hw, if_neg z]; rfl
/-! reservations by their days -/
def fb_bfb (x y : Int32 × Int32) : Bool := decide (x.2 < y.2 ∨ (x.2 = y.2 ∧ x.1 < y.1))
theorem fb_bfb_t {x y : Int32 × Int32} : fb_bfb x y = true ↔ fb_bef x y := decide_eq_true_iff
theorem fb_srt_cnt {L : List (Int32 × Int32)} (h : L.Pairwise fb_bef) {i : Nat} (hi : i < L.length) : L.countP (fun y => fb_bfb y L[i]) = i := by
  have e : L.countP (fun y => fb_bfb y L[i]) = (L.take i).countP (fun y => fb_bfb y L[i]) + (L.drop i).countP (fun y => fb_bfb y L[i]) := by
    rw [← List.countP_append, List.take_append_drop]
  have e1 : (L.take i).countP (fun y => fb_bfb y L[i]) = i := by
    have z : (L.take i).countP (fun y => fb_bfb y L[i]) = (L.take i).length := List.countP_eq_length.mpr (fun y hy => by
      obtain ⟨j, hj, ej⟩ := List.getElem_of_mem hy
      rw [List.length_take] at hj
      rw [List.getElem_take] at ej
      rw [← ej]
      exact fb_bfb_t.mpr (fb_srt_at h (by omega) hi (by omega)))
    rw [z, List.length_take]
    omega
  have e2 : (L.drop i).countP (fun y => fb_bfb y L[i]) = 0 := List.countP_eq_zero.mpr (fun y hy c => by
    obtain ⟨j, hj, ej⟩ := List.getElem_of_mem hy
    rw [List.length_drop] at hj
    rw [List.getElem_drop] at ej
    have b : fb_bef y L[i] := fb_bfb_t.mp c
    by_cases z : j = 0
    · subst z
      rw [← ej] at b
      exact fb_bef_irr b
    · have b2 := fb_srt_at h hi (show i + j < L.length by omega) (by omega)
      rw [ej] at b2
      exact fb_bef_irr (fb_bef_tr b b2))
  rw [e, e1, e2]
  rfl
theorem fb_dif {a b : Int32} (ha : ∃ k, k ≤ 9999 ∧ a = nI k) (hb : ∃ k, k ≤ 9999 ∧ b = nI k) : (a - b < 0 ↔ a < b) ∧ (a - b = 0 ↔ a = b) := by
  obtain ⟨k, hk, ek⟩ := ha
  obtain ⟨m, hm, em⟩ := hb
  rw [ek, em]
  by_cases z : k < m
  · have n := pk_sneg (by omega) z
    exact ⟨⟨fun _ => nI_lt z (by omega), fun _ => n⟩, ⟨fun y => absurd n (by rw [y]; decide), fun y => absurd (fa_nIinj (by omega) (by omega) y) (by omega)⟩⟩
  · rw [pk_sub (by omega)]
    refine ⟨⟨fun y => absurd y (nI_pos (by omega)), fun y => absurd (fa_ltN' (by omega) (by omega) y) z⟩, ⟨fun y => ?_, fun y => ?_⟩⟩
    · have : k - m = 0 := fa_nIinj (by omega) (by decide) y
      rw [show k = m by omega]
    · have : k = m := fa_nIinj (by omega) (by omega) y
      rw [this, Nat.sub_self]
      rfl
theorem fb_okA.day1 {A : fb_At} (hok : fb_okA A) {y : Int32 × Int32} (hy : y ∈ A.q) : ∃ k, k ≤ 9999 ∧ y.2 = nI k := by
  obtain ⟨h1, h2, -⟩ := hok.2.2.2.2 y hy
  have p0 : (0 : Int32) ≤ y.2 := Int32.le_of_lt (Int32.lt_of_le_of_lt hok.nowpos h1)
  obtain ⟨k, hk, ek⟩ := fa_natLe (x := y.2) (N := 9999) (by decide) (Int32.not_lt.mpr p0) (Int32.not_lt.mpr h2)
  exact ⟨k, hk, ek⟩
theorem fb_m_ahd {f : Nat → Int32} {A : fb_At} {L0 L : List (Int32 × Int32)} {j i : Nat} (hok : fb_okA A) (hL : fb_mL f L0) (hP0 : L0.Perm A.q) (hP : L.Perm A.q) (hS : L.Pairwise fb_bef) (hj : j < L0.length) (hi : i < L.length) (e : L[i] = L0[j]) : fb_ahm f j (fa_N (f 15)) = nI i := by
  have h8 := hL.2.1
  unfold fb_ahm
  rw [hL.1, fa_N_nI (by omega), fb_sumP (L := L0) (P := fun y => fb_bfb y L0[j]) (fun k hk => ?_) L0.length (Nat.le_refl _), List.take_length, (hP0.trans hP.symm).countP_eq, ← e, fb_srt_cnt hS hi]
  have a := hL.at hk
  have b := hL.at hj
  have dk := hok.day1 (hP0.mem_iff.mp (List.getElem_mem hk))
  have dj := hok.day1 (hP0.mem_iff.mp (List.getElem_mem hj))
  rw [a] at dk
  rw [b] at dj
  have z := fb_dif dk dj
  have iff : (f (377 + (2 * k) + 1) - f (377 + (2 * j) + 1) < 0 ∨ (f (377 + (2 * k) + 1) - f (377 + (2 * j) + 1) = 0 ∧ ¬ f (377 + (2 * j)) ≤ f (377 + (2 * k)))) ↔ fb_bfb L0[k] L0[j] = true := by
    rw [fb_bfb_t, a, b]
    show _ ↔ f (377 + 2 * k + 1) < f (377 + 2 * j + 1) ∨ (f (377 + 2 * k + 1) = f (377 + 2 * j + 1) ∧ f (377 + 2 * k) < f (377 + 2 * j))
    constructor
    · rintro (y | ⟨y1, y2⟩)
      · exact Or.inl (z.1.mp y)
      · exact Or.inr ⟨z.2.mp y1, Int32.not_le.mp y2⟩
    · rintro (y | ⟨y1, y2⟩)
      · exact Or.inl (z.1.mpr y)
      · exact Or.inr ⟨z.2.mpr y1, Int32.not_le.mpr y2⟩
  by_cases c : fb_bfb L0[k] L0[j] = true
  · rw [if_pos c, if_pos (iff.mpr c)]
  · rw [if_neg c, if_neg (fun y => c (iff.mp y))]
/-- what the search by the place a found of the first j -/
def fb_rq (f : Nat → Int32) (a : Int32) (jb n j : Nat) (x : Int32) : Prop := (x = (-6 : Int32) ∧ ∀ k, k < j → ¬ fb_ahm f k n = a) ∨ ∃ k, k < j ∧ fb_ahm f k n = a ∧ x = f (377 + (2 * k) + jb)
theorem fb_rq.t {f : Nat → Int32} {a : Int32} {jb n j : Nat} (c : fb_ahm f j n = a) : fb_rq f a jb n (j + 1) (f (377 + (2 * j) + jb)) := Or.inr ⟨j, by omega, c, rfl⟩
theorem fb_rq.f {f : Nat → Int32} {a x : Int32} {jb n j : Nat} (h : fb_rq f a jb n j x) (c : ¬ fb_ahm f j n = a) : fb_rq f a jb n (j + 1) x := by
  rcases h with ⟨h1, h2⟩ | ⟨k, h1, h2⟩
  · refine Or.inl ⟨h1, fun k hk => ?_⟩
    by_cases z : k = j
    · rw [z]; exact c
    · exact h2 k (by omega)
  · exact Or.inr ⟨k, by omega, h2⟩
theorem fb_m_rsq {f : Nat → Int32} {A : fb_At} {k w x : Int32} {jb n j : Nat} (hok : fb_okA A) (hc : fb_mA f A) (h0 : ¬ k < 0) (hw : ¬ (w < 0 ∨ ¬ w ≤ nI 1)) (ejb : w = nI jb) (hjb : jb ≤ 1) (hn : n = fa_N (f 15)) (hj : j = n) (h : fb_rq f k jb n j x) : fb_rsvP A k w x := fun L hP hS => by
  obtain ⟨L0, hL, hP0⟩ := hc.2.2.1
  have h8 := hL.2.1
  have en : n = L0.length := by rw [hn, hL.1, fa_N_nI (by omega)]
  rw [if_neg (fun z => z.elim h0 hw)]
  have hw0 : w = 0 ↔ jb = 0 := by
    rw [ejb]
    constructor
    · intro z
      exact fa_nIinj (by omega) (by decide) z
    · intro z
      rw [z]; rfl
  have pk : k = nI (fa_N k) := by
    obtain ⟨m, hm, em⟩ := nI_of (x := k) h0
    rw [em, fa_N_nI hm]
  rcases h with ⟨h1, h2⟩ | ⟨m, h1, h2, h3⟩
  · have none : L[fa_N k]? = none := by
      refine Decidable.byContradiction (fun z => ?_)
      have hi : fa_N k < L.length := Decidable.byContradiction (fun y => z (List.getElem?_eq_none (by omega)))
      obtain ⟨j2, hj2, e2⟩ := List.getElem_of_mem (hP0.mem_iff.mpr (hP.mem_iff.mp (List.getElem_mem hi)))
      have q := fb_m_ahd hok hL hP0 hP hS hj2 hi e2.symm
      rw [← hn, ← pk] at q
      exact h2 j2 (by omega) q
    rw [none]
    exact h1
  · have hm : m < L0.length := by omega
    obtain ⟨i, hi, e2⟩ := List.getElem_of_mem (hP.mem_iff.mpr (hP0.mem_iff.mp (List.getElem_mem hm)))
    have q := fb_m_ahd hok hL hP0 hP hS hm hi e2
    rw [← hn, h2] at q
    have hl := hP.length_eq.trans hP0.length_eq.symm
    have ek : fa_N k = i := by rw [q, fa_N_nI (by omega)]
    rw [ek, List.getElem?_eq_getElem hi, e2, h3, hL.at hm]
    show f (377 + (2 * m) + jb) = if w = 0 then f (377 + 2 * m) else f (377 + 2 * m + 1)
    by_cases z : jb = 0
    · rw [if_pos (hw0.mpr z), z]; rfl
    · rw [if_neg (fun y => z (hw0.mp y)), show jb = 1 by omega]
