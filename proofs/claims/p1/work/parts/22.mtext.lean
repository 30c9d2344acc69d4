set_option maxHeartbeats 4000000 in
set_option maxRecDepth 100000 in
theorem p1m_isSign (l : Launch) (G : fa_G) (n : Nat) (hn : 406 ≤ n) (v : fa_V) (r : fa_R) (hM : fa_RM r) (a1 : Int32) (a2 : Int32) (f0 : v 397 12 = (0 : Int32)) (f1 : v 397 9 = (0 : Int32)) : fa_MI l G n yX7_isSign cX7_isSign 3 (some .boolean) 1 [.ref (fa_B G + (397)), .int (a1), .int (a2)] v r (fun x w => w = (v, r) ∧ (x = (0 : Int32))) := by
  refine fa_startZ (by decide +kernel) (Nat.le_of_ble_eq_true rfl) (fun p e s m args below meth c ls Q CX hl HX RET => ?_)
  have hl : lv_has ls 3 [(0, .ref (fa_B G + (397))), (1, .int (a1)), (2, .int (a2))] := hl
  have hx := CX.1.1
  have hb := CX.1.2.1
  refine lv_aload_n hx hb dX7_isSign_0 rfl (lv_at hl 0 rfl) ?_
  refine fa_geti (k := 397) CX HX fl_X7_134 (by omega) rfl rfl dX7_isSign_1 ?_
  refine lv_aload_n hx hb dX7_isSign_4 rfl (lv_at hl 0 rfl) ?_
  refine fa_geti (k := 397) CX HX fl_X7_131 (by omega) rfl rfl dX7_isSign_5 ?_
  have kx_8 : v 397 12 = (0 : Int32) := f0
  have ky_8 : v 397 9 = (0 : Int32) := f1
  refine lv_icmp_ge (tgt := 41) hx hb dX7_isSign_8 (by decide) (fun c_8 => ?_) (fun c_8 => ?_)
  · refine lv_iconst (v := nI (0)) hx hb dX7_isSign_41 (by decide) ?_
    exact RET _ _ _ _ _ _ _ HX dX7_isSign_42 (by decide) (⟨rfl, rfl⟩)
  · exact absurd (by rw [kx_8, ky_8]; try decide) c_8
set_option maxHeartbeats 4000000 in
set_option maxRecDepth 100000 in
theorem p1m_accepts (l : Launch) (G : fa_G) (n : Nat) (hn : 406 ≤ n) (v : fa_V) (r : fa_R) (hM : fa_RM r) (a1 : Int32) (f0 : v 397 12 = (0 : Int32)) (f1 : v 397 9 = (0 : Int32)) : fa_MI l G n yX7_accepts cX7_accepts 3 (some .boolean) 2 [.ref (fa_B G + (397)), .int (a1)] v r (fa_voi r (fun x v1 => (x = (0 : Int32)) ∧ (v1 397 12 = 0 ∧ ∀ i, ¬ i = 12 → v1 397 i = v 397 i) ∧ (fa_fr (397) (398) v v1))) := by
  refine fa_startZ (by decide +kernel) (Nat.le_of_ble_eq_true rfl) (fun p e s m args below meth c ls Q CX hl HX RET => ?_)
  have hl : lv_has ls 3 [(0, .ref (fa_B G + (397))), (1, .int (a1))] := hl
  have hx := CX.1.1
  have hb := CX.1.2.1
  refine lv_aload_n hx hb dX7_accepts_0 rfl (lv_at hl 0 rfl) ?_
  refine lv_iload_n hx hb dX7_accepts_1 rfl (lv_at hl 1 rfl) ?_
  refine lv_iload_n hx hb dX7_accepts_2 rfl (lv_at hl 1 rfl) ?_
  refine fa_callVip (As := [.int (a1), .int (a1)]) (rest := []) CX HX (p1m_isSign l G n hn v r hM (a1) (a1) f0 f1) ln_X7_137 (by omega) rfl rfl rfl rfl (Nat.le_of_ble_eq_true rfl) hl.1 ⟨Nat.le_of_ble_eq_true rfl, Nat.le_of_ble_eq_true rfl⟩ ⟨Nat.le_refl _, Nat.le_refl _⟩ dX7_accepts_3 (fun x433 H locs h432 HX434 => ?_)
  have hv_isSign := h432
  refine lv_istore_n (lv' := [(2, .int (x433)), (0, .ref (fa_B G + (397))), (1, .int (a1))]) hx hb dX7_accepts_6 rfl hl (by decide) rfl (fun ls hl => ?_)
  refine lv_aload_n hx hb dX7_accepts_7 rfl (lv_at hl 1 rfl) ?_
  refine lv_dup hx hb dX7_accepts_8 rfl ?_
  refine fa_geti (k := 397) CX HX434 fl_X7_134 (by omega) rfl rfl dX7_accepts_9 ?_
  refine lv_iload_n hx hb dX7_accepts_12 rfl (lv_at hl 0 rfl) ?_
  have kx_13 : x433 = (0 : Int32) := h432
  refine lv_if_eq (tgt := 20) hx hb dX7_accepts_13 (by decide) (fun c_13 => ?_) (fun c_13 => ?_)
  · refine lv_iconst (v := nI (0)) hx hb dX7_accepts_20 (by decide) ?_
    refine lv_iadd hx hb dX7_accepts_21 ?_
    refine fa_puti (k := 397) CX HX434 fl_X7_134 (by omega) rfl rfl rfl rfl dX7_accepts_22 (fun H locs v435 e436 HX437 => ?_)
    refine lv_iload_n hx hb dX7_accepts_25 rfl (lv_at hl 0 rfl) ?_
    exact RET _ _ _ _ _ _ _ HX437 dX7_accepts_26 (by rw [hv_isSign]; decide) (⟨rfl, ⟨(by assumption), ⟨by (show v435 397 12 = 0; rw [e436, fa_u_s]; exact (show (v 397 12) + (nI (0)) = (0 : Int32) from by rw [show v 397 12 = (0 : Int32) from f0, show nI (0) = (0 : Int32) from (by decide)]; decide)), fun i hi => by (show v435 397 i = v 397 i; rw [e436, fa_u_n _ _ (fun z => hi z.2)])⟩, (by rw [e436]; exact fa_fr.u fa_fr.rf (by omega))⟩⟩)
  · exact absurd (by rw [kx_13]; try decide) c_13
set_option maxHeartbeats 4000000 in
set_option maxRecDepth 100000 in
theorem p1m_readsOrder (l : Launch) (G : fa_G) (n : Nat) (hn : 406 ≤ n) (v : fa_V) (r : fa_R) (hM : fa_RM r) (f0 : v 397 12 = (0 : Int32)) (f1 : v 397 9 = (0 : Int32)) (f2 : v 397 11 = (0 : Int32)) : fa_MI l G n yX7_readsOrder cX7_readsOrder 2 (some .boolean) 3 [.ref (fa_B G + (397))] v r (fa_voi r (fun x v1 => (x = (0 : Int32)) ∧ (v1 397 12 = 0) ∧ (fa_fr (397) (404) v v1))) := by
  refine fa_startZ (by decide +kernel) (Nat.le_of_ble_eq_true rfl) (fun p e s m args below meth c ls Q CX hl HX RET => ?_)
  have hl : lv_has ls 2 [(0, .ref (fa_B G + (397)))] := hl
  have hx := CX.1.1
  have hb := CX.1.2.1
  refine lv_aload_n hx hb dX7_readsOrder_0 rfl (lv_at hl 0 rfl) ?_
  refine fa_getr (k := 397) (j := 403) CX HX fl_X7_26 (by omega) rfl rfl hM.2.2.2.2.2.1 dX7_readsOrder_1 ?_
  refine lv_iconst (v := nI (4)) hx hb dX7_readsOrder_4 (by decide) ?_
  refine lv_aload_n hx hb dX7_readsOrder_5 rfl (lv_at hl 0 rfl) ?_
  refine fa_geti (k := 397) CX HX fl_X7_141 (by omega) rfl rfl dX7_readsOrder_6 ?_
  rw [show v 397 11 = nI (0) from f2]
  refine fa_imulN hx hb dX7_readsOrder_9 ?_
  refine lv_aload_n hx hb dX7_readsOrder_10 rfl (lv_at hl 0 rfl) ?_
  refine fa_geti (k := 397) CX HX fl_X7_134 (by omega) rfl rfl dX7_readsOrder_11 ?_
  refine fa_iast (k := 403) (j := 4 * 0) CX HX (by omega) rfl (by omega) (by first | decide | assumption) dX7_readsOrder_14 (fun H locs v438 e439 HX440 => ?_)
  refine lv_aload_n hx hb dX7_readsOrder_15 rfl (lv_at hl 0 rfl) ?_
  refine fa_getr (k := 397) (j := 403) CX HX440 fl_X7_26 (by omega) rfl rfl hM.2.2.2.2.2.1 dX7_readsOrder_16 ?_
  refine lv_iconst (v := nI (4)) hx hb dX7_readsOrder_19 (by decide) ?_
  refine lv_aload_n hx hb dX7_readsOrder_20 rfl (lv_at hl 0 rfl) ?_
  refine fa_geti (k := 397) CX HX440 fl_X7_141 (by omega) rfl rfl dX7_readsOrder_21 ?_
  rw [show v438 397 11 = nI (0) from (by simp [f2, e439, fa_u] <;> rfl)]
  refine fa_imulN hx hb dX7_readsOrder_24 ?_
  refine lv_iconst (v := nI (1)) hx hb dX7_readsOrder_25 (by decide) ?_
  refine fa_iaddN hx hb dX7_readsOrder_26 ?_
  refine lv_aload_n hx hb dX7_readsOrder_27 rfl (lv_at hl 0 rfl) ?_
  refine fa_geti (k := 397) CX HX440 fl_X7_134 (by omega) rfl rfl dX7_readsOrder_28 ?_
  refine lv_aload_n hx hb dX7_readsOrder_31 rfl (lv_at hl 0 rfl) ?_
  refine fa_geti (k := 397) CX HX440 fl_X7_131 (by omega) rfl rfl dX7_readsOrder_32 ?_
  have kx_35 : v438 397 12 = (0 : Int32) := (by simp [f0, e439, fa_u] <;> rfl)
  have ky_35 : v438 397 9 = (0 : Int32) := (by simp [f1, e439, fa_u] <;> rfl)
  refine lv_icmp_ge (tgt := 50) hx hb dX7_readsOrder_35 (by decide) (fun c_35 => ?_) (fun c_35 => ?_)
  · refine lv_iconst (v := nI (0)) hx hb dX7_readsOrder_50 (by decide) ?_
    refine fa_iast (k := 403) (j := 4 * 0 + 1) CX HX440 (by omega) rfl (by omega) (by first | decide | assumption) dX7_readsOrder_51 (fun H locs v441 e442 HX443 => ?_)
    refine lv_aload_n hx hb dX7_readsOrder_52 rfl (lv_at hl 0 rfl) ?_
    refine lv_bipush (v := nI (110)) hx hb dX7_readsOrder_53 (by decide) ?_
    refine fa_callViu (As := [.int (nI (110))]) (rest := []) CX HX443 (p1m_accepts l G n hn v441 r hM (nI (110)) (by simp [f0, e439, fa_u, e442] <;> rfl) (by simp [f1, e439, fa_u, e442] <;> rfl)) ln_X7_144 (by omega) rfl rfl rfl rfl (Nat.le_of_ble_eq_true rfl) hl.1 ⟨Nat.le_of_ble_eq_true rfl, Nat.le_of_ble_eq_true rfl⟩ ⟨Nat.le_refl _, Nat.le_refl _⟩ dX7_readsOrder_55 (fun x445 v446 H locs h444 HX447 => ?_)
    have kx_58 : x445 = (0 : Int32) := h444.1
    refine lv_if_eq (tgt := 100) hx hb dX7_readsOrder_58 (by decide) (fun c_58 => ?_) (fun c_58 => ?_)
    · refine lv_aload_n hx hb dX7_readsOrder_100 rfl (lv_at hl 0 rfl) ?_
      refine lv_bipush (v := nI (97)) hx hb dX7_readsOrder_101 (by decide) ?_
      refine fa_callViu (As := [.int (nI (97))]) (rest := []) CX HX447 (p1m_accepts l G n hn v446 r hM (nI (97)) h444.2.1.1 (by simp [f1, e439, fa_u, e442, h444.2.1.2 9 (by decide)] <;> rfl)) ln_X7_144 (by omega) rfl rfl rfl rfl (Nat.le_of_ble_eq_true rfl) hl.1 ⟨Nat.le_of_ble_eq_true rfl, Nat.le_of_ble_eq_true rfl⟩ ⟨Nat.le_refl _, Nat.le_refl _⟩ dX7_readsOrder_103 (fun x449 v450 H locs h448 HX451 => ?_)
      have kx_106 : x449 = (0 : Int32) := h448.1
      refine lv_if_eq (tgt := 122) hx hb dX7_readsOrder_106 (by decide) (fun c_106 => ?_) (fun c_106 => ?_)
      · refine lv_aload_n hx hb dX7_readsOrder_122 rfl (lv_at hl 0 rfl) ?_
        refine lv_bipush (v := nI (115)) hx hb dX7_readsOrder_123 (by decide) ?_
        refine fa_callViu (As := [.int (nI (115))]) (rest := []) CX HX451 (p1m_accepts l G n hn v450 r hM (nI (115)) h448.2.1.1 (by simp [f1, e439, fa_u, e442, h444.2.1.2 9 (by decide), h448.2.1.2 9 (by decide)] <;> rfl)) ln_X7_144 (by omega) rfl rfl rfl rfl (Nat.le_of_ble_eq_true rfl) hl.1 ⟨Nat.le_of_ble_eq_true rfl, Nat.le_of_ble_eq_true rfl⟩ ⟨Nat.le_refl _, Nat.le_refl _⟩ dX7_readsOrder_125 (fun x453 v454 H locs h452 HX455 => ?_)
        have kx_128 : x453 = (0 : Int32) := h452.1
        refine lv_if_ne (tgt := 140) hx hb dX7_readsOrder_128 (by decide) (fun c_128 => ?_) (fun c_128 => ?_)
        · exact absurd (by rw [kx_128]; try decide) c_128
        · refine lv_aload_n hx hb dX7_readsOrder_131 rfl (lv_at hl 0 rfl) ?_
          refine lv_bipush (v := nI (108)) hx hb dX7_readsOrder_132 (by decide) ?_
          refine fa_callViu (As := [.int (nI (108))]) (rest := []) CX HX455 (p1m_accepts l G n hn v454 r hM (nI (108)) h452.2.1.1 (by simp [f1, e439, fa_u, e442, h444.2.1.2 9 (by decide), h448.2.1.2 9 (by decide), h452.2.1.2 9 (by decide)] <;> rfl)) ln_X7_144 (by omega) rfl rfl rfl rfl (Nat.le_of_ble_eq_true rfl) hl.1 ⟨Nat.le_of_ble_eq_true rfl, Nat.le_of_ble_eq_true rfl⟩ ⟨Nat.le_refl _, Nat.le_refl _⟩ dX7_readsOrder_134 (fun x457 v458 H locs h456 HX459 => ?_)
          have kx_137 : x457 = (0 : Int32) := h456.1
          refine lv_if_eq (tgt := 181) hx hb dX7_readsOrder_137 (by decide) (fun c_137 => ?_) (fun c_137 => ?_)
          · refine lv_aload_n hx hb dX7_readsOrder_181 rfl (lv_at hl 0 rfl) ?_
            refine lv_bipush (v := nI (102)) hx hb dX7_readsOrder_182 (by decide) ?_
            refine fa_callViu (As := [.int (nI (102))]) (rest := []) CX HX459 (p1m_accepts l G n hn v458 r hM (nI (102)) h456.2.1.1 (by simp [f1, e439, fa_u, e442, h444.2.1.2 9 (by decide), h448.2.1.2 9 (by decide), h452.2.1.2 9 (by decide), h456.2.1.2 9 (by decide)] <;> rfl)) ln_X7_144 (by omega) rfl rfl rfl rfl (Nat.le_of_ble_eq_true rfl) hl.1 ⟨Nat.le_of_ble_eq_true rfl, Nat.le_of_ble_eq_true rfl⟩ ⟨Nat.le_refl _, Nat.le_refl _⟩ dX7_readsOrder_184 (fun x461 v462 H locs h460 HX463 => ?_)
            have kx_187 : x461 = (0 : Int32) := h460.1
            refine lv_if_eq (tgt := 232) hx hb dX7_readsOrder_187 (by decide) (fun c_187 => ?_) (fun c_187 => ?_)
            · refine lv_aload_n hx hb dX7_readsOrder_232 rfl (lv_at hl 0 rfl) ?_
              refine lv_bipush (v := nI (100)) hx hb dX7_readsOrder_233 (by decide) ?_
              refine fa_callViu (As := [.int (nI (100))]) (rest := []) CX HX463 (p1m_accepts l G n hn v462 r hM (nI (100)) h460.2.1.1 (by simp [f1, e439, fa_u, e442, h444.2.1.2 9 (by decide), h448.2.1.2 9 (by decide), h452.2.1.2 9 (by decide), h456.2.1.2 9 (by decide), h460.2.1.2 9 (by decide)] <;> rfl)) ln_X7_144 (by omega) rfl rfl rfl rfl (Nat.le_of_ble_eq_true rfl) hl.1 ⟨Nat.le_of_ble_eq_true rfl, Nat.le_of_ble_eq_true rfl⟩ ⟨Nat.le_refl _, Nat.le_refl _⟩ dX7_readsOrder_235 (fun x465 v466 H locs h464 HX467 => ?_)
              have kx_238 : x465 = (0 : Int32) := h464.1
              refine lv_if_eq (tgt := 257) hx hb dX7_readsOrder_238 (by decide) (fun c_238 => ?_) (fun c_238 => ?_)
              · refine lv_iconst (v := nI (0)) hx hb dX7_readsOrder_257 (by decide) ?_
                refine lv_istore_n (lv' := [(1, .int (nI (0))), (0, .ref (fa_B G + (397)))]) hx hb dX7_readsOrder_258 rfl hl (by decide) rfl (fun ls hl => ?_)
                refine lv_aload_n hx hb dX7_readsOrder_259 rfl (lv_at hl 1 rfl) ?_
                refine lv_dup hx hb dX7_readsOrder_260 rfl ?_
                refine fa_geti (k := 397) CX HX467 fl_X7_141 (by omega) rfl rfl dX7_readsOrder_261 ?_
                refine lv_iload_n hx hb dX7_readsOrder_264 rfl (lv_at hl 0 rfl) ?_
                refine lv_if_eq (tgt := 272) hx hb dX7_readsOrder_265 (by decide) (fun c_265 => ?_) (fun c_265 => ?_)
                · refine lv_iconst (v := nI (0)) hx hb dX7_readsOrder_272 (by decide) ?_
                  refine lv_iadd hx hb dX7_readsOrder_273 ?_
                  refine fa_puti (k := 397) CX HX467 fl_X7_141 (by omega) rfl rfl rfl rfl dX7_readsOrder_274 (fun H locs v468 e469 HX470 => ?_)
                  refine lv_iload_n hx hb dX7_readsOrder_277 rfl (lv_at hl 0 rfl) ?_
                  exact RET _ _ _ _ _ _ _ HX470 dX7_readsOrder_278 (by decide) (⟨rfl, ⟨rfl, (by (show v468 397 12 = 0; exact (by simp [h464.2.1.1, e469, fa_u] <;> rfl))), (by rw [e469]; exact fa_fr.u (fa_fr.tr (fa_fr.tr (fa_fr.tr (fa_fr.tr (fa_fr.tr (fa_fr.tr (by rw [e442]; exact fa_fr.u (by rw [e439]; exact fa_fr.u fa_fr.rf (by omega)) (by omega)) (fa_fr.wide h444.2.2 (by omega) (by omega))) (fa_fr.wide h448.2.2 (by omega) (by omega))) (fa_fr.wide h452.2.2 (by omega) (by omega))) (fa_fr.wide h456.2.2 (by omega) (by omega))) (fa_fr.wide h460.2.2 (by omega) (by omega))) (fa_fr.wide h464.2.2 (by omega) (by omega))) (by omega))⟩⟩)
                · exact absurd (by try decide) c_265
              · exact absurd (by rw [kx_238]; try decide) c_238
            · exact absurd (by rw [kx_187]; try decide) c_187
          · exact absurd (by rw [kx_137]; try decide) c_137
      · exact absurd (by rw [kx_106]; try decide) c_106
    · exact absurd (by rw [kx_58]; try decide) c_58
  · exact absurd (by rw [kx_35, ky_35]; try decide) c_35
set_option maxHeartbeats 4000000 in
set_option maxRecDepth 100000 in
theorem p1m_faultOf (l : Launch) (G : fa_G) (n : Nat) (hn : 406 ≤ n) (v : fa_V) (r : fa_R) (hM : fa_RM r) (f0 : v 397 9 = (0 : Int32)) : fa_MI l G n yX7_faultOf cX7_faultOf 2 (some .int) 4 [.ref (fa_B G + (397))] v r (fa_voi r (fun x v1 => (x = (0 : Int32)) ∧ (fa_fr (397) (404) v v1))) := by
  refine fa_startI (by decide +kernel) (Nat.le_of_ble_eq_true rfl) (fun p e s m args below meth c ls Q CX hl HX RET => ?_)
  have hl : lv_has ls 2 [(0, .ref (fa_B G + (397)))] := hl
  have hx := CX.1.1
  have hb := CX.1.2.1
  refine lv_aload_n hx hb dX7_faultOf_0 rfl (lv_at hl 0 rfl) ?_
  refine lv_iconst (v := nI (0)) hx hb dX7_faultOf_1 (by decide) ?_
  refine fa_puti (k := 397) CX HX fl_X7_134 (by omega) rfl rfl rfl rfl dX7_faultOf_2 (fun H locs v471 e472 HX473 => ?_)
  refine lv_aload_n hx hb dX7_faultOf_5 rfl (lv_at hl 0 rfl) ?_
  refine lv_iconst (v := nI (0)) hx hb dX7_faultOf_6 (by decide) ?_
  refine fa_puti (k := 397) CX HX473 fl_X7_141 (by omega) rfl rfl rfl rfl dX7_faultOf_7 (fun H locs v474 e475 HX476 => ?_)
  refine lv_aload_n hx hb dX7_faultOf_10 rfl (lv_at hl 0 rfl) ?_
  refine fa_callViu (As := []) (rest := []) CX HX476 (p1m_readsOrder l G n hn v474 r hM  (by simp [e472, fa_u, e475] <;> rfl) (by simp [f0, e472, fa_u, e475] <;> rfl) (by simp [e475, fa_u] <;> rfl)) ln_X7_151 (by omega) rfl rfl rfl rfl (Nat.le_of_ble_eq_true rfl) hl.1 ⟨Nat.le_of_ble_eq_true rfl, Nat.le_of_ble_eq_true rfl⟩ ⟨Nat.le_refl _, Nat.le_refl _⟩ dX7_faultOf_11 (fun x478 v479 H locs h477 HX480 => ?_)
  refine lv_istore_n (lv' := [(1, .int (x478)), (0, .ref (fa_B G + (397)))]) hx hb dX7_faultOf_14 rfl hl (by decide) rfl (fun ls hl => ?_)
  refine lv_iload_n hx hb dX7_faultOf_15 rfl (lv_at hl 0 rfl) ?_
  have kx_16 : x478 = (0 : Int32) := h477.1
  refine lv_if_eq (tgt := 55) hx hb dX7_faultOf_16 (by decide) (fun c_16 => ?_) (fun c_16 => ?_)
  · refine lv_iload_n hx hb dX7_faultOf_55 rfl (lv_at hl 0 rfl) ?_
    have kx_56 : x478 = (0 : Int32) := h477.1
    refine lv_if_eq (tgt := 63) hx hb dX7_faultOf_56 (by decide) (fun c_56 => ?_) (fun c_56 => ?_)
    · refine lv_aload_n hx hb dX7_faultOf_63 rfl (lv_at hl 1 rfl) ?_
      refine fa_geti (k := 397) CX HX480 fl_X7_134 (by omega) rfl rfl dX7_faultOf_64 ?_
      exact RET _ _ _ _ _ _ _ HX480 dX7_faultOf_67 (⟨rfl, ⟨h477.2.1, (fa_fr.tr (by rw [e475]; exact fa_fr.u (by rw [e472]; exact fa_fr.u fa_fr.rf (by omega)) (by omega)) (fa_fr.wide h477.2.2 (by omega) (by omega)))⟩⟩)
    · exact absurd (by rw [kx_56]; try decide) c_56
  · exact absurd (by rw [kx_16]; try decide) c_16
