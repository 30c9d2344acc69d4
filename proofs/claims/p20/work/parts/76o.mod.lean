set_option maxHeartbeats 4000000 in
set_option maxRecDepth 100000 in
theorem r_refers (l : Launch) (G : fa_G) (n : Nat) (hn : 406 ≤ n) (v : fa_V) (r : fa_R) (hM : fa_RM r) (hS : fa_MS (v 398)) (a1 : Int32) (a2 : Int32) : fa_MI l G n yX7_refers cX7_refers 4 (some .int) 4 [.ref (fa_B G + (397)), .int (a1), .int (a2)] v r (fa_voi r (fun x v1 => ((fa_MS (v1 398)) ∧ (v1 398 14 = v 398 14) ∧ (v1 398 15 = v 398 15) ∧ (v1 398 16 = v 398 16) ∧ (∀ A, fb_okA A → fb_mA (v 398) A → x = (fb_refA A a1 a2).1 ∧ fb_mA (v1 398) (fb_refA A a1 a2).2)) ∧ (fa_fr (398) (399) v v1))) := by
  refine fa_startI (by decide +kernel) (Nat.le_of_ble_eq_true rfl) (fun p e s m args below meth c ls Q CX hl HX RET => ?_)
  have hl : lv_has ls 4 [(0, .ref (fa_B G + (397))), (1, .int (a1)), (2, .int (a2))] := hl
  have hx := CX.1.1
  have hb := CX.1.2.1
  obtain ⟨n4, en4⟩ : ∃ m, m = fa_N (v 398 14) := ⟨_, rfl⟩
  obtain ⟨hn4, g4⟩ := hS.n4 en4
  obtain ⟨n5, en5⟩ : ∃ m, m = fa_N (v 398 15) := ⟨_, rfl⟩
  obtain ⟨hn5, g5⟩ := hS.n5 en5
  obtain ⟨n6, en6⟩ : ∃ m, m = fa_N (v 398 16) := ⟨_, rfl⟩
  obtain ⟨hn6, g6⟩ := hS.n6 en6
  refine lv_aload_n hx hb dX7_refers_0 rfl (lv_at hl 0 rfl) ?_
  refine lv_iload_n hx hb dX7_refers_1 rfl (lv_at hl 1 rfl) ?_
  refine fa_callVip (As := [.int (a1)]) (rest := []) CX HX (r_placeOf l G n hn v r hM hS (a1)) ln_X7_60 (by omega) rfl rfl rfl rfl (Nat.le_of_ble_eq_true rfl) hl.1 ⟨Nat.le_of_ble_eq_true rfl, Nat.le_of_ble_eq_true rfl⟩ ⟨Nat.le_refl _, Nat.le_refl _⟩ dX7_refers_2 (fun x2103 H locs h2102 HX2104 => ?_)
  have h_pl2 := h2102.1
  have h_plm2 := h2102.2
  refine lv_istore_n (lv' := [(3, .int (x2103)), (0, .ref (fa_B G + (397))), (1, .int (a1)), (2, .int (a2))]) hx hb dX7_refers_5 rfl hl (by decide) rfl (fun ls hl => ?_)
  refine lv_iload_n hx hb dX7_refers_6 rfl (lv_at hl 0 rfl) ?_
  refine lv_iconst (v := (-1 : Int32)) hx hb dX7_refers_7 (by decide) ?_
  refine lv_icmp_eq (tgt := 20) hx hb dX7_refers_8 (by decide) (fun c_8 => ?_) (fun c_8 => ?_)
  · refine lv_iconst (v := (-1 : Int32)) hx hb dX7_refers_20 (by decide) ?_
    exact RET _ _ _ _ _ _ _ HX2104 dX7_refers_21 (⟨rfl, ⟨⟨hS, (show v 398 14 = v 398 14 from rfl), (show v 398 15 = v 398 15 from rfl), (show v 398 16 = v 398 16 from rfl), (fun A hok hc => by (rw [fb_refA_n (fb_m_pl0 hc hok h_plm2 c_8)]; exact ⟨rfl, hc⟩))⟩, fa_fr.rf⟩⟩)
  · obtain ⟨tp, htp, etp⟩ := h_pl2.ne c_8
    refine lv_aload_n hx hb dX7_refers_11 rfl (lv_at hl 1 rfl) ?_
    refine lv_iload_n hx hb dX7_refers_12 rfl (lv_at hl 3 rfl) ?_
    refine fa_callVip (As := [.int (a2)]) (rest := []) CX HX2104 (r_placeOf l G n hn v r hM hS (a2)) ln_X7_60 (by omega) rfl rfl rfl rfl (Nat.le_of_ble_eq_true rfl) hl.1 ⟨Nat.le_of_ble_eq_true rfl, Nat.le_of_ble_eq_true rfl⟩ ⟨Nat.le_refl _, Nat.le_refl _⟩ dX7_refers_13 (fun x2106 H locs h2105 HX2107 => ?_)
    have h_pl13 := h2105.1
    have h_plm13 := h2105.2
    refine lv_iconst (v := (-1 : Int32)) hx hb dX7_refers_16 (by decide) ?_
    refine lv_icmp_ne (tgt := 22) hx hb dX7_refers_17 (by decide) (fun c_17 => ?_) (fun c_17 => ?_)
    · refine lv_aload_n hx hb dX7_refers_22 rfl (lv_at hl 1 rfl) ?_
      refine fa_getr (k := 397) (j := 398) CX HX2107 fl_X7_7 (by omega) rfl rfl hM.1 dX7_refers_23 ?_
      refine lv_iload_n hx hb dX7_refers_26 rfl (lv_at hl 0 rfl) ?_
      rw [show x2103 = nI (tp) from etp]
      refine fa_callSip (As := [.int (nI (tp))]) (rest := [.ref (fa_B G + (398))]) CX HX2107 (r_f l G n v r (tp)) ln_X7_36 rfl rfl (Nat.le_of_ble_eq_true rfl) hl.1 ⟨Nat.le_of_ble_eq_true rfl, Nat.le_of_ble_eq_true rfl⟩ ⟨Nat.le_refl _, Nat.le_refl _⟩ dX7_refers_27 (fun x2109 H locs h2108 HX2110 => ?_)
      subst h2108
      refine lv_bipush (v := nI (6)) hx hb dX7_refers_30 (by decide) ?_
      refine fa_iaddN hx hb dX7_refers_32 ?_
      refine lv_iload_n hx hb dX7_refers_33 rfl (lv_at hl 3 rfl) ?_
      refine fa_iast (k := 398) (j := 17 + 15 * tp + 6) CX HX2110 (by omega) rfl (by omega) (by first | decide | assumption) dX7_refers_34 (fun H locs v2111 e2112 HX2113 => ?_)
      refine lv_aload_n hx hb dX7_refers_35 rfl (lv_at hl 1 rfl) ?_
      refine lv_iload_n hx hb dX7_refers_36 rfl (lv_at hl 3 rfl) ?_
      refine fa_callVip (As := [.int (a2)]) (rest := []) CX HX2113 (r_referring l G n hn v2111 r hM (show fa_MS (v2111 398) from by rw [e2112]; exact fa_MS.u hS (fa_ok.o (by omega) (by omega) (by omega) (fun p hp => by omega))) (a2)) ln_X7_96 (by omega) rfl rfl rfl rfl (Nat.le_of_ble_eq_true rfl) hl.1 ⟨Nat.le_of_ble_eq_true rfl, Nat.le_of_ble_eq_true rfl⟩ ⟨Nat.le_refl _, Nat.le_refl _⟩ dX7_refers_37 (fun x2115 H locs h2114 HX2116 => ?_)
      have h_referring := h2114
      exact RET _ _ _ _ _ _ _ HX2116 dX7_refers_40 (⟨rfl, ⟨⟨(show fa_MS (v2111 398) from by rw [e2112]; exact fa_MS.u hS (fa_ok.o (by omega) (by omega) (by omega) (fun p hp => by omega))), (show v2111 398 14 = v 398 14 from ((show v2111 398 14 = nI (n4) from (by rw [e2112, fa_u_n _ _ (by omega)]; exact g4)).trans g4.symm)), (show v2111 398 15 = v 398 15 from ((show v2111 398 15 = nI (n5) from (by rw [e2112, fa_u_n _ _ (by omega)]; exact g5)).trans g5.symm)), (show v2111 398 16 = v 398 16 from ((show v2111 398 16 = nI (n6) from (by rw [e2112, fa_u_n _ _ (by omega)]; exact g6)).trans g6.symm)), (fun A hok hc => by (obtain ⟨p, hp, ep, ei, -⟩ := fb_m_pl1 hc hok h_plm2 c_8; obtain ⟨k, -, -, ek, -⟩ := fb_m_pl1 hc hok h_plm13 c_17; have et : tp = p := fa_nIinj (by omega) (by have := hok.1.1; omega) (etp.symm.trans ep); subst et; have m1 : fb_mA (v2111 398) (A.sF tp 6 a2) := (by rw [e2112]; exact hc.uF hp (by decide)); rw [fb_refA_s ei ek]; exact ⟨h_referring.trans (m1.refs a2), m1⟩))⟩, (by rw [e2112]; exact fa_fr.u fa_fr.rf (by omega))⟩⟩)
    · refine lv_iconst (v := (-1 : Int32)) hx hb dX7_refers_20 (by decide) ?_
      exact RET _ _ _ _ _ _ _ HX2107 dX7_refers_21 (⟨rfl, ⟨⟨hS, (show v 398 14 = v 398 14 from rfl), (show v 398 15 = v 398 15 from rfl), (show v 398 16 = v 398 16 from rfl), (fun A hok hc => by (obtain ⟨p, hp, ep, ei, -⟩ := fb_m_pl1 hc hok h_plm2 c_8; rw [fb_refA_m ei (fb_m_pl0 hc hok h_plm13 (by first | exact c_17 | exact Decidable.not_not.mp c_17))]; exact ⟨rfl, hc⟩))⟩, fa_fr.rf⟩⟩)
