set_option maxHeartbeats 4000000 in
set_option maxRecDepth 100000 in
theorem r_lifts (l : Launch) (G : fa_G) (n : Nat) (hn : 406 ≤ n) (v : fa_V) (r : fa_R) (hM : fa_RM r) (hS : fa_MS (v 398)) (a1 : Int32) (a2 : Int32) : fa_MI l G n yX7_lifts cX7_lifts 4 (some .int) 4 [.ref (fa_B G + (397)), .int (a1), .int (a2)] v r (fa_voi r (fun x v1 => ((fa_MS (v1 398)) ∧ (v1 398 14 = v 398 14) ∧ (v1 398 15 = v 398 15) ∧ (v1 398 16 = v 398 16) ∧ (∀ A, fb_okA A → fb_mA (v 398) A → x = (fb_liftA A a1 a2).1 ∧ fb_mA (v1 398) (fb_liftA A a1 a2).2)) ∧ (fa_fr (398) (399) v v1))) := by
  refine fa_startI (by decide +kernel) (Nat.le_of_ble_eq_true rfl) (fun p e s m args below meth c ls Q CX hl HX RET => ?_)
  have hl : lv_has ls 4 [(0, .ref (fa_B G + (397))), (1, .int (a1)), (2, .int (a2))] := hl
  have hx := CX.1.1
  have hb := CX.1.2.1
  obtain ⟨n4, en4⟩ : ∃ m, m = fa_N (v 398 14) := ⟨_, rfl⟩
  obtain ⟨hn4, g4⟩ := hS.n4 en4
  obtain ⟨n5, en5⟩ : ∃ m, m = fa_N (v 398 15) := ⟨_, rfl⟩
  obtain ⟨hn5, g5⟩ := hS.n5 en5
  obtain ⟨n6, en6⟩ : ∃ m, m = fa_N (v 398 16) := ⟨_, rfl⟩
  obtain ⟨hn6, g6⟩ := hS.n6 en6
  refine lv_aload_n hx hb dX7_lifts_0 rfl (lv_at hl 0 rfl) ?_
  refine lv_iload_n hx hb dX7_lifts_1 rfl (lv_at hl 2 rfl) ?_
  refine fa_callVip (As := [.int (a2)]) (rest := []) CX HX (r_placeOf l G n hn v r hM hS (a2)) ln_X7_60 (by omega) rfl rfl rfl rfl (Nat.le_of_ble_eq_true rfl) hl.1 ⟨Nat.le_of_ble_eq_true rfl, Nat.le_of_ble_eq_true rfl⟩ ⟨Nat.le_refl _, Nat.le_refl _⟩ dX7_lifts_2 (fun x2082 H locs h2081 HX2083 => ?_)
  have h_pl2 := h2081.1
  have h_plm2 := h2081.2
  refine lv_istore_n (lv' := [(3, .int (x2082)), (0, .ref (fa_B G + (397))), (1, .int (a1)), (2, .int (a2))]) hx hb dX7_lifts_5 rfl hl (by decide) rfl (fun ls hl => ?_)
  refine lv_iload_n hx hb dX7_lifts_6 rfl (lv_at hl 2 rfl) ?_
  refine lv_iconst (v := nI (0)) hx hb dX7_lifts_7 (by decide) ?_
  refine lv_bipush (v := nI (7)) hx hb dX7_lifts_8 (by decide) ?_
  refine fa_callSip (As := [.int (a1), .int (nI (0)), .int (nI (7))]) (rest := []) CX HX2083 (r_in l G n v r (a1) (nI (0)) (nI (7))) ln_X7_86 rfl rfl (Nat.le_of_ble_eq_true rfl) hl.1 ⟨Nat.le_of_ble_eq_true rfl, Nat.le_of_ble_eq_true rfl⟩ ⟨Nat.le_refl _, Nat.le_refl _⟩ dX7_lifts_10 (fun x2085 H locs h2084 HX2086 => ?_)
  have h_in_10 := h2084
  refine lv_if_eq (tgt := 38) hx hb dX7_lifts_13 (by decide) (fun c_13 => ?_) (fun c_13 => ?_)
  · refine lv_iconst (v := (-1 : Int32)) hx hb dX7_lifts_38 (by decide) ?_
    exact RET _ _ _ _ _ _ _ HX2086 dX7_lifts_39 (⟨rfl, ⟨⟨hS, (show v 398 14 = v 398 14 from rfl), (show v 398 15 = v 398 15 from rfl), (show v 398 16 = v 398 16 from rfl), (fun A hok hc => by (rw [fb_m_lift0 ((fb_m_in7 a1).mp (fa_in0 h_in_10 c_13))]; exact ⟨rfl, hc⟩))⟩, fa_fr.rf⟩⟩)
  · obtain ⟨jh, hjh, ejh⟩ := fa_inN (by decide) (fa_in1 h_in_10 c_13)
    refine lv_iload_n hx hb dX7_lifts_16 rfl (lv_at hl 0 rfl) ?_
    refine lv_iconst (v := (-1 : Int32)) hx hb dX7_lifts_17 (by decide) ?_
    refine lv_icmp_eq (tgt := 38) hx hb dX7_lifts_18 (by decide) (fun c_18 => ?_) (fun c_18 => ?_)
    · refine lv_iconst (v := (-1 : Int32)) hx hb dX7_lifts_38 (by decide) ?_
      exact RET _ _ _ _ _ _ _ HX2086 dX7_lifts_39 (⟨rfl, ⟨⟨hS, (show v 398 14 = v 398 14 from rfl), (show v 398 15 = v 398 15 from rfl), (show v 398 16 = v 398 16 from rfl), (fun A hok hc => by (rw [fb_liftA_n (fb_m_pl0 hc hok h_plm2 c_18)]; exact ⟨rfl, hc⟩))⟩, fa_fr.rf⟩⟩)
    · obtain ⟨tp, htp, etp⟩ := h_pl2.ne c_18
      refine lv_aload_n hx hb dX7_lifts_21 rfl (lv_at hl 1 rfl) ?_
      refine fa_getr (k := 397) (j := 398) CX HX2086 fl_X7_7 (by omega) rfl rfl hM.1 dX7_lifts_22 ?_
      refine lv_iload_n hx hb dX7_lifts_25 rfl (lv_at hl 0 rfl) ?_
      rw [show x2082 = nI (tp) from etp]
      refine fa_callSip (As := [.int (nI (tp))]) (rest := [.ref (fa_B G + (398))]) CX HX2086 (r_f l G n v r (tp)) ln_X7_36 rfl rfl (Nat.le_of_ble_eq_true rfl) hl.1 ⟨Nat.le_of_ble_eq_true rfl, Nat.le_of_ble_eq_true rfl⟩ ⟨Nat.le_refl _, Nat.le_refl _⟩ dX7_lifts_26 (fun x2088 H locs h2087 HX2089 => ?_)
      subst h2087
      refine lv_bipush (v := nI (7)) hx hb dX7_lifts_29 (by decide) ?_
      refine fa_iaddN hx hb dX7_lifts_31 ?_
      refine lv_iload_n hx hb dX7_lifts_32 rfl (lv_at hl 2 rfl) ?_
      rw [show a1 = nI (jh) from ejh]
      refine fa_iaddN hx hb dX7_lifts_33 ?_
      refine fa_iald (k := 398) (j := 17 + 15 * tp + 7 + jh) CX HX2089 (by omega) rfl (by omega) (by first | decide | assumption) dX7_lifts_34 ?_
      refine lv_if_ne (tgt := 40) hx hb dX7_lifts_35 (by decide) (fun c_35 => ?_) (fun c_35 => ?_)
      · refine lv_aload_n hx hb dX7_lifts_40 rfl (lv_at hl 1 rfl) ?_
        refine fa_getr (k := 397) (j := 398) CX HX2089 fl_X7_7 (by omega) rfl rfl hM.1 dX7_lifts_41 ?_
        refine lv_iload_n hx hb dX7_lifts_44 rfl (lv_at hl 0 rfl) ?_
        rw [show x2082 = nI (tp) from etp]
        refine fa_callSip (As := [.int (nI (tp))]) (rest := [.ref (fa_B G + (398))]) CX HX2089 (r_f l G n v r (tp)) ln_X7_36 rfl rfl (Nat.le_of_ble_eq_true rfl) hl.1 ⟨Nat.le_of_ble_eq_true rfl, Nat.le_of_ble_eq_true rfl⟩ ⟨Nat.le_refl _, Nat.le_refl _⟩ dX7_lifts_45 (fun x2091 H locs h2090 HX2092 => ?_)
        subst h2090
        refine lv_bipush (v := nI (7)) hx hb dX7_lifts_48 (by decide) ?_
        refine fa_iaddN hx hb dX7_lifts_50 ?_
        refine lv_iload_n hx hb dX7_lifts_51 rfl (lv_at hl 2 rfl) ?_
        rw [show a1 = nI (jh) from ejh]
        refine fa_iaddN hx hb dX7_lifts_52 ?_
        refine lv_iconst (v := nI (0)) hx hb dX7_lifts_53 (by decide) ?_
        refine fa_iast (k := 398) (j := 17 + 15 * tp + 7 + jh) CX HX2092 (by omega) rfl (by omega) (by first | decide | assumption) dX7_lifts_54 (fun H locs v2093 e2094 HX2095 => ?_)
        refine lv_aload_n hx hb dX7_lifts_55 rfl (lv_at hl 1 rfl) ?_
        refine lv_iload_n hx hb dX7_lifts_56 rfl (lv_at hl 0 rfl) ?_
        rw [show x2082 = nI (tp) from etp]
        refine fa_callVip (As := [.int (nI (tp))]) (rest := []) CX HX2095 (r_sealing l G n hn v2093 r hM (show fa_MS (v2093 398) from by rw [e2094]; exact fa_MS.u hS (fa_ok.o (by omega) (by omega) (by omega) (fun p hp => by omega))) (tp) (by omega)) ln_X7_51 (by omega) rfl rfl rfl rfl (Nat.le_of_ble_eq_true rfl) hl.1 ⟨Nat.le_of_ble_eq_true rfl, Nat.le_of_ble_eq_true rfl⟩ ⟨Nat.le_refl _, Nat.le_refl _⟩ dX7_lifts_57 (fun x2097 H locs h2096 HX2098 => ?_)
        have h_sealing := h2096
        refine fa_callSip (As := [.int (x2097)]) (rest := []) CX HX2098 (r_bits l G n v2093 r (x2097)) ln_X7_93 rfl rfl (Nat.le_of_ble_eq_true rfl) hl.1 ⟨Nat.le_of_ble_eq_true rfl, Nat.le_of_ble_eq_true rfl⟩ ⟨Nat.le_refl _, Nat.le_refl _⟩ dX7_lifts_60 (fun x2100 H locs h2099 HX2101 => ?_)
        have h_bits := h2099
        exact RET _ _ _ _ _ _ _ HX2101 dX7_lifts_63 (⟨rfl, ⟨⟨(show fa_MS (v2093 398) from by rw [e2094]; exact fa_MS.u hS (fa_ok.o (by omega) (by omega) (by omega) (fun p hp => by omega))), (show v2093 398 14 = v 398 14 from ((show v2093 398 14 = nI (n4) from (by rw [e2094, fa_u_n _ _ (by omega)]; exact g4)).trans g4.symm)), (show v2093 398 15 = v 398 15 from ((show v2093 398 15 = nI (n5) from (by rw [e2094, fa_u_n _ _ (by omega)]; exact g5)).trans g5.symm)), (show v2093 398 16 = v 398 16 from ((show v2093 398 16 = nI (n6) from (by rw [e2094, fa_u_n _ _ (by omega)]; exact g6)).trans g6.symm)), (fun A hok hc => by (obtain ⟨p, hp, ep, ei, -⟩ := fb_m_pl1 hc hok h_plm2 c_18; have et : tp = p := fa_nIinj (by omega) (by have := hok.1.1; omega) (etp.symm.trans ep); subst et; have NC : ¬ (a1 < 0 ∨ ¬ a1 < nI 8) := (fun z => fa_in1 h_in_10 c_13 ((fb_m_in7 a1).mpr z)); have e0 : A.F tp (7 + jh) = v 398 (17 + 15 * tp + 7 + jh) := (by rw [← hc.F hp (i := 7 + jh) (by omega), ← Nat.add_assoc]); have m1 : fb_mA (v2093 398) (A.sF tp (7 + jh) 0) := (by rw [e2094, Nat.add_assoc (17 + 15 * tp) 7 jh]; exact hc.uF hp (by omega)); rw [fb_liftA_s ei NC ejh (by omega) (by rw [e0]; exact c_35)]; exact ⟨by (rw [h_bits, h_sealing, m1.msk hp]), m1⟩))⟩, (by rw [e2094]; exact fa_fr.u fa_fr.rf (by omega))⟩⟩)
      · refine lv_iconst (v := (-1 : Int32)) hx hb dX7_lifts_38 (by decide) ?_
        exact RET _ _ _ _ _ _ _ HX2089 dX7_lifts_39 (⟨rfl, ⟨⟨hS, (show v 398 14 = v 398 14 from rfl), (show v 398 15 = v 398 15 from rfl), (show v 398 16 = v 398 16 from rfl), (fun A hok hc => by (obtain ⟨p, hp, ep, ei, -⟩ := fb_m_pl1 hc hok h_plm2 c_18; have et : tp = p := fa_nIinj (by omega) (by have := hok.1.1; omega) (etp.symm.trans ep); subst et; have NC : ¬ (a1 < 0 ∨ ¬ a1 < nI 8) := (fun z => fa_in1 h_in_10 c_13 ((fb_m_in7 a1).mpr z)); have e0 : A.F tp (7 + jh) = v 398 (17 + 15 * tp + 7 + jh) := (by rw [← hc.F hp (i := 7 + jh) (by omega), ← Nat.add_assoc]); rw [fb_liftA_0 ei NC ejh (by omega) (by rw [e0]; first | exact c_35 | exact Decidable.not_not.mp c_35)]; exact ⟨rfl, hc⟩))⟩, fa_fr.rf⟩⟩)
