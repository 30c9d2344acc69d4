set_option maxHeartbeats 4000000 in
set_option maxRecDepth 100000 in
theorem r_seals (l : Launch) (G : fa_G) (n : Nat) (hn : 406 ≤ n) (v : fa_V) (r : fa_R) (hM : fa_RM r) (hS : fa_MS (v 398)) (a1 : Int32) (a2 : Int32) (a3 : Int32) : fa_MI l G n yX7_seals cX7_seals 5 (some .int) 4 [.ref (fa_B G + (397)), .int (a1), .int (a2), .int (a3)] v r (fa_voi r (fun x v1 => ((fa_MS (v1 398)) ∧ (v1 398 14 = v 398 14) ∧ (v1 398 15 = v 398 15) ∧ (v1 398 16 = v 398 16) ∧ (∀ A, fb_okA A → fb_mA (v 398) A → x = (fb_sealA A a1 a2 a3).1 ∧ fb_mA (v1 398) (fb_sealA A a1 a2 a3).2)) ∧ (fa_fr (398) (399) v v1))) := by
  refine fa_startI (by decide +kernel) (Nat.le_of_ble_eq_true rfl) (fun p e s m args below meth c ls Q CX hl HX RET => ?_)
  have hl : lv_has ls 5 [(0, .ref (fa_B G + (397))), (1, .int (a1)), (2, .int (a2)), (3, .int (a3))] := hl
  have hx := CX.1.1
  have hb := CX.1.2.1
  obtain ⟨n4, en4⟩ : ∃ m, m = fa_N (v 398 14) := ⟨_, rfl⟩
  obtain ⟨hn4, g4⟩ := hS.n4 en4
  obtain ⟨n5, en5⟩ : ∃ m, m = fa_N (v 398 15) := ⟨_, rfl⟩
  obtain ⟨hn5, g5⟩ := hS.n5 en5
  obtain ⟨n6, en6⟩ : ∃ m, m = fa_N (v 398 16) := ⟨_, rfl⟩
  obtain ⟨hn6, g6⟩ := hS.n6 en6
  refine lv_aload_n hx hb dX7_seals_0 rfl (lv_at hl 0 rfl) ?_
  refine lv_iload_n hx hb dX7_seals_1 rfl (lv_at hl 2 rfl) ?_
  refine fa_callVip (As := [.int (a2)]) (rest := []) CX HX (r_placeOf l G n hn v r hM hS (a2)) ln_X7_60 (by omega) rfl rfl rfl rfl (Nat.le_of_ble_eq_true rfl) hl.1 ⟨Nat.le_of_ble_eq_true rfl, Nat.le_of_ble_eq_true rfl⟩ ⟨Nat.le_refl _, Nat.le_refl _⟩ dX7_seals_2 (fun x2031 H locs h2030 HX2032 => ?_)
  have h_pl2 := h2030.1
  have h_plm2 := h2030.2
  refine lv_istore (lv' := [(4, .int (x2031)), (0, .ref (fa_B G + (397))), (1, .int (a1)), (2, .int (a2)), (3, .int (a3))]) hx hb dX7_seals_5 hl (by decide) rfl (fun ls hl => ?_)
  refine lv_iload_n hx hb dX7_seals_7 rfl (lv_at hl 2 rfl) ?_
  refine lv_iconst (v := nI (0)) hx hb dX7_seals_8 (by decide) ?_
  refine lv_bipush (v := nI (7)) hx hb dX7_seals_9 (by decide) ?_
  refine fa_callSip (As := [.int (a1), .int (nI (0)), .int (nI (7))]) (rest := []) CX HX2032 (r_in l G n v r (a1) (nI (0)) (nI (7))) ln_X7_86 rfl rfl (Nat.le_of_ble_eq_true rfl) hl.1 ⟨Nat.le_of_ble_eq_true rfl, Nat.le_of_ble_eq_true rfl⟩ ⟨Nat.le_refl _, Nat.le_refl _⟩ dX7_seals_11 (fun x2034 H locs h2033 HX2035 => ?_)
  have h_in_11 := h2033
  refine lv_if_eq (tgt := 23) hx hb dX7_seals_14 (by decide) (fun c_14 => ?_) (fun c_14 => ?_)
  · refine lv_iconst (v := (-1 : Int32)) hx hb dX7_seals_23 (by decide) ?_
    exact RET _ _ _ _ _ _ _ HX2035 dX7_seals_24 (⟨rfl, ⟨⟨hS, (show v 398 14 = v 398 14 from rfl), (show v 398 15 = v 398 15 from rfl), (show v 398 16 = v 398 16 from rfl), (fun A hok hc => by (rw [fb_m_seal0 ((fb_m_in7 a1).mp (fa_in0 h_in_11 c_14))]; exact ⟨rfl, hc⟩))⟩, fa_fr.rf⟩⟩)
  · obtain ⟨jh, hjh, ejh⟩ := fa_inN (by decide) (fa_in1 h_in_11 c_14)
    refine lv_iload hx hb dX7_seals_17 (lv_at hl 0 rfl) ?_
    refine lv_iconst (v := (-1 : Int32)) hx hb dX7_seals_19 (by decide) ?_
    refine lv_icmp_ne (tgt := 25) hx hb dX7_seals_20 (by decide) (fun c_20 => ?_) (fun c_20 => ?_)
    · obtain ⟨tp, htp, etp⟩ := h_pl2.ne c_20
      refine lv_iload_n hx hb dX7_seals_25 rfl (lv_at hl 4 rfl) ?_
      refine lv_iconst (v := (-1 : Int32)) hx hb dX7_seals_26 (by decide) ?_
      refine lv_icmp_eq (tgt := 50) hx hb dX7_seals_27 (by decide) (fun c_27 => ?_) (fun c_27 => ?_)
      · refine lv_aload_n hx hb dX7_seals_50 rfl (lv_at hl 1 rfl) ?_
        refine fa_getr (k := 397) (j := 398) CX HX2035 fl_X7_7 (by omega) rfl rfl hM.1 dX7_seals_51 ?_
        refine lv_iload hx hb dX7_seals_54 (lv_at hl 0 rfl) ?_
        rw [show x2031 = nI (tp) from etp]
        refine fa_callSip (As := [.int (nI (tp))]) (rest := [.ref (fa_B G + (398))]) CX HX2035 (r_f l G n v r (tp)) ln_X7_36 rfl rfl (Nat.le_of_ble_eq_true rfl) hl.1 ⟨Nat.le_of_ble_eq_true rfl, Nat.le_of_ble_eq_true rfl⟩ ⟨Nat.le_refl _, Nat.le_refl _⟩ dX7_seals_56 (fun x2037 H locs h2036 HX2038 => ?_)
        subst h2036
        refine lv_bipush (v := nI (7)) hx hb dX7_seals_59 (by decide) ?_
        refine fa_iaddN hx hb dX7_seals_61 ?_
        refine lv_iload_n hx hb dX7_seals_62 rfl (lv_at hl 2 rfl) ?_
        rw [show a1 = nI (jh) from ejh]
        refine fa_iaddN hx hb dX7_seals_63 ?_
        refine lv_iload_n hx hb dX7_seals_64 rfl (lv_at hl 4 rfl) ?_
        refine lv_iconst (v := (-1 : Int32)) hx hb dX7_seals_65 (by decide) ?_
        refine lv_icmp_ne (tgt := 75) hx hb dX7_seals_66 (by decide) (fun c_66 => ?_) (fun c_66 => ?_)
        · refine lv_iload_n hx hb dX7_seals_75 rfl (lv_at hl 4 rfl) ?_
          refine lv_iconst (v := nI (1)) hx hb dX7_seals_76 (by decide) ?_
          refine lv_iadd hx hb dX7_seals_77 ?_
          refine fa_iast (k := 398) (j := 17 + 15 * tp + 7 + jh) CX HX2038 (by omega) rfl (by omega) (by first | decide | assumption) dX7_seals_78 (fun H locs v2039 e2040 HX2041 => ?_)
          refine lv_aload_n hx hb dX7_seals_79 rfl (lv_at hl 1 rfl) ?_
          refine lv_iload hx hb dX7_seals_80 (lv_at hl 0 rfl) ?_
          rw [show x2031 = nI (tp) from etp]
          refine fa_callVip (As := [.int (nI (tp))]) (rest := []) CX HX2041 (r_sealing l G n hn v2039 r hM (show fa_MS (v2039 398) from by rw [e2040]; exact fa_MS.u hS (fa_ok.o (by omega) (by omega) (by omega) (fun p hp => by omega))) (tp) (by omega)) ln_X7_51 (by omega) rfl rfl rfl rfl (Nat.le_of_ble_eq_true rfl) hl.1 ⟨Nat.le_of_ble_eq_true rfl, Nat.le_of_ble_eq_true rfl⟩ ⟨Nat.le_refl _, Nat.le_refl _⟩ dX7_seals_82 (fun x2043 H locs h2042 HX2044 => ?_)
          have h_sealing := h2042
          refine fa_callSip (As := [.int (x2043)]) (rest := []) CX HX2044 (r_bits l G n v2039 r (x2043)) ln_X7_93 rfl rfl (Nat.le_of_ble_eq_true rfl) hl.1 ⟨Nat.le_of_ble_eq_true rfl, Nat.le_of_ble_eq_true rfl⟩ ⟨Nat.le_refl _, Nat.le_refl _⟩ dX7_seals_85 (fun x2046 H locs h2045 HX2047 => ?_)
          have h_bits := h2045
          exact RET _ _ _ _ _ _ _ HX2047 dX7_seals_88 (⟨rfl, ⟨⟨(show fa_MS (v2039 398) from by rw [e2040]; exact fa_MS.u hS (fa_ok.o (by omega) (by omega) (by omega) (fun p hp => by omega))), (show v2039 398 14 = v 398 14 from ((show v2039 398 14 = nI (n4) from (by rw [e2040, fa_u_n _ _ (by omega)]; exact g4)).trans g4.symm)), (show v2039 398 15 = v 398 15 from ((show v2039 398 15 = nI (n5) from (by rw [e2040, fa_u_n _ _ (by omega)]; exact g5)).trans g5.symm)), (show v2039 398 16 = v 398 16 from ((show v2039 398 16 = nI (n6) from (by rw [e2040, fa_u_n _ _ (by omega)]; exact g6)).trans g6.symm)), (fun A hok hc => by (obtain ⟨p, hp, ep, ei, -⟩ := fb_m_pl1 hc hok h_plm2 c_20; have et : tp = p := fa_nIinj (by omega) (by have := hok.1.1; omega) (etp.symm.trans ep); subst et; have NC : ¬ (a1 < 0 ∨ ¬ a1 < nI 8) := (fun z => fa_in1 h_in_11 c_14 ((fb_m_in7 a1).mpr z)); have m1 : fb_mA (v2039 398) (A.sF tp (7 + jh) ((a3) + (nI (1)))) := (by rw [e2040, Nat.add_assoc (17 + 15 * tp) 7 jh]; exact hc.uF hp (by omega)); rw [fb_sealA_s (y := (a3) + (nI (1))) ei NC (fun z => z.1 (by first | exact c_27 | exact Decidable.not_not.mp c_27)) ejh (by omega) (if_neg c_66).symm]; exact ⟨by (rw [h_bits, h_sealing, m1.msk hp]), m1⟩))⟩, (by rw [e2040]; exact fa_fr.u fa_fr.rf (by omega))⟩⟩)
        · refine lv_sipush (v := nI (10001)) hx hb dX7_seals_69 (by decide) ?_
          refine lv_goto (tgt := 78) hx hb dX7_seals_72 (by decide) ?_
          refine fa_iast (k := 398) (j := 17 + 15 * tp + 7 + jh) CX HX2038 (by omega) rfl (by omega) (by first | decide | assumption) dX7_seals_78 (fun H locs v2048 e2049 HX2050 => ?_)
          refine lv_aload_n hx hb dX7_seals_79 rfl (lv_at hl 1 rfl) ?_
          refine lv_iload hx hb dX7_seals_80 (lv_at hl 0 rfl) ?_
          rw [show x2031 = nI (tp) from etp]
          refine fa_callVip (As := [.int (nI (tp))]) (rest := []) CX HX2050 (r_sealing l G n hn v2048 r hM (show fa_MS (v2048 398) from by rw [e2049]; exact fa_MS.u hS (fa_ok.o (by omega) (by omega) (by omega) (fun p hp => by omega))) (tp) (by omega)) ln_X7_51 (by omega) rfl rfl rfl rfl (Nat.le_of_ble_eq_true rfl) hl.1 ⟨Nat.le_of_ble_eq_true rfl, Nat.le_of_ble_eq_true rfl⟩ ⟨Nat.le_refl _, Nat.le_refl _⟩ dX7_seals_82 (fun x2052 H locs h2051 HX2053 => ?_)
          have h_sealing := h2051
          refine fa_callSip (As := [.int (x2052)]) (rest := []) CX HX2053 (r_bits l G n v2048 r (x2052)) ln_X7_93 rfl rfl (Nat.le_of_ble_eq_true rfl) hl.1 ⟨Nat.le_of_ble_eq_true rfl, Nat.le_of_ble_eq_true rfl⟩ ⟨Nat.le_refl _, Nat.le_refl _⟩ dX7_seals_85 (fun x2055 H locs h2054 HX2056 => ?_)
          have h_bits := h2054
          exact RET _ _ _ _ _ _ _ HX2056 dX7_seals_88 (⟨rfl, ⟨⟨(show fa_MS (v2048 398) from by rw [e2049]; exact fa_MS.u hS (fa_ok.o (by omega) (by omega) (by omega) (fun p hp => by omega))), (show v2048 398 14 = v 398 14 from ((show v2048 398 14 = nI (n4) from (by rw [e2049, fa_u_n _ _ (by omega)]; exact g4)).trans g4.symm)), (show v2048 398 15 = v 398 15 from ((show v2048 398 15 = nI (n5) from (by rw [e2049, fa_u_n _ _ (by omega)]; exact g5)).trans g5.symm)), (show v2048 398 16 = v 398 16 from ((show v2048 398 16 = nI (n6) from (by rw [e2049, fa_u_n _ _ (by omega)]; exact g6)).trans g6.symm)), (fun A hok hc => by (obtain ⟨p, hp, ep, ei, -⟩ := fb_m_pl1 hc hok h_plm2 c_20; have et : tp = p := fa_nIinj (by omega) (by have := hok.1.1; omega) (etp.symm.trans ep); subst et; have NC : ¬ (a1 < 0 ∨ ¬ a1 < nI 8) := (fun z => fa_in1 h_in_11 c_14 ((fb_m_in7 a1).mpr z)); have m1 : fb_mA (v2048 398) (A.sF tp (7 + jh) (nI (10001))) := (by rw [e2049, Nat.add_assoc (17 + 15 * tp) 7 jh]; exact hc.uF hp (by omega)); rw [fb_sealA_s (y := nI (10001)) ei NC (fun z => z.1 (by first | exact c_27 | exact Decidable.not_not.mp c_27)) ejh (by omega) (if_pos (by first | exact c_66 | exact Decidable.not_not.mp c_66)).symm]; exact ⟨by (rw [h_bits, h_sealing, m1.msk hp]), m1⟩))⟩, (by rw [e2049]; exact fa_fr.u fa_fr.rf (by omega))⟩⟩)
      · refine lv_iload_n hx hb dX7_seals_30 rfl (lv_at hl 4 rfl) ?_
        refine lv_aload_n hx hb dX7_seals_31 rfl (lv_at hl 1 rfl) ?_
        refine fa_getr (k := 397) (j := 398) CX HX2035 fl_X7_7 (by omega) rfl rfl hM.1 dX7_seals_32 ?_
        refine lv_bipush (v := nI (7)) hx hb dX7_seals_35 (by decide) ?_
        refine fa_iald (k := 398) (j := 7) CX HX2035 (by omega) rfl (by omega) (by first | decide | assumption) dX7_seals_37 ?_
        refine lv_sipush (v := nI (9999)) hx hb dX7_seals_38 (by decide) ?_
        refine fa_callSip (As := [.int (a3), .int (v 398 7), .int (nI (9999))]) (rest := []) CX HX2035 (r_in l G n v r (a3) (v 398 7) (nI (9999))) ln_X7_86 rfl rfl (Nat.le_of_ble_eq_true rfl) hl.1 ⟨Nat.le_of_ble_eq_true rfl, Nat.le_of_ble_eq_true rfl⟩ ⟨Nat.le_refl _, Nat.le_refl _⟩ dX7_seals_41 (fun x2058 H locs h2057 HX2059 => ?_)
        have h_in_41 := h2057
        refine lv_if_ne (tgt := 50) hx hb dX7_seals_44 (by decide) (fun c_44 => ?_) (fun c_44 => ?_)
        · refine lv_aload_n hx hb dX7_seals_50 rfl (lv_at hl 1 rfl) ?_
          refine fa_getr (k := 397) (j := 398) CX HX2059 fl_X7_7 (by omega) rfl rfl hM.1 dX7_seals_51 ?_
          refine lv_iload hx hb dX7_seals_54 (lv_at hl 0 rfl) ?_
          rw [show x2031 = nI (tp) from etp]
          refine fa_callSip (As := [.int (nI (tp))]) (rest := [.ref (fa_B G + (398))]) CX HX2059 (r_f l G n v r (tp)) ln_X7_36 rfl rfl (Nat.le_of_ble_eq_true rfl) hl.1 ⟨Nat.le_of_ble_eq_true rfl, Nat.le_of_ble_eq_true rfl⟩ ⟨Nat.le_refl _, Nat.le_refl _⟩ dX7_seals_56 (fun x2061 H locs h2060 HX2062 => ?_)
          subst h2060
          refine lv_bipush (v := nI (7)) hx hb dX7_seals_59 (by decide) ?_
          refine fa_iaddN hx hb dX7_seals_61 ?_
          refine lv_iload_n hx hb dX7_seals_62 rfl (lv_at hl 2 rfl) ?_
          rw [show a1 = nI (jh) from ejh]
          refine fa_iaddN hx hb dX7_seals_63 ?_
          refine lv_iload_n hx hb dX7_seals_64 rfl (lv_at hl 4 rfl) ?_
          refine lv_iconst (v := (-1 : Int32)) hx hb dX7_seals_65 (by decide) ?_
          refine lv_icmp_ne (tgt := 75) hx hb dX7_seals_66 (by decide) (fun c_66 => ?_) (fun c_66 => ?_)
          · refine lv_iload_n hx hb dX7_seals_75 rfl (lv_at hl 4 rfl) ?_
            refine lv_iconst (v := nI (1)) hx hb dX7_seals_76 (by decide) ?_
            refine lv_iadd hx hb dX7_seals_77 ?_
            refine fa_iast (k := 398) (j := 17 + 15 * tp + 7 + jh) CX HX2062 (by omega) rfl (by omega) (by first | decide | assumption) dX7_seals_78 (fun H locs v2063 e2064 HX2065 => ?_)
            refine lv_aload_n hx hb dX7_seals_79 rfl (lv_at hl 1 rfl) ?_
            refine lv_iload hx hb dX7_seals_80 (lv_at hl 0 rfl) ?_
            rw [show x2031 = nI (tp) from etp]
            refine fa_callVip (As := [.int (nI (tp))]) (rest := []) CX HX2065 (r_sealing l G n hn v2063 r hM (show fa_MS (v2063 398) from by rw [e2064]; exact fa_MS.u hS (fa_ok.o (by omega) (by omega) (by omega) (fun p hp => by omega))) (tp) (by omega)) ln_X7_51 (by omega) rfl rfl rfl rfl (Nat.le_of_ble_eq_true rfl) hl.1 ⟨Nat.le_of_ble_eq_true rfl, Nat.le_of_ble_eq_true rfl⟩ ⟨Nat.le_refl _, Nat.le_refl _⟩ dX7_seals_82 (fun x2067 H locs h2066 HX2068 => ?_)
            have h_sealing := h2066
            refine fa_callSip (As := [.int (x2067)]) (rest := []) CX HX2068 (r_bits l G n v2063 r (x2067)) ln_X7_93 rfl rfl (Nat.le_of_ble_eq_true rfl) hl.1 ⟨Nat.le_of_ble_eq_true rfl, Nat.le_of_ble_eq_true rfl⟩ ⟨Nat.le_refl _, Nat.le_refl _⟩ dX7_seals_85 (fun x2070 H locs h2069 HX2071 => ?_)
            have h_bits := h2069
            exact RET _ _ _ _ _ _ _ HX2071 dX7_seals_88 (⟨rfl, ⟨⟨(show fa_MS (v2063 398) from by rw [e2064]; exact fa_MS.u hS (fa_ok.o (by omega) (by omega) (by omega) (fun p hp => by omega))), (show v2063 398 14 = v 398 14 from ((show v2063 398 14 = nI (n4) from (by rw [e2064, fa_u_n _ _ (by omega)]; exact g4)).trans g4.symm)), (show v2063 398 15 = v 398 15 from ((show v2063 398 15 = nI (n5) from (by rw [e2064, fa_u_n _ _ (by omega)]; exact g5)).trans g5.symm)), (show v2063 398 16 = v 398 16 from ((show v2063 398 16 = nI (n6) from (by rw [e2064, fa_u_n _ _ (by omega)]; exact g6)).trans g6.symm)), (fun A hok hc => by (obtain ⟨p, hp, ep, ei, -⟩ := fb_m_pl1 hc hok h_plm2 c_20; have et : tp = p := fa_nIinj (by omega) (by have := hok.1.1; omega) (etp.symm.trans ep); subst et; have NC : ¬ (a1 < 0 ∨ ¬ a1 < nI 8) := (fun z => fa_in1 h_in_11 c_14 ((fb_m_in7 a1).mpr z)); have m1 : fb_mA (v2063 398) (A.sF tp (7 + jh) ((a3) + (nI (1)))) := (by rw [e2064, Nat.add_assoc (17 + 15 * tp) 7 jh]; exact hc.uF hp (by omega)); rw [fb_sealA_s (y := (a3) + (nI (1))) ei NC (fun z => fa_in1 h_in_41 c_44 (by rw [hc.g (k := 7) (by decide)]; exact z.2)) ejh (by omega) (if_neg c_66).symm]; exact ⟨by (rw [h_bits, h_sealing, m1.msk hp]), m1⟩))⟩, (by rw [e2064]; exact fa_fr.u fa_fr.rf (by omega))⟩⟩)
          · refine lv_sipush (v := nI (10001)) hx hb dX7_seals_69 (by decide) ?_
            refine lv_goto (tgt := 78) hx hb dX7_seals_72 (by decide) ?_
            refine fa_iast (k := 398) (j := 17 + 15 * tp + 7 + jh) CX HX2062 (by omega) rfl (by omega) (by first | decide | assumption) dX7_seals_78 (fun H locs v2072 e2073 HX2074 => ?_)
            refine lv_aload_n hx hb dX7_seals_79 rfl (lv_at hl 1 rfl) ?_
            refine lv_iload hx hb dX7_seals_80 (lv_at hl 0 rfl) ?_
            rw [show x2031 = nI (tp) from etp]
            refine fa_callVip (As := [.int (nI (tp))]) (rest := []) CX HX2074 (r_sealing l G n hn v2072 r hM (show fa_MS (v2072 398) from by rw [e2073]; exact fa_MS.u hS (fa_ok.o (by omega) (by omega) (by omega) (fun p hp => by omega))) (tp) (by omega)) ln_X7_51 (by omega) rfl rfl rfl rfl (Nat.le_of_ble_eq_true rfl) hl.1 ⟨Nat.le_of_ble_eq_true rfl, Nat.le_of_ble_eq_true rfl⟩ ⟨Nat.le_refl _, Nat.le_refl _⟩ dX7_seals_82 (fun x2076 H locs h2075 HX2077 => ?_)
            have h_sealing := h2075
            refine fa_callSip (As := [.int (x2076)]) (rest := []) CX HX2077 (r_bits l G n v2072 r (x2076)) ln_X7_93 rfl rfl (Nat.le_of_ble_eq_true rfl) hl.1 ⟨Nat.le_of_ble_eq_true rfl, Nat.le_of_ble_eq_true rfl⟩ ⟨Nat.le_refl _, Nat.le_refl _⟩ dX7_seals_85 (fun x2079 H locs h2078 HX2080 => ?_)
            have h_bits := h2078
            exact RET _ _ _ _ _ _ _ HX2080 dX7_seals_88 (⟨rfl, ⟨⟨(show fa_MS (v2072 398) from by rw [e2073]; exact fa_MS.u hS (fa_ok.o (by omega) (by omega) (by omega) (fun p hp => by omega))), (show v2072 398 14 = v 398 14 from ((show v2072 398 14 = nI (n4) from (by rw [e2073, fa_u_n _ _ (by omega)]; exact g4)).trans g4.symm)), (show v2072 398 15 = v 398 15 from ((show v2072 398 15 = nI (n5) from (by rw [e2073, fa_u_n _ _ (by omega)]; exact g5)).trans g5.symm)), (show v2072 398 16 = v 398 16 from ((show v2072 398 16 = nI (n6) from (by rw [e2073, fa_u_n _ _ (by omega)]; exact g6)).trans g6.symm)), (fun A hok hc => by (obtain ⟨p, hp, ep, ei, -⟩ := fb_m_pl1 hc hok h_plm2 c_20; have et : tp = p := fa_nIinj (by omega) (by have := hok.1.1; omega) (etp.symm.trans ep); subst et; have NC : ¬ (a1 < 0 ∨ ¬ a1 < nI 8) := (fun z => fa_in1 h_in_11 c_14 ((fb_m_in7 a1).mpr z)); have m1 : fb_mA (v2072 398) (A.sF tp (7 + jh) (nI (10001))) := (by rw [e2073, Nat.add_assoc (17 + 15 * tp) 7 jh]; exact hc.uF hp (by omega)); rw [fb_sealA_s (y := nI (10001)) ei NC (fun z => fa_in1 h_in_41 c_44 (by rw [hc.g (k := 7) (by decide)]; exact z.2)) ejh (by omega) (if_pos (by first | exact c_66 | exact Decidable.not_not.mp c_66)).symm]; exact ⟨by (rw [h_bits, h_sealing, m1.msk hp]), m1⟩))⟩, (by rw [e2073]; exact fa_fr.u fa_fr.rf (by omega))⟩⟩)
        · refine lv_bipush (v := (-2 : Int32)) hx hb dX7_seals_47 (by decide) ?_
          exact RET _ _ _ _ _ _ _ HX2059 dX7_seals_49 (⟨rfl, ⟨⟨hS, (show v 398 14 = v 398 14 from rfl), (show v 398 15 = v 398 15 from rfl), (show v 398 16 = v 398 16 from rfl), (fun A hok hc => by (obtain ⟨p, hp, ep, ei, -⟩ := fb_m_pl1 hc hok h_plm2 c_20; have et : tp = p := fa_nIinj (by omega) (by have := hok.1.1; omega) (etp.symm.trans ep); subst et; have NC : ¬ (a1 < 0 ∨ ¬ a1 < nI 8) := (fun z => fa_in1 h_in_11 c_14 ((fb_m_in7 a1).mpr z)); rw [fb_sealA_b ei NC ⟨c_27, by rw [← hc.g (k := 7) (by decide)]; exact fa_in0 h_in_41 (by first | exact c_44 | exact Decidable.not_not.mp c_44)⟩]; exact ⟨rfl, hc⟩))⟩, fa_fr.rf⟩⟩)
    · refine lv_iconst (v := (-1 : Int32)) hx hb dX7_seals_23 (by decide) ?_
      exact RET _ _ _ _ _ _ _ HX2035 dX7_seals_24 (⟨rfl, ⟨⟨hS, (show v 398 14 = v 398 14 from rfl), (show v 398 15 = v 398 15 from rfl), (show v 398 16 = v 398 16 from rfl), (fun A hok hc => by (rw [fb_sealA_n (fb_m_pl0 hc hok h_plm2 (by first | exact c_20 | exact Decidable.not_not.mp c_20))]; exact ⟨rfl, hc⟩))⟩, fa_fr.rf⟩⟩)
set_option maxHeartbeats 4000000 in
set_option maxRecDepth 100000 in
theorem r_lifts (l : Launch) (G : fa_G) (n : Nat) (hn : 406 ≤ n) (v : fa_V) (r : fa_R) (hM : fa_RM r) (hS : fa_MS (v 398)) (a1 : Int32) (a2 : Int32) : fa_MI l G n yX7_lifts cX7_lifts 4 (some .int) 4 [.ref (fa_B G + (397)), .int (a1), .int (a2)] v r (fa_voi r (fun x v1 => ((fa_MS (v1 398)) ∧ (v1 398 14 = v 398 14) ∧ (v1 398 15 = v 398 15) ∧ (v1 398 16 = v 398 16) ∧ (∀ A, fb_okA A → fb_mA (v 398) A → x = (fb_liftA A a1 a2).1 ∧ fb_mA (v1 398) (fb_liftA A a1 a2).2)) ∧ (fa_fr (398) (399) v v1))) := by
  refine fa_startI (by decide +kernel) (Nat.le_of_ble_eq_true rfl) (fun p e s m args below meth c ls Q CX hl HX RET => ?_)
  have hl : lv_has ls 4 [(0, .ref (fa_B G + (397))), (1, .int (a1)), (2, .int (a2))] := hl
  have hx := CX.1.1
  have hb := CX.1.2.1
  obtain ⟨n4, en4⟩ : ∃ m, m = fa_N (v 398 14) := ⟨_, rfl⟩
  obtain ⟨hn4, g4⟩ := hS.n4 en4
  obtain ⟨n5, en5⟩ : ∃ m, m = fa_N (v 398 15) := ⟨_, rfl⟩
  obtain ⟨hn5, g5⟩ := hS.n5 en5
  obtain ⟨n6, en6⟩ : ∃ m, m = fa_N (v 398 16) := ⟨_, rfl⟩
  obtain ⟨hn6, g6⟩ := hS.n6 en6
  refine lv_aload_n hx hb dX7_lifts_0 rfl (lv_at hl 0 rfl) ?_
  refine lv_iload_n hx hb dX7_lifts_1 rfl (lv_at hl 2 rfl) ?_
  refine fa_callVip (As := [.int (a2)]) (rest := []) CX HX (r_placeOf l G n hn v r hM hS (a2)) ln_X7_60 (by omega) rfl rfl rfl rfl (Nat.le_of_ble_eq_true rfl) hl.1 ⟨Nat.le_of_ble_eq_true rfl, Nat.le_of_ble_eq_true rfl⟩ ⟨Nat.le_refl _, Nat.le_refl _⟩ dX7_lifts_2 (fun x2082 H locs h2081 HX2083 => ?_)
  have h_pl2 := h2081.1
  have h_plm2 := h2081.2
  refine lv_istore_n (lv' := [(3, .int (x2082)), (0, .ref (fa_B G + (397))), (1, .int (a1)), (2, .int (a2))]) hx hb dX7_lifts_5 rfl hl (by decide) rfl (fun ls hl => ?_)
  refine lv_iload_n hx hb dX7_lifts_6 rfl (lv_at hl 2 rfl) ?_
  refine lv_iconst (v := nI (0)) hx hb dX7_lifts_7 (by decide) ?_
  refine lv_bipush (v := nI (7)) hx hb dX7_lifts_8 (by decide) ?_
  refine fa_callSip (As := [.int (a1), .int (nI (0)), .int (nI (7))]) (rest := []) CX HX2083 (r_in l G n v r (a1) (nI (0)) (nI (7))) ln_X7_86 rfl rfl (Nat.le_of_ble_eq_true rfl) hl.1 ⟨Nat.le_of_ble_eq_true rfl, Nat.le_of_ble_eq_true rfl⟩ ⟨Nat.le_refl _, Nat.le_refl _⟩ dX7_lifts_10 (fun x2085 H locs h2084 HX2086 => ?_)
  have h_in_10 := h2084
  refine lv_if_eq (tgt := 38) hx hb dX7_lifts_13 (by decide) (fun c_13 => ?_) (fun c_13 => ?_)
  · refine lv_iconst (v := (-1 : Int32)) hx hb dX7_lifts_38 (by decide) ?_
    exact RET _ _ _ _ _ _ _ HX2086 dX7_lifts_39 (⟨rfl, ⟨⟨hS, (show v 398 14 = v 398 14 from rfl), (show v 398 15 = v 398 15 from rfl), (show v 398 16 = v 398 16 from rfl), (fun A hok hc => by (rw [fb_m_lift0 ((fb_m_in7 a1).mp (fa_in0 h_in_10 c_13))]; exact ⟨rfl, hc⟩))⟩, fa_fr.rf⟩⟩)
  · obtain ⟨jh, hjh, ejh⟩ := fa_inN (by decide) (fa_in1 h_in_10 c_13)
    refine lv_iload_n hx hb dX7_lifts_16 rfl (lv_at hl 0 rfl) ?_
    refine lv_iconst (v := (-1 : Int32)) hx hb dX7_lifts_17 (by decide) ?_
    refine lv_icmp_eq (tgt := 38) hx hb dX7_lifts_18 (by decide) (fun c_18 => ?_) (fun c_18 => ?_)
    · refine lv_iconst (v := (-1 : Int32)) hx hb dX7_lifts_38 (by decide) ?_
      exact RET _ _ _ _ _ _ _ HX2086 dX7_lifts_39 (⟨rfl, ⟨⟨hS, (show v 398 14 = v 398 14 from rfl), (show v 398 15 = v 398 15 from rfl), (show v 398 16 = v 398 16 from rfl), (fun A hok hc => by (rw [fb_liftA_n (fb_m_pl0 hc hok h_plm2 c_18)]; exact ⟨rfl, hc⟩))⟩, fa_fr.rf⟩⟩)
    · obtain ⟨tp, htp, etp⟩ := h_pl2.ne c_18
      refine lv_aload_n hx hb dX7_lifts_21 rfl (lv_at hl 1 rfl) ?_
      refine fa_getr (k := 397) (j := 398) CX HX2086 fl_X7_7 (by omega) rfl rfl hM.1 dX7_lifts_22 ?_
      refine lv_iload_n hx hb dX7_lifts_25 rfl (lv_at hl 0 rfl) ?_
      rw [show x2082 = nI (tp) from etp]
      refine fa_callSip (As := [.int (nI (tp))]) (rest := [.ref (fa_B G + (398))]) CX HX2086 (r_f l G n v r (tp)) ln_X7_36 rfl rfl (Nat.le_of_ble_eq_true rfl) hl.1 ⟨Nat.le_of_ble_eq_true rfl, Nat.le_of_ble_eq_true rfl⟩ ⟨Nat.le_refl _, Nat.le_refl _⟩ dX7_lifts_26 (fun x2088 H locs h2087 HX2089 => ?_)
      subst h2087
      refine lv_bipush (v := nI (7)) hx hb dX7_lifts_29 (by decide) ?_
      refine fa_iaddN hx hb dX7_lifts_31 ?_
      refine lv_iload_n hx hb dX7_lifts_32 rfl (lv_at hl 2 rfl) ?_
      rw [show a1 = nI (jh) from ejh]
      refine fa_iaddN hx hb dX7_lifts_33 ?_
      refine fa_iald (k := 398) (j := 17 + 15 * tp + 7 + jh) CX HX2089 (by omega) rfl (by omega) (by first | decide | assumption) dX7_lifts_34 ?_
      refine lv_if_ne (tgt := 40) hx hb dX7_lifts_35 (by decide) (fun c_35 => ?_) (fun c_35 => ?_)
      · refine lv_aload_n hx hb dX7_lifts_40 rfl (lv_at hl 1 rfl) ?_
        refine fa_getr (k := 397) (j := 398) CX HX2089 fl_X7_7 (by omega) rfl rfl hM.1 dX7_lifts_41 ?_
        refine lv_iload_n hx hb dX7_lifts_44 rfl (lv_at hl 0 rfl) ?_
        rw [show x2082 = nI (tp) from etp]
        refine fa_callSip (As := [.int (nI (tp))]) (rest := [.ref (fa_B G + (398))]) CX HX2089 (r_f l G n v r (tp)) ln_X7_36 rfl rfl (Nat.le_of_ble_eq_true rfl) hl.1 ⟨Nat.le_of_ble_eq_true rfl, Nat.le_of_ble_eq_true rfl⟩ ⟨Nat.le_refl _, Nat.le_refl _⟩ dX7_lifts_45 (fun x2091 H locs h2090 HX2092 => ?_)
        subst h2090
        refine lv_bipush (v := nI (7)) hx hb dX7_lifts_48 (by decide) ?_
        refine fa_iaddN hx hb dX7_lifts_50 ?_
        refine lv_iload_n hx hb dX7_lifts_51 rfl (lv_at hl 2 rfl) ?_
        rw [show a1 = nI (jh) from ejh]
        refine fa_iaddN hx hb dX7_lifts_52 ?_
        refine lv_iconst (v := nI (0)) hx hb dX7_lifts_53 (by decide) ?_
        refine fa_iast (k := 398) (j := 17 + 15 * tp + 7 + jh) CX HX2092 (by omega) rfl (by omega) (by first | decide | assumption) dX7_lifts_54 (fun H locs v2093 e2094 HX2095 => ?_)
        refine lv_aload_n hx hb dX7_lifts_55 rfl (lv_at hl 1 rfl) ?_
        refine lv_iload_n hx hb dX7_lifts_56 rfl (lv_at hl 0 rfl) ?_
        rw [show x2082 = nI (tp) from etp]
        refine fa_callVip (As := [.int (nI (tp))]) (rest := []) CX HX2095 (r_sealing l G n hn v2093 r hM (show fa_MS (v2093 398) from by rw [e2094]; exact fa_MS.u hS (fa_ok.o (by omega) (by omega) (by omega) (fun p hp => by omega))) (tp) (by omega)) ln_X7_51 (by omega) rfl rfl rfl rfl (Nat.le_of_ble_eq_true rfl) hl.1 ⟨Nat.le_of_ble_eq_true rfl, Nat.le_of_ble_eq_true rfl⟩ ⟨Nat.le_refl _, Nat.le_refl _⟩ dX7_lifts_57 (fun x2097 H locs h2096 HX2098 => ?_)
        have h_sealing := h2096
        refine fa_callSip (As := [.int (x2097)]) (rest := []) CX HX2098 (r_bits l G n v2093 r (x2097)) ln_X7_93 rfl rfl (Nat.le_of_ble_eq_true rfl) hl.1 ⟨Nat.le_of_ble_eq_true rfl, Nat.le_of_ble_eq_true rfl⟩ ⟨Nat.le_refl _, Nat.le_refl _⟩ dX7_lifts_60 (fun x2100 H locs h2099 HX2101 => ?_)
        have h_bits := h2099
        exact RET _ _ _ _ _ _ _ HX2101 dX7_lifts_63 (⟨rfl, ⟨⟨(show fa_MS (v2093 398) from by rw [e2094]; exact fa_MS.u hS (fa_ok.o (by omega) (by omega) (by omega) (fun p hp => by omega))), (show v2093 398 14 = v 398 14 from ((show v2093 398 14 = nI (n4) from (by rw [e2094, fa_u_n _ _ (by omega)]; exact g4)).trans g4.symm)), (show v2093 398 15 = v 398 15 from ((show v2093 398 15 = nI (n5) from (by rw [e2094, fa_u_n _ _ (by omega)]; exact g5)).trans g5.symm)), (show v2093 398 16 = v 398 16 from ((show v2093 398 16 = nI (n6) from (by rw [e2094, fa_u_n _ _ (by omega)]; exact g6)).trans g6.symm)), (fun A hok hc => by (obtain ⟨p, hp, ep, ei, -⟩ := fb_m_pl1 hc hok h_plm2 c_18; have et : tp = p := fa_nIinj (by omega) (by have := hok.1.1; omega) (etp.symm.trans ep); subst et; have NC : ¬ (a1 < 0 ∨ ¬ a1 < nI 8) := (fun z => fa_in1 h_in_10 c_13 ((fb_m_in7 a1).mpr z)); have e0 : A.F tp (7 + jh) = v 398 (17 + 15 * tp + 7 + jh) := (by rw [← hc.F hp (i := 7 + jh) (by omega), ← Nat.add_assoc]); have m1 : fb_mA (v2093 398) (A.sF tp (7 + jh) 0) := (by rw [e2094, Nat.add_assoc (17 + 15 * tp) 7 jh]; exact hc.uF hp (by omega)); rw [fb_liftA_s ei NC ejh (by omega) (by rw [e0]; exact c_35)]; exact ⟨by (rw [h_bits, h_sealing, m1.msk hp]), m1⟩))⟩, (by rw [e2094]; exact fa_fr.u fa_fr.rf (by omega))⟩⟩)
      · refine lv_iconst (v := (-1 : Int32)) hx hb dX7_lifts_38 (by decide) ?_
        exact RET _ _ _ _ _ _ _ HX2089 dX7_lifts_39 (⟨rfl, ⟨⟨hS, (show v 398 14 = v 398 14 from rfl), (show v 398 15 = v 398 15 from rfl), (show v 398 16 = v 398 16 from rfl), (fun A hok hc => by (obtain ⟨p, hp, ep, ei, -⟩ := fb_m_pl1 hc hok h_plm2 c_18; have et : tp = p := fa_nIinj (by omega) (by have := hok.1.1; omega) (etp.symm.trans ep); subst et; have NC : ¬ (a1 < 0 ∨ ¬ a1 < nI 8) := (fun z => fa_in1 h_in_10 c_13 ((fb_m_in7 a1).mpr z)); have e0 : A.F tp (7 + jh) = v 398 (17 + 15 * tp + 7 + jh) := (by rw [← hc.F hp (i := 7 + jh) (by omega), ← Nat.add_assoc]); rw [fb_liftA_0 ei NC ejh (by omega) (by rw [e0]; first | exact c_35 | exact Decidable.not_not.mp c_35)]; exact ⟨rfl, hc⟩))⟩, fa_fr.rf⟩⟩)
