set_option maxHeartbeats 4000000 in
set_option maxRecDepth 100000 in
theorem r_asksFor (l : Launch) (G : fa_G) (n : Nat) (hn : 406 ≤ n) (v : fa_V) (r : fa_R) (hM : fa_RM r) (hS : fa_MS (v 398)) (a1 : Int32) : fa_MI l G n yX7_asksFor cX7_asksFor 3 (some .int) 3 [.ref (fa_B G + (397)), .int (a1)] v r (fa_voi r (fun x v1 => ((fa_MS (v1 398)) ∧ (v1 398 14 = v 398 14) ∧ (v1 398 15 = v 398 15) ∧ (v1 398 16 = v 398 16) ∧ (∀ A, fb_okA A → fb_mA (v 398) A → x = (fb_askA A a1).1 ∧ fb_mA (v1 398) (fb_askA A a1).2)) ∧ (fa_fr (398) (399) v v1))) := by
  refine fa_startI (by decide +kernel) (Nat.le_of_ble_eq_true rfl) (fun p e s m args below meth c ls Q CX hl HX RET => ?_)
  have hl : lv_has ls 3 [(0, .ref (fa_B G + (397))), (1, .int (a1))] := hl
  have hx := CX.1.1
  have hb := CX.1.2.1
  obtain ⟨n4, en4⟩ : ∃ m, m = fa_N (v 398 14) := ⟨_, rfl⟩
  obtain ⟨hn4, g4⟩ := hS.n4 en4
  obtain ⟨n5, en5⟩ : ∃ m, m = fa_N (v 398 15) := ⟨_, rfl⟩
  obtain ⟨hn5, g5⟩ := hS.n5 en5
  obtain ⟨n6, en6⟩ : ∃ m, m = fa_N (v 398 16) := ⟨_, rfl⟩
  obtain ⟨hn6, g6⟩ := hS.n6 en6
  refine lv_iload_n hx hb dX7_asksFor_0 rfl (lv_at hl 1 rfl) ?_
  refine lv_iconst (v := nI (0)) hx hb dX7_asksFor_1 (by decide) ?_
  refine lv_aload_n hx hb dX7_asksFor_2 rfl (lv_at hl 0 rfl) ?_
  refine fa_getr (k := 397) (j := 398) CX HX fl_X7_7 (by omega) rfl rfl hM.1 dX7_asksFor_3 ?_
  refine lv_bipush (v := nI (8)) hx hb dX7_asksFor_6 (by decide) ?_
  refine fa_iald (k := 398) (j := 8) CX HX (by omega) rfl (by omega) (by first | decide | assumption) dX7_asksFor_8 ?_
  refine lv_iconst (v := nI (1)) hx hb dX7_asksFor_9 (by decide) ?_
  refine lv_isub hx hb dX7_asksFor_10 ?_
  refine fa_callSip (As := [.int (a1), .int (nI (0)), .int ((v 398 8) - (nI (1)))]) (rest := []) CX HX (r_in l G n v r (a1) (nI (0)) ((v 398 8) - (nI (1)))) ln_X7_86 rfl rfl (Nat.le_of_ble_eq_true rfl) hl.1 ⟨Nat.le_of_ble_eq_true rfl, Nat.le_of_ble_eq_true rfl⟩ ⟨Nat.le_refl _, Nat.le_refl _⟩ dX7_asksFor_11 (fun x2018 H locs h2017 HX2019 => ?_)
  have h_in_11 := h2017
  refine lv_if_ne (tgt := 19) hx hb dX7_asksFor_14 (by decide) (fun c_14 => ?_) (fun c_14 => ?_)
  · refine lv_aload_n hx hb dX7_asksFor_19 rfl (lv_at hl 0 rfl) ?_
    refine lv_iload_n hx hb dX7_asksFor_20 rfl (lv_at hl 1 rfl) ?_
    refine fa_callVip (As := [.int (a1)]) (rest := []) CX HX2019 (r_placeOf l G n hn v r hM hS (a1)) ln_X7_60 (by omega) rfl rfl rfl rfl (Nat.le_of_ble_eq_true rfl) hl.1 ⟨Nat.le_of_ble_eq_true rfl, Nat.le_of_ble_eq_true rfl⟩ ⟨Nat.le_refl _, Nat.le_refl _⟩ dX7_asksFor_21 (fun x2021 H locs h2020 HX2022 => ?_)
    have h_pl21 := h2020.1
    have h_plm21 := h2020.2
    refine lv_istore_n (lv' := [(2, .int (x2021)), (0, .ref (fa_B G + (397))), (1, .int (a1))]) hx hb dX7_asksFor_24 rfl hl (by decide) rfl (fun ls hl => ?_)
    refine lv_iload_n hx hb dX7_asksFor_25 rfl (lv_at hl 0 rfl) ?_
    refine lv_iconst (v := (-1 : Int32)) hx hb dX7_asksFor_26 (by decide) ?_
    refine lv_icmp_ne (tgt := 44) hx hb dX7_asksFor_27 (by decide) (fun c_27 => ?_) (fun c_27 => ?_)
    · refine lv_aload_n hx hb dX7_asksFor_44 rfl (lv_at hl 1 rfl) ?_
      refine lv_iload_n hx hb dX7_asksFor_45 rfl (lv_at hl 0 rfl) ?_
      refine fa_callViu (As := [.int (x2021)]) (rest := []) CX HX2022 (r_asks l G n hn v r hM hS (x2021) h_pl21) ln_X7_73 (by omega) rfl rfl rfl rfl (Nat.le_of_ble_eq_true rfl) hl.1 ⟨Nat.le_of_ble_eq_true rfl, Nat.le_of_ble_eq_true rfl⟩ ⟨Nat.le_refl _, Nat.le_refl _⟩ dX7_asksFor_46 (fun x2024 v2025 H locs h2023 HX2026 => ?_)
      have hS_v2025 := h2023.1.1
      have h_asks := h2023.1.2.2.2.2
      exact RET _ _ _ _ _ _ _ HX2026 dX7_asksFor_49 (⟨rfl, ⟨⟨hS_v2025, (show v2025 398 14 = v 398 14 from ((show v2025 398 14 = nI (n4) from ((h2023.1.2.1).trans g4)).trans g4.symm)), (show v2025 398 15 = v 398 15 from ((show v2025 398 15 = nI (n5) from ((h2023.1.2.2.1).trans g5)).trans g5.symm)), (show v2025 398 16 = v 398 16 from ((show v2025 398 16 = nI (n6) from ((h2023.1.2.2.2.1).trans g6)).trans g6.symm)), (fun A hok hc => by (obtain ⟨p, hp, ep, ei, -⟩ := fb_m_pl1 hc hok h_plm21 c_27; have w := h_asks A hok.1 hc p hp ep; have z : ¬ (a1 < 0 ∨ ¬ a1 < A.g 8) := (fun y => fa_in1 h_in_11 c_14 (by rw [hc.g (k := 8) (by decide)]; exact (fb_m_in8 hok a1).mpr y)); unfold fb_askA; rw [if_neg z, ei]; exact ⟨w.1, w.2.1⟩))⟩, (fa_fr.tr fa_fr.rf (fa_fr.wide h2023.2 (by omega) (by omega)))⟩⟩)
    · refine lv_aload_n hx hb dX7_asksFor_30 rfl (lv_at hl 1 rfl) ?_
      refine fa_getr (k := 397) (j := 398) CX HX2022 fl_X7_7 (by omega) rfl rfl hM.1 dX7_asksFor_31 ?_
      refine lv_bipush (v := nI (12)) hx hb dX7_asksFor_34 (by decide) ?_
      refine lv_dup2_11 hx hb dX7_asksFor_36 rfl rfl ?_
      refine fa_iald (k := 398) (j := 12) CX HX2022 (by omega) rfl (by omega) (by first | decide | assumption) dX7_asksFor_37 ?_
      refine lv_iconst (v := nI (1)) hx hb dX7_asksFor_38 (by decide) ?_
      refine lv_iadd hx hb dX7_asksFor_39 ?_
      refine fa_iast (k := 398) (j := 12) CX HX2022 (by omega) rfl (by omega) (by first | decide | assumption) dX7_asksFor_40 (fun H locs v2027 e2028 HX2029 => ?_)
      refine lv_bipush (v := (-6 : Int32)) hx hb dX7_asksFor_41 (by decide) ?_
      exact RET _ _ _ _ _ _ _ HX2029 dX7_asksFor_43 (⟨rfl, ⟨⟨(show fa_MS (v2027 398) from by rw [e2028]; exact fa_MS.u hS (fa_ok.o (by omega) (by omega) (by omega) (fun p hp => by omega))), (show v2027 398 14 = v 398 14 from ((show v2027 398 14 = nI (n4) from (by rw [e2028, fa_u_n _ _ (by omega)]; exact g4)).trans g4.symm)), (show v2027 398 15 = v 398 15 from ((show v2027 398 15 = nI (n5) from (by rw [e2028, fa_u_n _ _ (by omega)]; exact g5)).trans g5.symm)), (show v2027 398 16 = v 398 16 from ((show v2027 398 16 = nI (n6) from (by rw [e2028, fa_u_n _ _ (by omega)]; exact g6)).trans g6.symm)), (fun A hok hc => by (have z : ¬ (a1 < 0 ∨ ¬ a1 < A.g 8) := (fun y => fa_in1 h_in_11 c_14 (by rw [hc.g (k := 8) (by decide)]; exact (fb_m_in8 hok a1).mpr y)); unfold fb_askA; rw [if_neg z, fb_m_pl0 hc hok h_plm21 (by first | exact c_27 | exact Decidable.not_not.mp c_27)]; exact ⟨rfl, fb_m_askn hc e2028⟩))⟩, (by rw [e2028]; exact fa_fr.u fa_fr.rf (by omega))⟩⟩)
  · refine lv_iconst (v := (-1 : Int32)) hx hb dX7_asksFor_17 (by decide) ?_
    exact RET _ _ _ _ _ _ _ HX2019 dX7_asksFor_18 (⟨rfl, ⟨⟨hS, (show v 398 14 = v 398 14 from rfl), (show v 398 15 = v 398 15 from rfl), (show v 398 16 = v 398 16 from rfl), (fun A hok hc => by (have z := (fb_m_in8 hok a1).mp (by rw [← hc.g (k := 8) (by decide)]; exact fa_in0 h_in_11 (by first | exact c_14 | exact Decidable.not_not.mp c_14)); unfold fb_askA; rw [if_pos z]; exact ⟨rfl, hc⟩))⟩, fa_fr.rf⟩⟩)
