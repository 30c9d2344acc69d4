set_option maxHeartbeats 4000000 in
set_option maxRecDepth 100000 in
theorem r_day (l : Launch) (G : fa_G) (n : Nat) (hn : 406 ≤ n) (v : fa_V) (r : fa_R) (hM : fa_RM r) (hS : fa_MS (v 398)) : fa_MI l G n yX7_day cX7_day 2 (some .int) 7 [.ref (fa_B G + (397))] v r (fa_voi r (fun x v1 => ((fa_MS (v1 398)) ∧ (fa_f2 v v1)) ∧ (fa_fr (398) (403) v v1))) := by
  refine fa_startI (by decide +kernel) (Nat.le_of_ble_eq_true rfl) (fun p e s m args below meth c ls Q CX hl HX RET => ?_)
  have hl : lv_has ls 2 [(0, .ref (fa_B G + (397)))] := hl
  have hx := CX.1.1
  have hb := CX.1.2.1
  obtain ⟨n4, en4⟩ : ∃ m, m = fa_N (v 398 14) := ⟨_, rfl⟩
  obtain ⟨hn4, g4⟩ := hS.n4 en4
  obtain ⟨n5, en5⟩ : ∃ m, m = fa_N (v 398 15) := ⟨_, rfl⟩
  obtain ⟨hn5, g5⟩ := hS.n5 en5
  obtain ⟨n6, en6⟩ : ∃ m, m = fa_N (v 398 16) := ⟨_, rfl⟩
  obtain ⟨hn6, g6⟩ := hS.n6 en6
  refine lv_aload_n hx hb dX7_day_0 rfl (lv_at hl 0 rfl) ?_
  refine fa_getr (k := 397) (j := 398) CX HX fl_X7_7 (by omega) rfl rfl hM.1 dX7_day_1 ?_
  refine lv_bipush (v := nI (7)) hx hb dX7_day_4 (by decide) ?_
  refine lv_dup2_11 hx hb dX7_day_6 rfl rfl ?_
  refine fa_iald (k := 398) (j := 7) CX HX (by omega) rfl (by omega) (by first | decide | assumption) dX7_day_7 ?_
  refine lv_iconst (v := nI (1)) hx hb dX7_day_8 (by decide) ?_
  refine lv_iadd hx hb dX7_day_9 ?_
  refine fa_iast (k := 398) (j := 7) CX HX (by omega) rfl (by omega) (by first | decide | assumption) dX7_day_10 (fun H locs v1961 e1962 HX1963 => ?_)
  refine lv_aload_n hx hb dX7_day_11 rfl (lv_at hl 0 rfl) ?_
  refine fa_callViu (As := []) (rest := []) CX HX1963 (r_reserved l G n hn v1961 r hM (show fa_MS (v1961 398) from by rw [e1962]; exact fa_MS.u hS (fa_ok.o (by omega) (by omega) (by omega) (fun p hp => by omega))) ) ln_X7_79 (by omega) rfl rfl rfl rfl (Nat.le_of_ble_eq_true rfl) hl.1 ⟨Nat.le_of_ble_eq_true rfl, Nat.le_of_ble_eq_true rfl⟩ ⟨Nat.le_refl _, Nat.le_refl _⟩ dX7_day_12 (fun x1965 v1966 H locs h1964 HX1967 => ?_)
  have hS_v1966 := h1964.1.1
  refine lv_istore_n (lv' := [(1, .int (x1965)), (0, .ref (fa_B G + (397)))]) hx hb dX7_day_15 rfl hl (by decide) rfl (fun ls hl => ?_)
  refine lv_aload_n hx hb dX7_day_16 rfl (lv_at hl 1 rfl) ?_
  refine fa_getr (k := 397) (j := 398) CX HX1967 fl_X7_7 (by omega) rfl rfl hM.1 dX7_day_17 ?_
  refine lv_bipush (v := nI (7)) hx hb dX7_day_20 (by decide) ?_
  refine fa_iald (k := 398) (j := 7) CX HX1967 (by omega) rfl (by omega) (by first | decide | assumption) dX7_day_22 ?_
  refine lv_bipush (v := nI (90)) hx hb dX7_day_23 (by decide) ?_
  refine lv_irem hx hb dX7_day_25 (by decide) ?_
  refine lv_if_ne (tgt := 36) hx hb dX7_day_26 (by decide) (fun c_26 => ?_) (fun c_26 => ?_)
  · refine lv_iconst (v := nI (0)) hx hb dX7_day_36 (by decide) ?_
    exact RET _ _ _ _ _ _ _ HX1967 dX7_day_37 (⟨rfl, ⟨⟨hS_v1966, (fa_f2.tr (by rw [e1962]; exact fa_f2.u fa_f2.rf (by decide)) (fa_f2.of398 h1964.2))⟩, (fa_fr.tr (by rw [e1962]; exact fa_fr.u fa_fr.rf (by omega)) (fa_fr.wide h1964.2 (by omega) (by omega)))⟩⟩)
  · refine lv_aload_n hx hb dX7_day_29 rfl (lv_at hl 1 rfl) ?_
    refine fa_callViu (As := []) (rest := []) CX HX1967 (r_burning l G n hn v1966 r hM hS_v1966 ) ln_X7_83 (by omega) rfl rfl rfl rfl (Nat.le_of_ble_eq_true rfl) hl.1 ⟨Nat.le_of_ble_eq_true rfl, Nat.le_of_ble_eq_true rfl⟩ ⟨Nat.le_refl _, Nat.le_refl _⟩ dX7_day_30 (fun x1969 v1970 H locs h1968 HX1971 => ?_)
    have hS_v1970 := h1968.1.1
    refine lv_goto (tgt := 37) hx hb dX7_day_33 (by decide) ?_
    exact RET _ _ _ _ _ _ _ HX1971 dX7_day_37 (⟨rfl, ⟨⟨hS_v1970, (fa_f2.tr (fa_f2.tr (by rw [e1962]; exact fa_f2.u fa_f2.rf (by decide)) (fa_f2.of398 h1964.2)) h1968.1.2.2)⟩, (fa_fr.tr (fa_fr.tr (by rw [e1962]; exact fa_fr.u fa_fr.rf (by omega)) (fa_fr.wide h1964.2 (by omega) (by omega))) (fa_fr.wide h1968.2 (by omega) (by omega)))⟩⟩)
set_option maxHeartbeats 4000000 in
set_option maxRecDepth 100000 in
theorem r_passes (l : Launch) (G : fa_G) (n : Nat) (hn : 406 ≤ n) (v : fa_V) (r : fa_R) (hM : fa_RM r) (hS : fa_MS (v 398)) (a1 : Int32) : fa_MI l G n yX7_passes cX7_passes 4 (some .int) 8 [.ref (fa_B G + (397)), .int (a1)] v r (fa_voi r (fun x v1 => ((fa_MS (v1 398)) ∧ (fa_f2 v v1)) ∧ (fa_fr (398) (403) v v1))) := by
  refine fa_startI (by decide +kernel) (Nat.le_of_ble_eq_true rfl) (fun p e s m args below meth c ls Q CX hl HX RET => ?_)
  have hl : lv_has ls 4 [(0, .ref (fa_B G + (397))), (1, .int (a1))] := hl
  have hx := CX.1.1
  have hb := CX.1.2.1
  obtain ⟨n4, en4⟩ : ∃ m, m = fa_N (v 398 14) := ⟨_, rfl⟩
  obtain ⟨hn4, g4⟩ := hS.n4 en4
  obtain ⟨n5, en5⟩ : ∃ m, m = fa_N (v 398 15) := ⟨_, rfl⟩
  obtain ⟨hn5, g5⟩ := hS.n5 en5
  obtain ⟨n6, en6⟩ : ∃ m, m = fa_N (v 398 16) := ⟨_, rfl⟩
  obtain ⟨hn6, g6⟩ := hS.n6 en6
  refine lv_iload_n hx hb dX7_passes_0 rfl (lv_at hl 1 rfl) ?_
  refine lv_iconst (v := nI (1)) hx hb dX7_passes_1 (by decide) ?_
  refine lv_sipush (v := nI (400)) hx hb dX7_passes_2 (by decide) ?_
  refine fa_callSip (As := [.int (a1), .int (nI (1)), .int (nI (400))]) (rest := []) CX HX (r_in l G n v r (a1) (nI (1)) (nI (400))) ln_X7_86 rfl rfl (Nat.le_of_ble_eq_true rfl) hl.1 ⟨Nat.le_of_ble_eq_true rfl, Nat.le_of_ble_eq_true rfl⟩ ⟨Nat.le_refl _, Nat.le_refl _⟩ dX7_passes_5 (fun x1973 H locs h1972 HX1974 => ?_)
  have h_in_5 := h1972
  refine lv_if_ne (tgt := 14) hx hb dX7_passes_8 (by decide) (fun c_8 => ?_) (fun c_8 => ?_)
  · have hin1 := fa_in1 h_in_5 c_8
    refine lv_aload_n hx hb dX7_passes_14 rfl (lv_at hl 0 rfl) ?_
    refine fa_getr (k := 397) (j := 398) CX HX1974 fl_X7_7 (by omega) rfl rfl hM.1 dX7_passes_15 ?_
    refine lv_bipush (v := nI (7)) hx hb dX7_passes_18 (by decide) ?_
    refine fa_iald (k := 398) (j := 7) CX HX1974 (by omega) rfl (by omega) (by first | decide | assumption) dX7_passes_20 ?_
    refine lv_iload_n hx hb dX7_passes_21 rfl (lv_at hl 1 rfl) ?_
    refine lv_iadd hx hb dX7_passes_22 ?_
    refine lv_sipush (v := nI (9999)) hx hb dX7_passes_23 (by decide) ?_
    refine lv_icmp_le (tgt := 32) hx hb dX7_passes_26 (by decide) (fun c_26 => ?_) (fun c_26 => ?_)
    · obtain ⟨ka, hka1, hka, eka⟩ := fa_natIn (by decide) (fun z => hin1 (Or.inl z)) (Int32.not_lt.mp (fun z => hin1 (Or.inr z)))
      refine lv_iconst (v := nI (0)) hx hb dX7_passes_32 (by decide) ?_
      refine lv_istore_n (lv' := [(2, .int (nI (0))), (0, .ref (fa_B G + (397))), (1, .int (a1))]) hx hb dX7_passes_33 rfl hl (by decide) rfl (fun ls hl => ?_)
      refine lv_iconst (v := nI (0)) hx hb dX7_passes_34 (by decide) ?_
      refine lv_istore_n (lv' := [(3, .int (nI (0))), (2, .int (nI (0))), (0, .ref (fa_B G + (397))), (1, .int (a1))]) hx hb dX7_passes_35 rfl hl (by decide) rfl (fun ls hl => ?_)
      have LOOP_36 : ∀ (fu : Nat) (j : Nat) (mny : Int32) (v1975 : fa_V) (H : Heap) (locs : List Loc) (ls : Array Slot), ka - j < fu → (j ≤ ka ∧ fa_MS (v1975 398) ∧ fa_f2 v v1975) → lv_has ls 4 [(0, .ref (fa_B G + (397))), (1, .int (a1)), (2, .int (mny)), (3, .int (nI (j)))] → fa_HX G (n) v1975 r s H locs → W p l e (fa_rm 8) s m args below meth c H locs (0) (0) Q (F0 m 36 ls []) := by
        intro fu
        induction fu with
        | zero => intro j mny v1975 H locs ls hk; exact absurd hk (Nat.not_lt_zero _)
        | succ fu ih_36 =>
          intro j mny v1975 H locs ls hk_36 hi_36 hl HX1976
          refine lv_iload_n hx hb dX7_passes_36 rfl (lv_at hl 3 rfl) ?_
          refine lv_iload_n hx hb dX7_passes_37 rfl (lv_at hl 1 rfl) ?_
          refine lv_icmp_ge (tgt := 54) hx hb dX7_passes_38 (by decide) (fun c_38 => ?_) (fun c_38 => ?_)
          · refine lv_iload_n hx hb dX7_passes_54 rfl (lv_at hl 2 rfl) ?_
            exact RET _ _ _ _ _ _ _ HX1976 dX7_passes_55 (⟨rfl, ⟨⟨hi_36.2.1, (fa_f2.tr fa_f2.rf hi_36.2.2)⟩, (fa_fr.tr fa_fr.rf (fa_fr.wide (fa_f2.fr hi_36.2.2) (by omega) (by omega)))⟩⟩)
          · have hjk : j < ka := by
              rw [eka] at c_38
              exact fa_ltN (by omega) (by omega) c_38
            refine lv_iload_n hx hb dX7_passes_41 rfl (lv_at hl 2 rfl) ?_
            refine lv_aload_n hx hb dX7_passes_42 rfl (lv_at hl 0 rfl) ?_
            refine fa_callViu (As := []) (rest := [.int (mny)]) CX HX1976 (r_day l G n hn v1975 r hM hi_36.2.1 ) ln_X7_99 (by omega) rfl rfl rfl rfl (Nat.le_of_ble_eq_true rfl) hl.1 ⟨Nat.le_of_ble_eq_true rfl, Nat.le_of_ble_eq_true rfl⟩ ⟨Nat.le_refl _, Nat.le_refl _⟩ dX7_passes_43 (fun x1978 v1979 H locs h1977 HX1980 => ?_)
            have hS_v1979 := h1977.1.1
            refine lv_iadd hx hb dX7_passes_46 ?_
            refine lv_istore_n (lv' := [(2, .int ((mny) + (x1978))), (0, .ref (fa_B G + (397))), (1, .int (a1)), (3, .int (nI (j)))]) hx hb dX7_passes_47 rfl hl (by decide) rfl (fun ls hl => ?_)
            refine lv_iinc (v := nI (j + 1)) (lv' := [(3, .int (nI (j + 1))), (2, .int ((mny) + (x1978))), (0, .ref (fa_B G + (397))), (1, .int (a1))]) hx hb dX7_passes_48 hl (k := 3) rfl (nI_add (j) 1) (by decide) rfl (fun ls hl => ?_)
            refine lv_goto (tgt := 36) hx hb dX7_passes_51 (by decide) ?_
            exact ih_36 (j + 1) ((mny) + (x1978)) v1979 _ _ _ (by omega) (⟨by omega, hS_v1979, (fa_f2.tr (fa_f2.tr fa_f2.rf hi_36.2.2) h1977.1.2)⟩) (lv_sub hl [2, 3, 1, 0] rfl) HX1980
      exact LOOP_36 (ka - 0 + 1) (0) (nI (0)) v _ _ _ (Nat.lt_succ_self _) (⟨Nat.zero_le _, hS, fa_f2.rf⟩) (lv_sub hl [2, 3, 1, 0] rfl) HX1974
    · refine lv_bipush (v := (-5 : Int32)) hx hb dX7_passes_29 (by decide) ?_
      exact RET _ _ _ _ _ _ _ HX1974 dX7_passes_31 (⟨rfl, ⟨⟨hS, fa_f2.rf⟩, fa_fr.rf⟩⟩)
  · refine lv_bipush (v := (-2 : Int32)) hx hb dX7_passes_11 (by decide) ?_
    exact RET _ _ _ _ _ _ _ HX1974 dX7_passes_13 (⟨rfl, ⟨⟨hS, fa_f2.rf⟩, fa_fr.rf⟩⟩)
set_option maxHeartbeats 4000000 in
set_option maxRecDepth 100000 in
theorem r_adds (l : Launch) (G : fa_G) (n : Nat) (hn : 406 ≤ n) (v : fa_V) (r : fa_R) (hM : fa_RM r) (hS : fa_MS (v 398)) (a1 : Int32) (a2 : Int32) : fa_MI l G n yX7_adds cX7_adds 5 (some .int) 3 [.ref (fa_B G + (397)), .int (a1), .int (a2)] v r (fa_voi r (fun x v1 => ((fa_MS (v1 398)) ∧ (v1 398 15 = v 398 15) ∧ (v1 398 16 = v 398 16)) ∧ (fa_fr (398) (399) v v1))) := by
  refine fa_startI (by decide +kernel) (Nat.le_of_ble_eq_true rfl) (fun p e s m args below meth c ls Q CX hl HX RET => ?_)
  have hl : lv_has ls 5 [(0, .ref (fa_B G + (397))), (1, .int (a1)), (2, .int (a2))] := hl
  have hx := CX.1.1
  have hb := CX.1.2.1
  obtain ⟨n4, en4⟩ : ∃ m, m = fa_N (v 398 14) := ⟨_, rfl⟩
  obtain ⟨hn4, g4⟩ := hS.n4 en4
  obtain ⟨n5, en5⟩ : ∃ m, m = fa_N (v 398 15) := ⟨_, rfl⟩
  obtain ⟨hn5, g5⟩ := hS.n5 en5
  obtain ⟨n6, en6⟩ : ∃ m, m = fa_N (v 398 16) := ⟨_, rfl⟩
  obtain ⟨hn6, g6⟩ := hS.n6 en6
  refine lv_iload_n hx hb dX7_adds_0 rfl (lv_at hl 1 rfl) ?_
  refine lv_iconst (v := nI (0)) hx hb dX7_adds_1 (by decide) ?_
  refine lv_iconst (v := nI (4)) hx hb dX7_adds_2 (by decide) ?_
  refine fa_callSip (As := [.int (a1), .int (nI (0)), .int (nI (4))]) (rest := []) CX HX (r_in l G n v r (a1) (nI (0)) (nI (4))) ln_X7_86 rfl rfl (Nat.le_of_ble_eq_true rfl) hl.1 ⟨Nat.le_of_ble_eq_true rfl, Nat.le_of_ble_eq_true rfl⟩ ⟨Nat.le_refl _, Nat.le_refl _⟩ dX7_adds_3 (fun x1982 H locs h1981 HX1983 => ?_)
  have h_in_3 := h1981
  refine lv_if_eq (tgt := 19) hx hb dX7_adds_6 (by decide) (fun c_6 => ?_) (fun c_6 => ?_)
  · refine lv_bipush (v := (-2 : Int32)) hx hb dX7_adds_19 (by decide) ?_
    exact RET _ _ _ _ _ _ _ HX1983 dX7_adds_21 (⟨rfl, ⟨⟨hS, (show v 398 15 = v 398 15 from rfl), (show v 398 16 = v 398 16 from rfl)⟩, fa_fr.rf⟩⟩)
  · obtain ⟨ka, hka, eka⟩ := fa_inN (by decide) (fa_in1 h_in_3 c_6)
    refine lv_iload_n hx hb dX7_adds_9 rfl (lv_at hl 2 rfl) ?_
    refine lv_iconst (v := nI (1)) hx hb dX7_adds_10 (by decide) ?_
    refine lv_bipush (v := nI (50)) hx hb dX7_adds_11 (by decide) ?_
    refine fa_callSip (As := [.int (a2), .int (nI (1)), .int (nI (50))]) (rest := []) CX HX1983 (r_in l G n v r (a2) (nI (1)) (nI (50))) ln_X7_86 rfl rfl (Nat.le_of_ble_eq_true rfl) hl.1 ⟨Nat.le_of_ble_eq_true rfl, Nat.le_of_ble_eq_true rfl⟩ ⟨Nat.le_refl _, Nat.le_refl _⟩ dX7_adds_13 (fun x1985 H locs h1984 HX1986 => ?_)
    have h_in_13 := h1984
    refine lv_if_ne (tgt := 22) hx hb dX7_adds_16 (by decide) (fun c_16 => ?_) (fun c_16 => ?_)
    · refine lv_aload_n hx hb dX7_adds_22 rfl (lv_at hl 0 rfl) ?_
      refine fa_getr (k := 397) (j := 398) CX HX1986 fl_X7_7 (by omega) rfl rfl hM.1 dX7_adds_23 ?_
      refine lv_bipush (v := nI (14)) hx hb dX7_adds_26 (by decide) ?_
      refine fa_iald (k := 398) (j := 14) CX HX1986 (by omega) rfl (by omega) (by first | decide | assumption) dX7_adds_28 ?_
      rw [show v 398 14 = nI (n4) from g4]
      refine lv_bipush (v := nI (24)) hx hb dX7_adds_29 (by decide) ?_
      refine lv_icmp_eq (tgt := 63) hx hb dX7_adds_31 (by decide) (fun c_31 => ?_) (fun c_31 => ?_)
      · refine lv_bipush (v := (-4 : Int32)) hx hb dX7_adds_63 (by decide) ?_
        exact RET _ _ _ _ _ _ _ HX1986 dX7_adds_65 (⟨rfl, ⟨⟨hS, (show v 398 15 = v 398 15 from rfl), (show v 398 16 = v 398 16 from rfl)⟩, fa_fr.rf⟩⟩)
      · have hne : ¬ n4 = 24 := fun z => c_31 (by rw [z])
        refine lv_aload_n hx hb dX7_adds_34 rfl (lv_at hl 0 rfl) ?_
        refine fa_getr (k := 397) (j := 398) CX HX1986 fl_X7_7 (by omega) rfl rfl hM.1 dX7_adds_35 ?_
        refine lv_bipush (v := nI (8)) hx hb dX7_adds_38 (by decide) ?_
        refine fa_iald (k := 398) (j := 8) CX HX1986 (by omega) rfl (by omega) (by first | decide | assumption) dX7_adds_40 ?_
        refine lv_sipush (v := nI (200)) hx hb dX7_adds_41 (by decide) ?_
        refine lv_icmp_eq (tgt := 63) hx hb dX7_adds_44 (by decide) (fun c_44 => ?_) (fun c_44 => ?_)
        · refine lv_bipush (v := (-4 : Int32)) hx hb dX7_adds_63 (by decide) ?_
          exact RET _ _ _ _ _ _ _ HX1986 dX7_adds_65 (⟨rfl, ⟨⟨hS, (show v 398 15 = v 398 15 from rfl), (show v 398 16 = v 398 16 from rfl)⟩, fa_fr.rf⟩⟩)
        · refine lv_aload_n hx hb dX7_adds_47 rfl (lv_at hl 0 rfl) ?_
          refine fa_callVip (As := []) (rest := []) CX HX1986 (r_pages l G n hn v r hM hS ) ln_X7_90 (by omega) rfl rfl rfl rfl (Nat.le_of_ble_eq_true rfl) hl.1 ⟨Nat.le_of_ble_eq_true rfl, Nat.le_of_ble_eq_true rfl⟩ ⟨Nat.le_refl _, Nat.le_refl _⟩ dX7_adds_48 (fun x1988 H locs h1987 HX1989 => ?_)
          have h_pages := h1987
          refine lv_iload_n hx hb dX7_adds_51 rfl (lv_at hl 2 rfl) ?_
          refine lv_iadd hx hb dX7_adds_52 ?_
          refine lv_aload_n hx hb dX7_adds_53 rfl (lv_at hl 0 rfl) ?_
          refine fa_getr (k := 397) (j := 398) CX HX1989 fl_X7_7 (by omega) rfl rfl hM.1 dX7_adds_54 ?_
          refine lv_bipush (v := nI (6)) hx hb dX7_adds_57 (by decide) ?_
          refine fa_iald (k := 398) (j := 6) CX HX1989 (by omega) rfl (by omega) (by first | decide | assumption) dX7_adds_59 ?_
          refine lv_icmp_le (tgt := 66) hx hb dX7_adds_60 (by decide) (fun c_60 => ?_) (fun c_60 => ?_)
          · refine lv_aload_n hx hb dX7_adds_66 rfl (lv_at hl 0 rfl) ?_
            refine fa_getr (k := 397) (j := 398) CX HX1989 fl_X7_7 (by omega) rfl rfl hM.1 dX7_adds_67 ?_
            refine lv_bipush (v := nI (14)) hx hb dX7_adds_70 (by decide) ?_
            refine fa_iald (k := 398) (j := 14) CX HX1989 (by omega) rfl (by omega) (by first | decide | assumption) dX7_adds_72 ?_
            rw [show v 398 14 = nI (n4) from g4]
            refine fa_callSip (As := [.int (nI (n4))]) (rest := []) CX HX1989 (r_f l G n v r (n4)) ln_X7_36 rfl rfl (Nat.le_of_ble_eq_true rfl) hl.1 ⟨Nat.le_of_ble_eq_true rfl, Nat.le_of_ble_eq_true rfl⟩ ⟨Nat.le_refl _, Nat.le_refl _⟩ dX7_adds_73 (fun x1991 H locs h1990 HX1992 => ?_)
            subst h1990
            refine lv_istore_n (lv' := [(3, .int (nI (17 + 15 * n4))), (0, .ref (fa_B G + (397))), (1, .int (a1)), (2, .int (a2))]) hx hb dX7_adds_76 rfl hl (by decide) rfl (fun ls hl => ?_)
            refine lv_iconst (v := nI (0)) hx hb dX7_adds_77 (by decide) ?_
            refine lv_istore (lv' := [(4, .int (nI (0))), (3, .int (nI (17 + 15 * n4))), (0, .ref (fa_B G + (397))), (1, .int (a1)), (2, .int (a2))]) hx hb dX7_adds_78 hl (by decide) rfl (fun ls hl => ?_)
            have LOOP_80 : ∀ (fu : Nat) (k : Nat) (v1993 : fa_V) (H : Heap) (locs : List Loc) (ls : Array Slot), 15 - k < fu → (k ≤ 15 ∧ fa_MS (v1993 398) ∧ v1993 398 14 = v 398 14 ∧ v1993 398 15 = v 398 15 ∧ v1993 398 16 = v 398 16 ∧ fa_fr 398 399 v v1993) → lv_has ls 5 [(0, .ref (fa_B G + (397))), (1, .int (a1)), (2, .int (a2)), (3, .int (nI (17 + 15 * n4))), (4, .int (nI (k)))] → fa_HX G (n) v1993 r s H locs → W p l e (fa_rm 3) s m args below meth c H locs (0) (0) Q (F0 m 80 ls []) := by
              intro fu
              induction fu with
              | zero => intro k v1993 H locs ls hk; exact absurd hk (Nat.not_lt_zero _)
              | succ fu ih_80 =>
                intro k v1993 H locs ls hk_80 hi_80 hl HX1994
                refine lv_iload hx hb dX7_adds_80 (lv_at hl 4 rfl) ?_
                refine lv_bipush (v := nI (15)) hx hb dX7_adds_82 (by decide) ?_
                refine lv_icmp_ge (tgt := 103) hx hb dX7_adds_84 (by decide) (fun c_84 => ?_) (fun c_84 => ?_)
                · refine lv_aload_n hx hb dX7_adds_103 rfl (lv_at hl 0 rfl) ?_
                  refine fa_getr (k := 397) (j := 398) CX HX1994 fl_X7_7 (by omega) rfl rfl hM.1 dX7_adds_104 ?_
                  refine lv_iload_n hx hb dX7_adds_107 rfl (lv_at hl 3 rfl) ?_
                  refine lv_aload_n hx hb dX7_adds_108 rfl (lv_at hl 0 rfl) ?_
                  refine fa_getr (k := 397) (j := 398) CX HX1994 fl_X7_7 (by omega) rfl rfl hM.1 dX7_adds_109 ?_
                  refine lv_bipush (v := nI (8)) hx hb dX7_adds_112 (by decide) ?_
                  refine fa_iald (k := 398) (j := 8) CX HX1994 (by omega) rfl (by omega) (by first | decide | assumption) dX7_adds_114 ?_
                  refine fa_iast (k := 398) (j := 17 + 15 * n4) CX HX1994 (by omega) rfl (by omega) (by first | decide | assumption) dX7_adds_115 (fun H locs v1995 e1996 HX1997 => ?_)
                  refine lv_aload_n hx hb dX7_adds_116 rfl (lv_at hl 0 rfl) ?_
                  refine fa_getr (k := 397) (j := 398) CX HX1997 fl_X7_7 (by omega) rfl rfl hM.1 dX7_adds_117 ?_
                  refine lv_iload_n hx hb dX7_adds_120 rfl (lv_at hl 3 rfl) ?_
                  refine lv_iconst (v := nI (1)) hx hb dX7_adds_121 (by decide) ?_
                  refine fa_iaddN hx hb dX7_adds_122 ?_
                  refine lv_iload_n hx hb dX7_adds_123 rfl (lv_at hl 1 rfl) ?_
                  rw [show a1 = nI (ka) from eka]
                  refine fa_iast (k := 398) (j := 17 + 15 * n4 + 1) CX HX1997 (by omega) rfl (by omega) (by first | decide | assumption) dX7_adds_124 (fun H locs v1998 e1999 HX2000 => ?_)
                  refine lv_aload_n hx hb dX7_adds_125 rfl (lv_at hl 0 rfl) ?_
                  refine fa_getr (k := 397) (j := 398) CX HX2000 fl_X7_7 (by omega) rfl rfl hM.1 dX7_adds_126 ?_
                  refine lv_iload_n hx hb dX7_adds_129 rfl (lv_at hl 3 rfl) ?_
                  refine lv_iconst (v := nI (2)) hx hb dX7_adds_130 (by decide) ?_
                  refine fa_iaddN hx hb dX7_adds_131 ?_
                  refine lv_iload_n hx hb dX7_adds_132 rfl (lv_at hl 2 rfl) ?_
                  refine fa_iast (k := 398) (j := 17 + 15 * n4 + 2) CX HX2000 (by omega) rfl (by omega) (by first | decide | assumption) dX7_adds_133 (fun H locs v2001 e2002 HX2003 => ?_)
                  refine lv_aload_n hx hb dX7_adds_134 rfl (lv_at hl 0 rfl) ?_
                  refine fa_getr (k := 397) (j := 398) CX HX2003 fl_X7_7 (by omega) rfl rfl hM.1 dX7_adds_135 ?_
                  refine lv_iload_n hx hb dX7_adds_138 rfl (lv_at hl 3 rfl) ?_
                  refine lv_iconst (v := nI (3)) hx hb dX7_adds_139 (by decide) ?_
                  refine fa_iaddN hx hb dX7_adds_140 ?_
                  refine lv_aload_n hx hb dX7_adds_141 rfl (lv_at hl 0 rfl) ?_
                  refine fa_getr (k := 397) (j := 398) CX HX2003 fl_X7_7 (by omega) rfl rfl hM.1 dX7_adds_142 ?_
                  refine lv_bipush (v := nI (7)) hx hb dX7_adds_145 (by decide) ?_
                  refine fa_iald (k := 398) (j := 7) CX HX2003 (by omega) rfl (by omega) (by first | decide | assumption) dX7_adds_147 ?_
                  refine fa_iast (k := 398) (j := 17 + 15 * n4 + 3) CX HX2003 (by omega) rfl (by omega) (by first | decide | assumption) dX7_adds_148 (fun H locs v2004 e2005 HX2006 => ?_)
                  refine lv_aload_n hx hb dX7_adds_149 rfl (lv_at hl 0 rfl) ?_
                  refine fa_getr (k := 397) (j := 398) CX HX2006 fl_X7_7 (by omega) rfl rfl hM.1 dX7_adds_150 ?_
                  refine lv_iload_n hx hb dX7_adds_153 rfl (lv_at hl 3 rfl) ?_
                  refine lv_iconst (v := nI (4)) hx hb dX7_adds_154 (by decide) ?_
                  refine fa_iaddN hx hb dX7_adds_155 ?_
                  refine lv_iconst (v := (-1 : Int32)) hx hb dX7_adds_156 (by decide) ?_
                  refine fa_iast (k := 398) (j := 17 + 15 * n4 + 4) CX HX2006 (by omega) rfl (by omega) (by first | decide | assumption) dX7_adds_157 (fun H locs v2007 e2008 HX2009 => ?_)
                  refine lv_aload_n hx hb dX7_adds_158 rfl (lv_at hl 0 rfl) ?_
                  refine fa_getr (k := 397) (j := 398) CX HX2009 fl_X7_7 (by omega) rfl rfl hM.1 dX7_adds_159 ?_
                  refine lv_iload_n hx hb dX7_adds_162 rfl (lv_at hl 3 rfl) ?_
                  refine lv_bipush (v := nI (6)) hx hb dX7_adds_163 (by decide) ?_
                  refine fa_iaddN hx hb dX7_adds_165 ?_
                  refine lv_iconst (v := (-1 : Int32)) hx hb dX7_adds_166 (by decide) ?_
                  refine fa_iast (k := 398) (j := 17 + 15 * n4 + 6) CX HX2009 (by omega) rfl (by omega) (by first | decide | assumption) dX7_adds_167 (fun H locs v2010 e2011 HX2012 => ?_)
                  refine lv_aload_n hx hb dX7_adds_168 rfl (lv_at hl 0 rfl) ?_
                  refine fa_getr (k := 397) (j := 398) CX HX2012 fl_X7_7 (by omega) rfl rfl hM.1 dX7_adds_169 ?_
                  refine lv_bipush (v := nI (14)) hx hb dX7_adds_172 (by decide) ?_
                  refine lv_dup2_11 hx hb dX7_adds_174 rfl rfl ?_
                  refine fa_iald (k := 398) (j := 14) CX HX2012 (by omega) rfl (by omega) (by first | decide | assumption) dX7_adds_175 ?_
                  rw [show v2010 398 14 = nI (n4) from (by rw [e2011, fa_u_n _ _ (by omega)]; exact (by rw [e2008, fa_u_n _ _ (by omega)]; exact (by rw [e2005, fa_u_n _ _ (by omega)]; exact (by rw [e2002, fa_u_n _ _ (by omega)]; exact (by rw [e1999, fa_u_n _ _ (by omega)]; exact (by rw [e1996, fa_u_n _ _ (by omega)]; exact ((hi_80.2.2.1).trans g4)))))))]
                  refine lv_iconst (v := nI (1)) hx hb dX7_adds_176 (by decide) ?_
                  refine fa_iaddN hx hb dX7_adds_177 ?_
                  refine fa_iast (k := 398) (j := 14) CX HX2012 (by omega) rfl (by omega) (by first | decide | assumption) dX7_adds_178 (fun H locs v2013 e2014 HX2015 => ?_)
                  refine lv_aload_n hx hb dX7_adds_179 rfl (lv_at hl 0 rfl) ?_
                  refine fa_getr (k := 397) (j := 398) CX HX2015 fl_X7_7 (by omega) rfl rfl hM.1 dX7_adds_180 ?_
                  refine lv_bipush (v := nI (8)) hx hb dX7_adds_183 (by decide) ?_
                  refine lv_dup2_11 hx hb dX7_adds_185 rfl rfl ?_
                  refine fa_iald (k := 398) (j := 8) CX HX2015 (by omega) rfl (by omega) (by first | decide | assumption) dX7_adds_186 ?_
                  refine lv_iconst (v := nI (1)) hx hb dX7_adds_187 (by decide) ?_
                  refine lv_iadd hx hb dX7_adds_188 ?_
                  refine fa_iast (k := 398) (j := 8) CX HX2015 (by omega) rfl (by omega) (by first | decide | assumption) dX7_adds_189 (fun H locs v2016 e2017 HX2018 => ?_)
                  refine lv_aload_n hx hb dX7_adds_190 rfl (lv_at hl 0 rfl) ?_
                  refine fa_getr (k := 397) (j := 398) CX HX2018 fl_X7_7 (by omega) rfl rfl hM.1 dX7_adds_191 ?_
                  refine lv_bipush (v := nI (8)) hx hb dX7_adds_194 (by decide) ?_
                  refine fa_iald (k := 398) (j := 8) CX HX2018 (by omega) rfl (by omega) (by first | decide | assumption) dX7_adds_196 ?_
                  refine lv_iconst (v := nI (1)) hx hb dX7_adds_197 (by decide) ?_
                  refine lv_isub hx hb dX7_adds_198 ?_
                  exact RET _ _ _ _ _ _ _ HX2018 dX7_adds_199 (⟨rfl, ⟨⟨(show fa_MS (v2016 398) from by rw [e2017]; exact fa_MS.u (show fa_MS (v2013 398) from by rw [e2014]; exact fa_MS.u (show fa_MS (v2010 398) from by rw [e2011]; exact fa_MS.u (show fa_MS (v2007 398) from by rw [e2008]; exact fa_MS.u (show fa_MS (v2004 398) from by rw [e2005]; exact fa_MS.u (show fa_MS (v2001 398) from by rw [e2002]; exact fa_MS.u (show fa_MS (v1998 398) from by rw [e1999]; exact fa_MS.u (show fa_MS (v1995 398) from by rw [e1996]; exact fa_MS.u hi_80.2.1 (fa_ok.o (by omega) (by omega) (by omega) (fun p hp => by omega))) (fa_ok.k (by omega) (by omega))) (fa_ok.o (by omega) (by omega) (by omega) (fun p hp => by omega))) (fa_ok.o (by omega) (by omega) (by omega) (fun p hp => by omega))) (fa_ok.o (by omega) (by omega) (by omega) (fun p hp => by omega))) (fa_ok.o (by omega) (by omega) (by omega) (fun p hp => by omega))) (fa_ok.n14 (by omega))) (fa_ok.o (by omega) (by omega) (by omega) (fun p hp => by omega))), (show v2016 398 15 = v 398 15 from ((show v2016 398 15 = nI (n5) from (by rw [e2017, fa_u_n _ _ (by omega)]; exact (by rw [e2014, fa_u_n _ _ (by omega)]; exact (by rw [e2011, fa_u_n _ _ (by omega)]; exact (by rw [e2008, fa_u_n _ _ (by omega)]; exact (by rw [e2005, fa_u_n _ _ (by omega)]; exact (by rw [e2002, fa_u_n _ _ (by omega)]; exact (by rw [e1999, fa_u_n _ _ (by omega)]; exact (by rw [e1996, fa_u_n _ _ (by omega)]; exact ((hi_80.2.2.2.1).trans g5)))))))))).trans g5.symm)), (show v2016 398 16 = v 398 16 from ((show v2016 398 16 = nI (n6) from (by rw [e2017, fa_u_n _ _ (by omega)]; exact (by rw [e2014, fa_u_n _ _ (by omega)]; exact (by rw [e2011, fa_u_n _ _ (by omega)]; exact (by rw [e2008, fa_u_n _ _ (by omega)]; exact (by rw [e2005, fa_u_n _ _ (by omega)]; exact (by rw [e2002, fa_u_n _ _ (by omega)]; exact (by rw [e1999, fa_u_n _ _ (by omega)]; exact (by rw [e1996, fa_u_n _ _ (by omega)]; exact ((hi_80.2.2.2.2.1).trans g6)))))))))).trans g6.symm))⟩, (by rw [e2017]; exact fa_fr.u (by rw [e2014]; exact fa_fr.u (by rw [e2011]; exact fa_fr.u (by rw [e2008]; exact fa_fr.u (by rw [e2005]; exact fa_fr.u (by rw [e2002]; exact fa_fr.u (by rw [e1999]; exact fa_fr.u (by rw [e1996]; exact fa_fr.u (fa_fr.tr fa_fr.rf (fa_fr.wide hi_80.2.2.2.2.2 (by omega) (by omega))) (by omega)) (by omega)) (by omega)) (by omega)) (by omega)) (by omega)) (by omega)) (by omega))⟩⟩)
                · have hk := fa_ltN (by omega) (by omega) c_84
                  refine lv_aload_n hx hb dX7_adds_87 rfl (lv_at hl 0 rfl) ?_
                  refine fa_getr (k := 397) (j := 398) CX HX1994 fl_X7_7 (by omega) rfl rfl hM.1 dX7_adds_88 ?_
                  refine lv_iload_n hx hb dX7_adds_91 rfl (lv_at hl 3 rfl) ?_
                  refine lv_iload hx hb dX7_adds_92 (lv_at hl 4 rfl) ?_
                  refine fa_iaddN hx hb dX7_adds_94 ?_
                  refine lv_iconst (v := nI (0)) hx hb dX7_adds_95 (by decide) ?_
                  refine fa_iast (k := 398) (j := 17 + 15 * n4 + k) CX HX1994 (by omega) rfl (by omega) (by first | decide | assumption) dX7_adds_96 (fun H locs v2019 e2020 HX2021 => ?_)
                  refine lv_iinc (v := nI (k + 1)) (lv' := [(4, .int (nI (k + 1))), (0, .ref (fa_B G + (397))), (1, .int (a1)), (2, .int (a2)), (3, .int (nI (17 + 15 * n4)))]) hx hb dX7_adds_97 hl (k := 4) rfl (nI_add (k) 1) (by decide) rfl (fun ls hl => ?_)
                  refine lv_goto (tgt := 80) hx hb dX7_adds_100 (by decide) ?_
                  exact ih_80 (k + 1) v2019 _ _ _ (by omega) (⟨by omega, (show fa_MS (v2019 398) from by rw [e2020]; exact fa_MS.u hi_80.2.1 (fa_ok.z (by omega) rfl)), ((show v2019 398 14 = nI (n4) from (by rw [e2020, fa_u_n _ _ (by omega)]; exact ((hi_80.2.2.1).trans g4))).trans g4.symm), ((show v2019 398 15 = nI (n5) from (by rw [e2020, fa_u_n _ _ (by omega)]; exact ((hi_80.2.2.2.1).trans g5))).trans g5.symm), ((show v2019 398 16 = nI (n6) from (by rw [e2020, fa_u_n _ _ (by omega)]; exact ((hi_80.2.2.2.2.1).trans g6))).trans g6.symm), (by rw [e2020]; exact fa_fr.u (fa_fr.tr fa_fr.rf (fa_fr.wide hi_80.2.2.2.2.2 (by omega) (by omega))) (by omega))⟩) (lv_sub hl [1, 2, 3, 4, 0] rfl) HX2021
            exact LOOP_80 (15 - 0 + 1) (0) v _ _ _ (Nat.lt_succ_self _) (⟨Nat.zero_le _, hS, rfl, rfl, rfl, fa_fr.rf⟩) (lv_sub hl [2, 3, 4, 1, 0] rfl) HX1992
          · refine lv_bipush (v := (-4 : Int32)) hx hb dX7_adds_63 (by decide) ?_
            exact RET _ _ _ _ _ _ _ HX1989 dX7_adds_65 (⟨rfl, ⟨⟨hS, (show v 398 15 = v 398 15 from rfl), (show v 398 16 = v 398 16 from rfl)⟩, fa_fr.rf⟩⟩)
    · refine lv_bipush (v := (-2 : Int32)) hx hb dX7_adds_19 (by decide) ?_
      exact RET _ _ _ _ _ _ _ HX1986 dX7_adds_21 (⟨rfl, ⟨⟨hS, (show v 398 15 = v 398 15 from rfl), (show v 398 16 = v 398 16 from rfl)⟩, fa_fr.rf⟩⟩)
set_option maxHeartbeats 4000000 in
set_option maxRecDepth 100000 in
theorem r_asksFor (l : Launch) (G : fa_G) (n : Nat) (hn : 406 ≤ n) (v : fa_V) (r : fa_R) (hM : fa_RM r) (hS : fa_MS (v 398)) (a1 : Int32) : fa_MI l G n yX7_asksFor cX7_asksFor 3 (some .int) 3 [.ref (fa_B G + (397)), .int (a1)] v r (fa_voi r (fun x v1 => ((fa_MS (v1 398)) ∧ (v1 398 14 = v 398 14) ∧ (v1 398 15 = v 398 15) ∧ (v1 398 16 = v 398 16)) ∧ (fa_fr (398) (399) v v1))) := by
  refine fa_startI (by decide +kernel) (Nat.le_of_ble_eq_true rfl) (fun p e s m args below meth c ls Q CX hl HX RET => ?_)
  have hl : lv_has ls 3 [(0, .ref (fa_B G + (397))), (1, .int (a1))] := hl
  have hx := CX.1.1
  have hb := CX.1.2.1
  obtain ⟨n4, en4⟩ : ∃ m, m = fa_N (v 398 14) := ⟨_, rfl⟩
  obtain ⟨hn4, g4⟩ := hS.n4 en4
  obtain ⟨n5, en5⟩ : ∃ m, m = fa_N (v 398 15) := ⟨_, rfl⟩
  obtain ⟨hn5, g5⟩ := hS.n5 en5
  obtain ⟨n6, en6⟩ : ∃ m, m = fa_N (v 398 16) := ⟨_, rfl⟩
  obtain ⟨hn6, g6⟩ := hS.n6 en6
  refine lv_iload_n hx hb dX7_asksFor_0 rfl (lv_at hl 1 rfl) ?_
  refine lv_iconst (v := nI (0)) hx hb dX7_asksFor_1 (by decide) ?_
  refine lv_aload_n hx hb dX7_asksFor_2 rfl (lv_at hl 0 rfl) ?_
  refine fa_getr (k := 397) (j := 398) CX HX fl_X7_7 (by omega) rfl rfl hM.1 dX7_asksFor_3 ?_
  refine lv_bipush (v := nI (8)) hx hb dX7_asksFor_6 (by decide) ?_
  refine fa_iald (k := 398) (j := 8) CX HX (by omega) rfl (by omega) (by first | decide | assumption) dX7_asksFor_8 ?_
  refine lv_iconst (v := nI (1)) hx hb dX7_asksFor_9 (by decide) ?_
  refine lv_isub hx hb dX7_asksFor_10 ?_
  refine fa_callSip (As := [.int (a1), .int (nI (0)), .int ((v 398 8) - (nI (1)))]) (rest := []) CX HX (r_in l G n v r (a1) (nI (0)) ((v 398 8) - (nI (1)))) ln_X7_86 rfl rfl (Nat.le_of_ble_eq_true rfl) hl.1 ⟨Nat.le_of_ble_eq_true rfl, Nat.le_of_ble_eq_true rfl⟩ ⟨Nat.le_refl _, Nat.le_refl _⟩ dX7_asksFor_11 (fun x2023 H locs h2022 HX2024 => ?_)
  have h_in_11 := h2022
  refine lv_if_ne (tgt := 19) hx hb dX7_asksFor_14 (by decide) (fun c_14 => ?_) (fun c_14 => ?_)
  · refine lv_aload_n hx hb dX7_asksFor_19 rfl (lv_at hl 0 rfl) ?_
    refine lv_iload_n hx hb dX7_asksFor_20 rfl (lv_at hl 1 rfl) ?_
    refine fa_callVip (As := [.int (a1)]) (rest := []) CX HX2024 (r_placeOf l G n hn v r hM hS (a1)) ln_X7_60 (by omega) rfl rfl rfl rfl (Nat.le_of_ble_eq_true rfl) hl.1 ⟨Nat.le_of_ble_eq_true rfl, Nat.le_of_ble_eq_true rfl⟩ ⟨Nat.le_refl _, Nat.le_refl _⟩ dX7_asksFor_21 (fun x2026 H locs h2025 HX2027 => ?_)
    have h_pl21 := h2025
    refine lv_istore_n (lv' := [(2, .int (x2026)), (0, .ref (fa_B G + (397))), (1, .int (a1))]) hx hb dX7_asksFor_24 rfl hl (by decide) rfl (fun ls hl => ?_)
    refine lv_iload_n hx hb dX7_asksFor_25 rfl (lv_at hl 0 rfl) ?_
    refine lv_iconst (v := (-1 : Int32)) hx hb dX7_asksFor_26 (by decide) ?_
    refine lv_icmp_ne (tgt := 44) hx hb dX7_asksFor_27 (by decide) (fun c_27 => ?_) (fun c_27 => ?_)
    · refine lv_aload_n hx hb dX7_asksFor_44 rfl (lv_at hl 1 rfl) ?_
      refine lv_iload_n hx hb dX7_asksFor_45 rfl (lv_at hl 0 rfl) ?_
      refine fa_callViu (As := [.int (x2026)]) (rest := []) CX HX2027 (r_asks l G n hn v r hM hS (x2026) h_pl21) ln_X7_73 (by omega) rfl rfl rfl rfl (Nat.le_of_ble_eq_true rfl) hl.1 ⟨Nat.le_of_ble_eq_true rfl, Nat.le_of_ble_eq_true rfl⟩ ⟨Nat.le_refl _, Nat.le_refl _⟩ dX7_asksFor_46 (fun x2029 v2030 H locs h2028 HX2031 => ?_)
      have hS_v2030 := h2028.1.1
      exact RET _ _ _ _ _ _ _ HX2031 dX7_asksFor_49 (⟨rfl, ⟨⟨hS_v2030, (show v2030 398 14 = v 398 14 from ((show v2030 398 14 = nI (n4) from ((h2028.1.2.1).trans g4)).trans g4.symm)), (show v2030 398 15 = v 398 15 from ((show v2030 398 15 = nI (n5) from ((h2028.1.2.2.1).trans g5)).trans g5.symm)), (show v2030 398 16 = v 398 16 from ((show v2030 398 16 = nI (n6) from ((h2028.1.2.2.2).trans g6)).trans g6.symm))⟩, (fa_fr.tr fa_fr.rf (fa_fr.wide h2028.2 (by omega) (by omega)))⟩⟩)
    · refine lv_aload_n hx hb dX7_asksFor_30 rfl (lv_at hl 1 rfl) ?_
      refine fa_getr (k := 397) (j := 398) CX HX2027 fl_X7_7 (by omega) rfl rfl hM.1 dX7_asksFor_31 ?_
      refine lv_bipush (v := nI (12)) hx hb dX7_asksFor_34 (by decide) ?_
      refine lv_dup2_11 hx hb dX7_asksFor_36 rfl rfl ?_
      refine fa_iald (k := 398) (j := 12) CX HX2027 (by omega) rfl (by omega) (by first | decide | assumption) dX7_asksFor_37 ?_
      refine lv_iconst (v := nI (1)) hx hb dX7_asksFor_38 (by decide) ?_
      refine lv_iadd hx hb dX7_asksFor_39 ?_
      refine fa_iast (k := 398) (j := 12) CX HX2027 (by omega) rfl (by omega) (by first | decide | assumption) dX7_asksFor_40 (fun H locs v2032 e2033 HX2034 => ?_)
      refine lv_bipush (v := (-6 : Int32)) hx hb dX7_asksFor_41 (by decide) ?_
      exact RET _ _ _ _ _ _ _ HX2034 dX7_asksFor_43 (⟨rfl, ⟨⟨(show fa_MS (v2032 398) from by rw [e2033]; exact fa_MS.u hS (fa_ok.o (by omega) (by omega) (by omega) (fun p hp => by omega))), (show v2032 398 14 = v 398 14 from ((show v2032 398 14 = nI (n4) from (by rw [e2033, fa_u_n _ _ (by omega)]; exact g4)).trans g4.symm)), (show v2032 398 15 = v 398 15 from ((show v2032 398 15 = nI (n5) from (by rw [e2033, fa_u_n _ _ (by omega)]; exact g5)).trans g5.symm)), (show v2032 398 16 = v 398 16 from ((show v2032 398 16 = nI (n6) from (by rw [e2033, fa_u_n _ _ (by omega)]; exact g6)).trans g6.symm))⟩, (by rw [e2033]; exact fa_fr.u fa_fr.rf (by omega))⟩⟩)
  · refine lv_iconst (v := (-1 : Int32)) hx hb dX7_asksFor_17 (by decide) ?_
    exact RET _ _ _ _ _ _ _ HX2024 dX7_asksFor_18 (⟨rfl, ⟨⟨hS, (show v 398 14 = v 398 14 from rfl), (show v 398 15 = v 398 15 from rfl), (show v 398 16 = v 398 16 from rfl)⟩, fa_fr.rf⟩⟩)
set_option maxHeartbeats 4000000 in
set_option maxRecDepth 100000 in
theorem r_seals (l : Launch) (G : fa_G) (n : Nat) (hn : 406 ≤ n) (v : fa_V) (r : fa_R) (hM : fa_RM r) (hS : fa_MS (v 398)) (a1 : Int32) (a2 : Int32) (a3 : Int32) : fa_MI l G n yX7_seals cX7_seals 5 (some .int) 4 [.ref (fa_B G + (397)), .int (a1), .int (a2), .int (a3)] v r (fa_voi r (fun x v1 => ((fa_MS (v1 398)) ∧ (v1 398 14 = v 398 14) ∧ (v1 398 15 = v 398 15) ∧ (v1 398 16 = v 398 16)) ∧ (fa_fr (398) (399) v v1))) := by
  refine fa_startI (by decide +kernel) (Nat.le_of_ble_eq_true rfl) (fun p e s m args below meth c ls Q CX hl HX RET => ?_)
  have hl : lv_has ls 5 [(0, .ref (fa_B G + (397))), (1, .int (a1)), (2, .int (a2)), (3, .int (a3))] := hl
  have hx := CX.1.1
  have hb := CX.1.2.1
  obtain ⟨n4, en4⟩ : ∃ m, m = fa_N (v 398 14) := ⟨_, rfl⟩
  obtain ⟨hn4, g4⟩ := hS.n4 en4
  obtain ⟨n5, en5⟩ : ∃ m, m = fa_N (v 398 15) := ⟨_, rfl⟩
  obtain ⟨hn5, g5⟩ := hS.n5 en5
  obtain ⟨n6, en6⟩ : ∃ m, m = fa_N (v 398 16) := ⟨_, rfl⟩
  obtain ⟨hn6, g6⟩ := hS.n6 en6
  refine lv_aload_n hx hb dX7_seals_0 rfl (lv_at hl 0 rfl) ?_
  refine lv_iload_n hx hb dX7_seals_1 rfl (lv_at hl 2 rfl) ?_
  refine fa_callVip (As := [.int (a2)]) (rest := []) CX HX (r_placeOf l G n hn v r hM hS (a2)) ln_X7_60 (by omega) rfl rfl rfl rfl (Nat.le_of_ble_eq_true rfl) hl.1 ⟨Nat.le_of_ble_eq_true rfl, Nat.le_of_ble_eq_true rfl⟩ ⟨Nat.le_refl _, Nat.le_refl _⟩ dX7_seals_2 (fun x2036 H locs h2035 HX2037 => ?_)
  have h_pl2 := h2035
  refine lv_istore (lv' := [(4, .int (x2036)), (0, .ref (fa_B G + (397))), (1, .int (a1)), (2, .int (a2)), (3, .int (a3))]) hx hb dX7_seals_5 hl (by decide) rfl (fun ls hl => ?_)
  refine lv_iload_n hx hb dX7_seals_7 rfl (lv_at hl 2 rfl) ?_
  refine lv_iconst (v := nI (0)) hx hb dX7_seals_8 (by decide) ?_
  refine lv_bipush (v := nI (7)) hx hb dX7_seals_9 (by decide) ?_
  refine fa_callSip (As := [.int (a1), .int (nI (0)), .int (nI (7))]) (rest := []) CX HX2037 (r_in l G n v r (a1) (nI (0)) (nI (7))) ln_X7_86 rfl rfl (Nat.le_of_ble_eq_true rfl) hl.1 ⟨Nat.le_of_ble_eq_true rfl, Nat.le_of_ble_eq_true rfl⟩ ⟨Nat.le_refl _, Nat.le_refl _⟩ dX7_seals_11 (fun x2039 H locs h2038 HX2040 => ?_)
  have h_in_11 := h2038
  refine lv_if_eq (tgt := 23) hx hb dX7_seals_14 (by decide) (fun c_14 => ?_) (fun c_14 => ?_)
  · refine lv_iconst (v := (-1 : Int32)) hx hb dX7_seals_23 (by decide) ?_
    exact RET _ _ _ _ _ _ _ HX2040 dX7_seals_24 (⟨rfl, ⟨⟨hS, (show v 398 14 = v 398 14 from rfl), (show v 398 15 = v 398 15 from rfl), (show v 398 16 = v 398 16 from rfl)⟩, fa_fr.rf⟩⟩)
  · obtain ⟨jh, hjh, ejh⟩ := fa_inN (by decide) (fa_in1 h_in_11 c_14)
    refine lv_iload hx hb dX7_seals_17 (lv_at hl 0 rfl) ?_
    refine lv_iconst (v := (-1 : Int32)) hx hb dX7_seals_19 (by decide) ?_
    refine lv_icmp_ne (tgt := 25) hx hb dX7_seals_20 (by decide) (fun c_20 => ?_) (fun c_20 => ?_)
    · obtain ⟨tp, htp, etp⟩ := h_pl2.ne c_20
      refine lv_iload_n hx hb dX7_seals_25 rfl (lv_at hl 4 rfl) ?_
      refine lv_iconst (v := (-1 : Int32)) hx hb dX7_seals_26 (by decide) ?_
      refine lv_icmp_eq (tgt := 50) hx hb dX7_seals_27 (by decide) (fun c_27 => ?_) (fun c_27 => ?_)
      · refine lv_aload_n hx hb dX7_seals_50 rfl (lv_at hl 1 rfl) ?_
        refine fa_getr (k := 397) (j := 398) CX HX2040 fl_X7_7 (by omega) rfl rfl hM.1 dX7_seals_51 ?_
        refine lv_iload hx hb dX7_seals_54 (lv_at hl 0 rfl) ?_
        rw [show x2036 = nI (tp) from etp]
        refine fa_callSip (As := [.int (nI (tp))]) (rest := [.ref (fa_B G + (398))]) CX HX2040 (r_f l G n v r (tp)) ln_X7_36 rfl rfl (Nat.le_of_ble_eq_true rfl) hl.1 ⟨Nat.le_of_ble_eq_true rfl, Nat.le_of_ble_eq_true rfl⟩ ⟨Nat.le_refl _, Nat.le_refl _⟩ dX7_seals_56 (fun x2042 H locs h2041 HX2043 => ?_)
        subst h2041
        refine lv_bipush (v := nI (7)) hx hb dX7_seals_59 (by decide) ?_
        refine fa_iaddN hx hb dX7_seals_61 ?_
        refine lv_iload_n hx hb dX7_seals_62 rfl (lv_at hl 2 rfl) ?_
        rw [show a1 = nI (jh) from ejh]
        refine fa_iaddN hx hb dX7_seals_63 ?_
        refine lv_iload_n hx hb dX7_seals_64 rfl (lv_at hl 4 rfl) ?_
        refine lv_iconst (v := (-1 : Int32)) hx hb dX7_seals_65 (by decide) ?_
        refine lv_icmp_ne (tgt := 75) hx hb dX7_seals_66 (by decide) (fun c_66 => ?_) (fun c_66 => ?_)
        · refine lv_iload_n hx hb dX7_seals_75 rfl (lv_at hl 4 rfl) ?_
          refine lv_iconst (v := nI (1)) hx hb dX7_seals_76 (by decide) ?_
          refine lv_iadd hx hb dX7_seals_77 ?_
          refine fa_iast (k := 398) (j := 17 + 15 * tp + 7 + jh) CX HX2043 (by omega) rfl (by omega) (by first | decide | assumption) dX7_seals_78 (fun H locs v2044 e2045 HX2046 => ?_)
          refine lv_aload_n hx hb dX7_seals_79 rfl (lv_at hl 1 rfl) ?_
          refine lv_iload hx hb dX7_seals_80 (lv_at hl 0 rfl) ?_
          rw [show x2036 = nI (tp) from etp]
          refine fa_callVip (As := [.int (nI (tp))]) (rest := []) CX HX2046 (r_sealing l G n hn v2044 r hM (show fa_MS (v2044 398) from by rw [e2045]; exact fa_MS.u hS (fa_ok.o (by omega) (by omega) (by omega) (fun p hp => by omega))) (tp) (by omega)) ln_X7_51 (by omega) rfl rfl rfl rfl (Nat.le_of_ble_eq_true rfl) hl.1 ⟨Nat.le_of_ble_eq_true rfl, Nat.le_of_ble_eq_true rfl⟩ ⟨Nat.le_refl _, Nat.le_refl _⟩ dX7_seals_82 (fun x2048 H locs h2047 HX2049 => ?_)
          have h_sealing := h2047
          refine fa_callSip (As := [.int (x2048)]) (rest := []) CX HX2049 (r_bits l G n v2044 r (x2048)) ln_X7_93 rfl rfl (Nat.le_of_ble_eq_true rfl) hl.1 ⟨Nat.le_of_ble_eq_true rfl, Nat.le_of_ble_eq_true rfl⟩ ⟨Nat.le_refl _, Nat.le_refl _⟩ dX7_seals_85 (fun x2051 H locs h2050 HX2052 => ?_)
          have h_bits := h2050
          exact RET _ _ _ _ _ _ _ HX2052 dX7_seals_88 (⟨rfl, ⟨⟨(show fa_MS (v2044 398) from by rw [e2045]; exact fa_MS.u hS (fa_ok.o (by omega) (by omega) (by omega) (fun p hp => by omega))), (show v2044 398 14 = v 398 14 from ((show v2044 398 14 = nI (n4) from (by rw [e2045, fa_u_n _ _ (by omega)]; exact g4)).trans g4.symm)), (show v2044 398 15 = v 398 15 from ((show v2044 398 15 = nI (n5) from (by rw [e2045, fa_u_n _ _ (by omega)]; exact g5)).trans g5.symm)), (show v2044 398 16 = v 398 16 from ((show v2044 398 16 = nI (n6) from (by rw [e2045, fa_u_n _ _ (by omega)]; exact g6)).trans g6.symm))⟩, (by rw [e2045]; exact fa_fr.u fa_fr.rf (by omega))⟩⟩)
        · refine lv_sipush (v := nI (10001)) hx hb dX7_seals_69 (by decide) ?_
          refine lv_goto (tgt := 78) hx hb dX7_seals_72 (by decide) ?_
          refine fa_iast (k := 398) (j := 17 + 15 * tp + 7 + jh) CX HX2043 (by omega) rfl (by omega) (by first | decide | assumption) dX7_seals_78 (fun H locs v2053 e2054 HX2055 => ?_)
          refine lv_aload_n hx hb dX7_seals_79 rfl (lv_at hl 1 rfl) ?_
          refine lv_iload hx hb dX7_seals_80 (lv_at hl 0 rfl) ?_
          rw [show x2036 = nI (tp) from etp]
          refine fa_callVip (As := [.int (nI (tp))]) (rest := []) CX HX2055 (r_sealing l G n hn v2053 r hM (show fa_MS (v2053 398) from by rw [e2054]; exact fa_MS.u hS (fa_ok.o (by omega) (by omega) (by omega) (fun p hp => by omega))) (tp) (by omega)) ln_X7_51 (by omega) rfl rfl rfl rfl (Nat.le_of_ble_eq_true rfl) hl.1 ⟨Nat.le_of_ble_eq_true rfl, Nat.le_of_ble_eq_true rfl⟩ ⟨Nat.le_refl _, Nat.le_refl _⟩ dX7_seals_82 (fun x2057 H locs h2056 HX2058 => ?_)
          have h_sealing := h2056
          refine fa_callSip (As := [.int (x2057)]) (rest := []) CX HX2058 (r_bits l G n v2053 r (x2057)) ln_X7_93 rfl rfl (Nat.le_of_ble_eq_true rfl) hl.1 ⟨Nat.le_of_ble_eq_true rfl, Nat.le_of_ble_eq_true rfl⟩ ⟨Nat.le_refl _, Nat.le_refl _⟩ dX7_seals_85 (fun x2060 H locs h2059 HX2061 => ?_)
          have h_bits := h2059
          exact RET _ _ _ _ _ _ _ HX2061 dX7_seals_88 (⟨rfl, ⟨⟨(show fa_MS (v2053 398) from by rw [e2054]; exact fa_MS.u hS (fa_ok.o (by omega) (by omega) (by omega) (fun p hp => by omega))), (show v2053 398 14 = v 398 14 from ((show v2053 398 14 = nI (n4) from (by rw [e2054, fa_u_n _ _ (by omega)]; exact g4)).trans g4.symm)), (show v2053 398 15 = v 398 15 from ((show v2053 398 15 = nI (n5) from (by rw [e2054, fa_u_n _ _ (by omega)]; exact g5)).trans g5.symm)), (show v2053 398 16 = v 398 16 from ((show v2053 398 16 = nI (n6) from (by rw [e2054, fa_u_n _ _ (by omega)]; exact g6)).trans g6.symm))⟩, (by rw [e2054]; exact fa_fr.u fa_fr.rf (by omega))⟩⟩)
      · refine lv_iload_n hx hb dX7_seals_30 rfl (lv_at hl 4 rfl) ?_
        refine lv_aload_n hx hb dX7_seals_31 rfl (lv_at hl 1 rfl) ?_
        refine fa_getr (k := 397) (j := 398) CX HX2040 fl_X7_7 (by omega) rfl rfl hM.1 dX7_seals_32 ?_
        refine lv_bipush (v := nI (7)) hx hb dX7_seals_35 (by decide) ?_
        refine fa_iald (k := 398) (j := 7) CX HX2040 (by omega) rfl (by omega) (by first | decide | assumption) dX7_seals_37 ?_
        refine lv_sipush (v := nI (9999)) hx hb dX7_seals_38 (by decide) ?_
        refine fa_callSip (As := [.int (a3), .int (v 398 7), .int (nI (9999))]) (rest := []) CX HX2040 (r_in l G n v r (a3) (v 398 7) (nI (9999))) ln_X7_86 rfl rfl (Nat.le_of_ble_eq_true rfl) hl.1 ⟨Nat.le_of_ble_eq_true rfl, Nat.le_of_ble_eq_true rfl⟩ ⟨Nat.le_refl _, Nat.le_refl _⟩ dX7_seals_41 (fun x2063 H locs h2062 HX2064 => ?_)
        have h_in_41 := h2062
        refine lv_if_ne (tgt := 50) hx hb dX7_seals_44 (by decide) (fun c_44 => ?_) (fun c_44 => ?_)
        · refine lv_aload_n hx hb dX7_seals_50 rfl (lv_at hl 1 rfl) ?_
          refine fa_getr (k := 397) (j := 398) CX HX2064 fl_X7_7 (by omega) rfl rfl hM.1 dX7_seals_51 ?_
          refine lv_iload hx hb dX7_seals_54 (lv_at hl 0 rfl) ?_
          rw [show x2036 = nI (tp) from etp]
          refine fa_callSip (As := [.int (nI (tp))]) (rest := [.ref (fa_B G + (398))]) CX HX2064 (r_f l G n v r (tp)) ln_X7_36 rfl rfl (Nat.le_of_ble_eq_true rfl) hl.1 ⟨Nat.le_of_ble_eq_true rfl, Nat.le_of_ble_eq_true rfl⟩ ⟨Nat.le_refl _, Nat.le_refl _⟩ dX7_seals_56 (fun x2066 H locs h2065 HX2067 => ?_)
          subst h2065
          refine lv_bipush (v := nI (7)) hx hb dX7_seals_59 (by decide) ?_
          refine fa_iaddN hx hb dX7_seals_61 ?_
          refine lv_iload_n hx hb dX7_seals_62 rfl (lv_at hl 2 rfl) ?_
          rw [show a1 = nI (jh) from ejh]
          refine fa_iaddN hx hb dX7_seals_63 ?_
          refine lv_iload_n hx hb dX7_seals_64 rfl (lv_at hl 4 rfl) ?_
          refine lv_iconst (v := (-1 : Int32)) hx hb dX7_seals_65 (by decide) ?_
          refine lv_icmp_ne (tgt := 75) hx hb dX7_seals_66 (by decide) (fun c_66 => ?_) (fun c_66 => ?_)
          · refine lv_iload_n hx hb dX7_seals_75 rfl (lv_at hl 4 rfl) ?_
            refine lv_iconst (v := nI (1)) hx hb dX7_seals_76 (by decide) ?_
            refine lv_iadd hx hb dX7_seals_77 ?_
            refine fa_iast (k := 398) (j := 17 + 15 * tp + 7 + jh) CX HX2067 (by omega) rfl (by omega) (by first | decide | assumption) dX7_seals_78 (fun H locs v2068 e2069 HX2070 => ?_)
            refine lv_aload_n hx hb dX7_seals_79 rfl (lv_at hl 1 rfl) ?_
            refine lv_iload hx hb dX7_seals_80 (lv_at hl 0 rfl) ?_
            rw [show x2036 = nI (tp) from etp]
            refine fa_callVip (As := [.int (nI (tp))]) (rest := []) CX HX2070 (r_sealing l G n hn v2068 r hM (show fa_MS (v2068 398) from by rw [e2069]; exact fa_MS.u hS (fa_ok.o (by omega) (by omega) (by omega) (fun p hp => by omega))) (tp) (by omega)) ln_X7_51 (by omega) rfl rfl rfl rfl (Nat.le_of_ble_eq_true rfl) hl.1 ⟨Nat.le_of_ble_eq_true rfl, Nat.le_of_ble_eq_true rfl⟩ ⟨Nat.le_refl _, Nat.le_refl _⟩ dX7_seals_82 (fun x2072 H locs h2071 HX2073 => ?_)
            have h_sealing := h2071
            refine fa_callSip (As := [.int (x2072)]) (rest := []) CX HX2073 (r_bits l G n v2068 r (x2072)) ln_X7_93 rfl rfl (Nat.le_of_ble_eq_true rfl) hl.1 ⟨Nat.le_of_ble_eq_true rfl, Nat.le_of_ble_eq_true rfl⟩ ⟨Nat.le_refl _, Nat.le_refl _⟩ dX7_seals_85 (fun x2075 H locs h2074 HX2076 => ?_)
            have h_bits := h2074
            exact RET _ _ _ _ _ _ _ HX2076 dX7_seals_88 (⟨rfl, ⟨⟨(show fa_MS (v2068 398) from by rw [e2069]; exact fa_MS.u hS (fa_ok.o (by omega) (by omega) (by omega) (fun p hp => by omega))), (show v2068 398 14 = v 398 14 from ((show v2068 398 14 = nI (n4) from (by rw [e2069, fa_u_n _ _ (by omega)]; exact g4)).trans g4.symm)), (show v2068 398 15 = v 398 15 from ((show v2068 398 15 = nI (n5) from (by rw [e2069, fa_u_n _ _ (by omega)]; exact g5)).trans g5.symm)), (show v2068 398 16 = v 398 16 from ((show v2068 398 16 = nI (n6) from (by rw [e2069, fa_u_n _ _ (by omega)]; exact g6)).trans g6.symm))⟩, (by rw [e2069]; exact fa_fr.u fa_fr.rf (by omega))⟩⟩)
          · refine lv_sipush (v := nI (10001)) hx hb dX7_seals_69 (by decide) ?_
            refine lv_goto (tgt := 78) hx hb dX7_seals_72 (by decide) ?_
            refine fa_iast (k := 398) (j := 17 + 15 * tp + 7 + jh) CX HX2067 (by omega) rfl (by omega) (by first | decide | assumption) dX7_seals_78 (fun H locs v2077 e2078 HX2079 => ?_)
            refine lv_aload_n hx hb dX7_seals_79 rfl (lv_at hl 1 rfl) ?_
            refine lv_iload hx hb dX7_seals_80 (lv_at hl 0 rfl) ?_
            rw [show x2036 = nI (tp) from etp]
            refine fa_callVip (As := [.int (nI (tp))]) (rest := []) CX HX2079 (r_sealing l G n hn v2077 r hM (show fa_MS (v2077 398) from by rw [e2078]; exact fa_MS.u hS (fa_ok.o (by omega) (by omega) (by omega) (fun p hp => by omega))) (tp) (by omega)) ln_X7_51 (by omega) rfl rfl rfl rfl (Nat.le_of_ble_eq_true rfl) hl.1 ⟨Nat.le_of_ble_eq_true rfl, Nat.le_of_ble_eq_true rfl⟩ ⟨Nat.le_refl _, Nat.le_refl _⟩ dX7_seals_82 (fun x2081 H locs h2080 HX2082 => ?_)
            have h_sealing := h2080
            refine fa_callSip (As := [.int (x2081)]) (rest := []) CX HX2082 (r_bits l G n v2077 r (x2081)) ln_X7_93 rfl rfl (Nat.le_of_ble_eq_true rfl) hl.1 ⟨Nat.le_of_ble_eq_true rfl, Nat.le_of_ble_eq_true rfl⟩ ⟨Nat.le_refl _, Nat.le_refl _⟩ dX7_seals_85 (fun x2084 H locs h2083 HX2085 => ?_)
            have h_bits := h2083
            exact RET _ _ _ _ _ _ _ HX2085 dX7_seals_88 (⟨rfl, ⟨⟨(show fa_MS (v2077 398) from by rw [e2078]; exact fa_MS.u hS (fa_ok.o (by omega) (by omega) (by omega) (fun p hp => by omega))), (show v2077 398 14 = v 398 14 from ((show v2077 398 14 = nI (n4) from (by rw [e2078, fa_u_n _ _ (by omega)]; exact g4)).trans g4.symm)), (show v2077 398 15 = v 398 15 from ((show v2077 398 15 = nI (n5) from (by rw [e2078, fa_u_n _ _ (by omega)]; exact g5)).trans g5.symm)), (show v2077 398 16 = v 398 16 from ((show v2077 398 16 = nI (n6) from (by rw [e2078, fa_u_n _ _ (by omega)]; exact g6)).trans g6.symm))⟩, (by rw [e2078]; exact fa_fr.u fa_fr.rf (by omega))⟩⟩)
        · refine lv_bipush (v := (-2 : Int32)) hx hb dX7_seals_47 (by decide) ?_
          exact RET _ _ _ _ _ _ _ HX2064 dX7_seals_49 (⟨rfl, ⟨⟨hS, (show v 398 14 = v 398 14 from rfl), (show v 398 15 = v 398 15 from rfl), (show v 398 16 = v 398 16 from rfl)⟩, fa_fr.rf⟩⟩)
    · refine lv_iconst (v := (-1 : Int32)) hx hb dX7_seals_23 (by decide) ?_
      exact RET _ _ _ _ _ _ _ HX2040 dX7_seals_24 (⟨rfl, ⟨⟨hS, (show v 398 14 = v 398 14 from rfl), (show v 398 15 = v 398 15 from rfl), (show v 398 16 = v 398 16 from rfl)⟩, fa_fr.rf⟩⟩)
set_option maxHeartbeats 4000000 in
set_option maxRecDepth 100000 in
theorem r_lifts (l : Launch) (G : fa_G) (n : Nat) (hn : 406 ≤ n) (v : fa_V) (r : fa_R) (hM : fa_RM r) (hS : fa_MS (v 398)) (a1 : Int32) (a2 : Int32) : fa_MI l G n yX7_lifts cX7_lifts 4 (some .int) 4 [.ref (fa_B G + (397)), .int (a1), .int (a2)] v r (fa_voi r (fun x v1 => ((fa_MS (v1 398)) ∧ (v1 398 14 = v 398 14) ∧ (v1 398 15 = v 398 15) ∧ (v1 398 16 = v 398 16)) ∧ (fa_fr (398) (399) v v1))) := by
  refine fa_startI (by decide +kernel) (Nat.le_of_ble_eq_true rfl) (fun p e s m args below meth c ls Q CX hl HX RET => ?_)
  have hl : lv_has ls 4 [(0, .ref (fa_B G + (397))), (1, .int (a1)), (2, .int (a2))] := hl
  have hx := CX.1.1
  have hb := CX.1.2.1
  obtain ⟨n4, en4⟩ : ∃ m, m = fa_N (v 398 14) := ⟨_, rfl⟩
  obtain ⟨hn4, g4⟩ := hS.n4 en4
  obtain ⟨n5, en5⟩ : ∃ m, m = fa_N (v 398 15) := ⟨_, rfl⟩
  obtain ⟨hn5, g5⟩ := hS.n5 en5
  obtain ⟨n6, en6⟩ : ∃ m, m = fa_N (v 398 16) := ⟨_, rfl⟩
  obtain ⟨hn6, g6⟩ := hS.n6 en6
  refine lv_aload_n hx hb dX7_lifts_0 rfl (lv_at hl 0 rfl) ?_
  refine lv_iload_n hx hb dX7_lifts_1 rfl (lv_at hl 2 rfl) ?_
  refine fa_callVip (As := [.int (a2)]) (rest := []) CX HX (r_placeOf l G n hn v r hM hS (a2)) ln_X7_60 (by omega) rfl rfl rfl rfl (Nat.le_of_ble_eq_true rfl) hl.1 ⟨Nat.le_of_ble_eq_true rfl, Nat.le_of_ble_eq_true rfl⟩ ⟨Nat.le_refl _, Nat.le_refl _⟩ dX7_lifts_2 (fun x2087 H locs h2086 HX2088 => ?_)
  have h_pl2 := h2086
  refine lv_istore_n (lv' := [(3, .int (x2087)), (0, .ref (fa_B G + (397))), (1, .int (a1)), (2, .int (a2))]) hx hb dX7_lifts_5 rfl hl (by decide) rfl (fun ls hl => ?_)
  refine lv_iload_n hx hb dX7_lifts_6 rfl (lv_at hl 2 rfl) ?_
  refine lv_iconst (v := nI (0)) hx hb dX7_lifts_7 (by decide) ?_
  refine lv_bipush (v := nI (7)) hx hb dX7_lifts_8 (by decide) ?_
  refine fa_callSip (As := [.int (a1), .int (nI (0)), .int (nI (7))]) (rest := []) CX HX2088 (r_in l G n v r (a1) (nI (0)) (nI (7))) ln_X7_86 rfl rfl (Nat.le_of_ble_eq_true rfl) hl.1 ⟨Nat.le_of_ble_eq_true rfl, Nat.le_of_ble_eq_true rfl⟩ ⟨Nat.le_refl _, Nat.le_refl _⟩ dX7_lifts_10 (fun x2090 H locs h2089 HX2091 => ?_)
  have h_in_10 := h2089
  refine lv_if_eq (tgt := 38) hx hb dX7_lifts_13 (by decide) (fun c_13 => ?_) (fun c_13 => ?_)
  · refine lv_iconst (v := (-1 : Int32)) hx hb dX7_lifts_38 (by decide) ?_
    exact RET _ _ _ _ _ _ _ HX2091 dX7_lifts_39 (⟨rfl, ⟨⟨hS, (show v 398 14 = v 398 14 from rfl), (show v 398 15 = v 398 15 from rfl), (show v 398 16 = v 398 16 from rfl)⟩, fa_fr.rf⟩⟩)
  · obtain ⟨jh, hjh, ejh⟩ := fa_inN (by decide) (fa_in1 h_in_10 c_13)
    refine lv_iload_n hx hb dX7_lifts_16 rfl (lv_at hl 0 rfl) ?_
    refine lv_iconst (v := (-1 : Int32)) hx hb dX7_lifts_17 (by decide) ?_
    refine lv_icmp_eq (tgt := 38) hx hb dX7_lifts_18 (by decide) (fun c_18 => ?_) (fun c_18 => ?_)
    · refine lv_iconst (v := (-1 : Int32)) hx hb dX7_lifts_38 (by decide) ?_
      exact RET _ _ _ _ _ _ _ HX2091 dX7_lifts_39 (⟨rfl, ⟨⟨hS, (show v 398 14 = v 398 14 from rfl), (show v 398 15 = v 398 15 from rfl), (show v 398 16 = v 398 16 from rfl)⟩, fa_fr.rf⟩⟩)
    · obtain ⟨tp, htp, etp⟩ := h_pl2.ne c_18
      refine lv_aload_n hx hb dX7_lifts_21 rfl (lv_at hl 1 rfl) ?_
      refine fa_getr (k := 397) (j := 398) CX HX2091 fl_X7_7 (by omega) rfl rfl hM.1 dX7_lifts_22 ?_
      refine lv_iload_n hx hb dX7_lifts_25 rfl (lv_at hl 0 rfl) ?_
      rw [show x2087 = nI (tp) from etp]
      refine fa_callSip (As := [.int (nI (tp))]) (rest := [.ref (fa_B G + (398))]) CX HX2091 (r_f l G n v r (tp)) ln_X7_36 rfl rfl (Nat.le_of_ble_eq_true rfl) hl.1 ⟨Nat.le_of_ble_eq_true rfl, Nat.le_of_ble_eq_true rfl⟩ ⟨Nat.le_refl _, Nat.le_refl _⟩ dX7_lifts_26 (fun x2093 H locs h2092 HX2094 => ?_)
      subst h2092
      refine lv_bipush (v := nI (7)) hx hb dX7_lifts_29 (by decide) ?_
      refine fa_iaddN hx hb dX7_lifts_31 ?_
      refine lv_iload_n hx hb dX7_lifts_32 rfl (lv_at hl 2 rfl) ?_
      rw [show a1 = nI (jh) from ejh]
      refine fa_iaddN hx hb dX7_lifts_33 ?_
      refine fa_iald (k := 398) (j := 17 + 15 * tp + 7 + jh) CX HX2094 (by omega) rfl (by omega) (by first | decide | assumption) dX7_lifts_34 ?_
      refine lv_if_ne (tgt := 40) hx hb dX7_lifts_35 (by decide) (fun c_35 => ?_) (fun c_35 => ?_)
      · refine lv_aload_n hx hb dX7_lifts_40 rfl (lv_at hl 1 rfl) ?_
        refine fa_getr (k := 397) (j := 398) CX HX2094 fl_X7_7 (by omega) rfl rfl hM.1 dX7_lifts_41 ?_
        refine lv_iload_n hx hb dX7_lifts_44 rfl (lv_at hl 0 rfl) ?_
        rw [show x2087 = nI (tp) from etp]
        refine fa_callSip (As := [.int (nI (tp))]) (rest := [.ref (fa_B G + (398))]) CX HX2094 (r_f l G n v r (tp)) ln_X7_36 rfl rfl (Nat.le_of_ble_eq_true rfl) hl.1 ⟨Nat.le_of_ble_eq_true rfl, Nat.le_of_ble_eq_true rfl⟩ ⟨Nat.le_refl _, Nat.le_refl _⟩ dX7_lifts_45 (fun x2096 H locs h2095 HX2097 => ?_)
        subst h2095
        refine lv_bipush (v := nI (7)) hx hb dX7_lifts_48 (by decide) ?_
        refine fa_iaddN hx hb dX7_lifts_50 ?_
        refine lv_iload_n hx hb dX7_lifts_51 rfl (lv_at hl 2 rfl) ?_
        rw [show a1 = nI (jh) from ejh]
        refine fa_iaddN hx hb dX7_lifts_52 ?_
        refine lv_iconst (v := nI (0)) hx hb dX7_lifts_53 (by decide) ?_
        refine fa_iast (k := 398) (j := 17 + 15 * tp + 7 + jh) CX HX2097 (by omega) rfl (by omega) (by first | decide | assumption) dX7_lifts_54 (fun H locs v2098 e2099 HX2100 => ?_)
        refine lv_aload_n hx hb dX7_lifts_55 rfl (lv_at hl 1 rfl) ?_
        refine lv_iload_n hx hb dX7_lifts_56 rfl (lv_at hl 0 rfl) ?_
        rw [show x2087 = nI (tp) from etp]
        refine fa_callVip (As := [.int (nI (tp))]) (rest := []) CX HX2100 (r_sealing l G n hn v2098 r hM (show fa_MS (v2098 398) from by rw [e2099]; exact fa_MS.u hS (fa_ok.o (by omega) (by omega) (by omega) (fun p hp => by omega))) (tp) (by omega)) ln_X7_51 (by omega) rfl rfl rfl rfl (Nat.le_of_ble_eq_true rfl) hl.1 ⟨Nat.le_of_ble_eq_true rfl, Nat.le_of_ble_eq_true rfl⟩ ⟨Nat.le_refl _, Nat.le_refl _⟩ dX7_lifts_57 (fun x2102 H locs h2101 HX2103 => ?_)
        have h_sealing := h2101
        refine fa_callSip (As := [.int (x2102)]) (rest := []) CX HX2103 (r_bits l G n v2098 r (x2102)) ln_X7_93 rfl rfl (Nat.le_of_ble_eq_true rfl) hl.1 ⟨Nat.le_of_ble_eq_true rfl, Nat.le_of_ble_eq_true rfl⟩ ⟨Nat.le_refl _, Nat.le_refl _⟩ dX7_lifts_60 (fun x2105 H locs h2104 HX2106 => ?_)
        have h_bits := h2104
        exact RET _ _ _ _ _ _ _ HX2106 dX7_lifts_63 (⟨rfl, ⟨⟨(show fa_MS (v2098 398) from by rw [e2099]; exact fa_MS.u hS (fa_ok.o (by omega) (by omega) (by omega) (fun p hp => by omega))), (show v2098 398 14 = v 398 14 from ((show v2098 398 14 = nI (n4) from (by rw [e2099, fa_u_n _ _ (by omega)]; exact g4)).trans g4.symm)), (show v2098 398 15 = v 398 15 from ((show v2098 398 15 = nI (n5) from (by rw [e2099, fa_u_n _ _ (by omega)]; exact g5)).trans g5.symm)), (show v2098 398 16 = v 398 16 from ((show v2098 398 16 = nI (n6) from (by rw [e2099, fa_u_n _ _ (by omega)]; exact g6)).trans g6.symm))⟩, (by rw [e2099]; exact fa_fr.u fa_fr.rf (by omega))⟩⟩)
      · refine lv_iconst (v := (-1 : Int32)) hx hb dX7_lifts_38 (by decide) ?_
        exact RET _ _ _ _ _ _ _ HX2094 dX7_lifts_39 (⟨rfl, ⟨⟨hS, (show v 398 14 = v 398 14 from rfl), (show v 398 15 = v 398 15 from rfl), (show v 398 16 = v 398 16 from rfl)⟩, fa_fr.rf⟩⟩)
set_option maxHeartbeats 4000000 in
set_option maxRecDepth 100000 in
theorem r_refers (l : Launch) (G : fa_G) (n : Nat) (hn : 406 ≤ n) (v : fa_V) (r : fa_R) (hM : fa_RM r) (hS : fa_MS (v 398)) (a1 : Int32) (a2 : Int32) : fa_MI l G n yX7_refers cX7_refers 4 (some .int) 4 [.ref (fa_B G + (397)), .int (a1), .int (a2)] v r (fa_voi r (fun x v1 => ((fa_MS (v1 398)) ∧ (v1 398 14 = v 398 14) ∧ (v1 398 15 = v 398 15) ∧ (v1 398 16 = v 398 16)) ∧ (fa_fr (398) (399) v v1))) := by
  refine fa_startI (by decide +kernel) (Nat.le_of_ble_eq_true rfl) (fun p e s m args below meth c ls Q CX hl HX RET => ?_)
  have hl : lv_has ls 4 [(0, .ref (fa_B G + (397))), (1, .int (a1)), (2, .int (a2))] := hl
  have hx := CX.1.1
  have hb := CX.1.2.1
  obtain ⟨n4, en4⟩ : ∃ m, m = fa_N (v 398 14) := ⟨_, rfl⟩
  obtain ⟨hn4, g4⟩ := hS.n4 en4
  obtain ⟨n5, en5⟩ : ∃ m, m = fa_N (v 398 15) := ⟨_, rfl⟩
  obtain ⟨hn5, g5⟩ := hS.n5 en5
  obtain ⟨n6, en6⟩ : ∃ m, m = fa_N (v 398 16) := ⟨_, rfl⟩
  obtain ⟨hn6, g6⟩ := hS.n6 en6
  refine lv_aload_n hx hb dX7_refers_0 rfl (lv_at hl 0 rfl) ?_
  refine lv_iload_n hx hb dX7_refers_1 rfl (lv_at hl 1 rfl) ?_
  refine fa_callVip (As := [.int (a1)]) (rest := []) CX HX (r_placeOf l G n hn v r hM hS (a1)) ln_X7_60 (by omega) rfl rfl rfl rfl (Nat.le_of_ble_eq_true rfl) hl.1 ⟨Nat.le_of_ble_eq_true rfl, Nat.le_of_ble_eq_true rfl⟩ ⟨Nat.le_refl _, Nat.le_refl _⟩ dX7_refers_2 (fun x2108 H locs h2107 HX2109 => ?_)
  have h_pl2 := h2107
  refine lv_istore_n (lv' := [(3, .int (x2108)), (0, .ref (fa_B G + (397))), (1, .int (a1)), (2, .int (a2))]) hx hb dX7_refers_5 rfl hl (by decide) rfl (fun ls hl => ?_)
  refine lv_iload_n hx hb dX7_refers_6 rfl (lv_at hl 0 rfl) ?_
  refine lv_iconst (v := (-1 : Int32)) hx hb dX7_refers_7 (by decide) ?_
  refine lv_icmp_eq (tgt := 20) hx hb dX7_refers_8 (by decide) (fun c_8 => ?_) (fun c_8 => ?_)
  · refine lv_iconst (v := (-1 : Int32)) hx hb dX7_refers_20 (by decide) ?_
    exact RET _ _ _ _ _ _ _ HX2109 dX7_refers_21 (⟨rfl, ⟨⟨hS, (show v 398 14 = v 398 14 from rfl), (show v 398 15 = v 398 15 from rfl), (show v 398 16 = v 398 16 from rfl)⟩, fa_fr.rf⟩⟩)
  · obtain ⟨tp, htp, etp⟩ := h_pl2.ne c_8
    refine lv_aload_n hx hb dX7_refers_11 rfl (lv_at hl 1 rfl) ?_
    refine lv_iload_n hx hb dX7_refers_12 rfl (lv_at hl 3 rfl) ?_
    refine fa_callVip (As := [.int (a2)]) (rest := []) CX HX2109 (r_placeOf l G n hn v r hM hS (a2)) ln_X7_60 (by omega) rfl rfl rfl rfl (Nat.le_of_ble_eq_true rfl) hl.1 ⟨Nat.le_of_ble_eq_true rfl, Nat.le_of_ble_eq_true rfl⟩ ⟨Nat.le_refl _, Nat.le_refl _⟩ dX7_refers_13 (fun x2111 H locs h2110 HX2112 => ?_)
    have h_pl13 := h2110
    refine lv_iconst (v := (-1 : Int32)) hx hb dX7_refers_16 (by decide) ?_
    refine lv_icmp_ne (tgt := 22) hx hb dX7_refers_17 (by decide) (fun c_17 => ?_) (fun c_17 => ?_)
    · refine lv_aload_n hx hb dX7_refers_22 rfl (lv_at hl 1 rfl) ?_
      refine fa_getr (k := 397) (j := 398) CX HX2112 fl_X7_7 (by omega) rfl rfl hM.1 dX7_refers_23 ?_
      refine lv_iload_n hx hb dX7_refers_26 rfl (lv_at hl 0 rfl) ?_
      rw [show x2108 = nI (tp) from etp]
      refine fa_callSip (As := [.int (nI (tp))]) (rest := [.ref (fa_B G + (398))]) CX HX2112 (r_f l G n v r (tp)) ln_X7_36 rfl rfl (Nat.le_of_ble_eq_true rfl) hl.1 ⟨Nat.le_of_ble_eq_true rfl, Nat.le_of_ble_eq_true rfl⟩ ⟨Nat.le_refl _, Nat.le_refl _⟩ dX7_refers_27 (fun x2114 H locs h2113 HX2115 => ?_)
      subst h2113
      refine lv_bipush (v := nI (6)) hx hb dX7_refers_30 (by decide) ?_
      refine fa_iaddN hx hb dX7_refers_32 ?_
      refine lv_iload_n hx hb dX7_refers_33 rfl (lv_at hl 3 rfl) ?_
      refine fa_iast (k := 398) (j := 17 + 15 * tp + 6) CX HX2115 (by omega) rfl (by omega) (by first | decide | assumption) dX7_refers_34 (fun H locs v2116 e2117 HX2118 => ?_)
      refine lv_aload_n hx hb dX7_refers_35 rfl (lv_at hl 1 rfl) ?_
      refine lv_iload_n hx hb dX7_refers_36 rfl (lv_at hl 3 rfl) ?_
      refine fa_callVip (As := [.int (a2)]) (rest := []) CX HX2118 (r_referring l G n hn v2116 r hM (show fa_MS (v2116 398) from by rw [e2117]; exact fa_MS.u hS (fa_ok.o (by omega) (by omega) (by omega) (fun p hp => by omega))) (a2)) ln_X7_96 (by omega) rfl rfl rfl rfl (Nat.le_of_ble_eq_true rfl) hl.1 ⟨Nat.le_of_ble_eq_true rfl, Nat.le_of_ble_eq_true rfl⟩ ⟨Nat.le_refl _, Nat.le_refl _⟩ dX7_refers_37 (fun x2120 H locs h2119 HX2121 => ?_)
      have h_referring := h2119
      exact RET _ _ _ _ _ _ _ HX2121 dX7_refers_40 (⟨rfl, ⟨⟨(show fa_MS (v2116 398) from by rw [e2117]; exact fa_MS.u hS (fa_ok.o (by omega) (by omega) (by omega) (fun p hp => by omega))), (show v2116 398 14 = v 398 14 from ((show v2116 398 14 = nI (n4) from (by rw [e2117, fa_u_n _ _ (by omega)]; exact g4)).trans g4.symm)), (show v2116 398 15 = v 398 15 from ((show v2116 398 15 = nI (n5) from (by rw [e2117, fa_u_n _ _ (by omega)]; exact g5)).trans g5.symm)), (show v2116 398 16 = v 398 16 from ((show v2116 398 16 = nI (n6) from (by rw [e2117, fa_u_n _ _ (by omega)]; exact g6)).trans g6.symm))⟩, (by rw [e2117]; exact fa_fr.u fa_fr.rf (by omega))⟩⟩)
    · refine lv_iconst (v := (-1 : Int32)) hx hb dX7_refers_20 (by decide) ?_
      exact RET _ _ _ _ _ _ _ HX2112 dX7_refers_21 (⟨rfl, ⟨⟨hS, (show v 398 14 = v 398 14 from rfl), (show v 398 15 = v 398 15 from rfl), (show v 398 16 = v 398 16 from rfl)⟩, fa_fr.rf⟩⟩)
set_option maxHeartbeats 4000000 in
set_option maxRecDepth 100000 in
theorem r_find (l : Launch) (G : fa_G) (n : Nat) (hn : 406 ≤ n) (v : fa_V) (r : fa_R) (hM : fa_RM r) (hS : fa_MS (v 398)) (a1 : Int32) (a2 : Int32) : fa_MI l G n yX7_find cX7_find 5 (some .int) 1 [.ref (fa_B G + (397)), .int (a1), .int (a2)] v r (fun x w => w = (v, r) ∧ (fa_pl (fa_N (v 398 15)) x)) := by
  refine fa_startI (by decide +kernel) (Nat.le_of_ble_eq_true rfl) (fun p e s m args below meth c ls Q CX hl HX RET => ?_)
  have hl : lv_has ls 5 [(0, .ref (fa_B G + (397))), (1, .int (a1)), (2, .int (a2))] := hl
  have hx := CX.1.1
  have hb := CX.1.2.1
  obtain ⟨n4, en4⟩ : ∃ m, m = fa_N (v 398 14) := ⟨_, rfl⟩
  obtain ⟨hn4, g4⟩ := hS.n4 en4
  obtain ⟨n5, en5⟩ : ∃ m, m = fa_N (v 398 15) := ⟨_, rfl⟩
  obtain ⟨hn5, g5⟩ := hS.n5 en5
  obtain ⟨n6, en6⟩ : ∃ m, m = fa_N (v 398 16) := ⟨_, rfl⟩
  obtain ⟨hn6, g6⟩ := hS.n6 en6
  refine lv_iconst (v := (-1 : Int32)) hx hb dX7_find_0 (by decide) ?_
  refine lv_istore_n (lv' := [(3, .int ((-1 : Int32))), (0, .ref (fa_B G + (397))), (1, .int (a1)), (2, .int (a2))]) hx hb dX7_find_1 rfl hl (by decide) rfl (fun ls hl => ?_)
  refine lv_iconst (v := nI (0)) hx hb dX7_find_2 (by decide) ?_
  refine lv_istore (lv' := [(4, .int (nI (0))), (3, .int ((-1 : Int32))), (0, .ref (fa_B G + (397))), (1, .int (a1)), (2, .int (a2))]) hx hb dX7_find_3 hl (by decide) rfl (fun ls hl => ?_)
  have LOOP_5 : ∀ (fu : Nat) (j : Nat) (fo : Int32) (H : Heap) (locs : List Loc) (ls : Array Slot), n5 - j < fu → (j ≤ n5 ∧ fa_pl n5 fo) → lv_has ls 5 [(0, .ref (fa_B G + (397))), (1, .int (a1)), (2, .int (a2)), (3, .int (fo)), (4, .int (nI (j)))] → fa_HX G (n) v r s H locs → W p l e (fa_rm 1) s m args below meth c H locs (0) (0) Q (F0 m 5 ls []) := by
    intro fu
    induction fu with
    | zero => intro j fo H locs ls hk; exact absurd hk (Nat.not_lt_zero _)
    | succ fu ih_5 =>
      intro j fo H locs ls hk_5 hi_5 hl HX2122
      refine lv_iload hx hb dX7_find_5 (lv_at hl 4 rfl) ?_
      refine lv_aload_n hx hb dX7_find_7 rfl (lv_at hl 0 rfl) ?_
      refine fa_getr (k := 397) (j := 398) CX HX2122 fl_X7_7 (by omega) rfl rfl hM.1 dX7_find_8 ?_
      refine lv_bipush (v := nI (15)) hx hb dX7_find_11 (by decide) ?_
      refine fa_iald (k := 398) (j := 15) CX HX2122 (by omega) rfl (by omega) (by first | decide | assumption) dX7_find_13 ?_
      rw [show v 398 15 = nI (n5) from g5]
      refine lv_icmp_ge (tgt := 66) hx hb dX7_find_14 (by decide) (fun c_14 => ?_) (fun c_14 => ?_)
      · refine lv_iload_n hx hb dX7_find_66 rfl (lv_at hl 3 rfl) ?_
        exact RET _ _ _ _ _ _ _ HX2122 dX7_find_67 (⟨rfl, (by rw [← en5]; exact hi_5.2)⟩)
      · have hj := fa_ltN (by omega) (by omega) c_14
        refine lv_aload_n hx hb dX7_find_17 rfl (lv_at hl 0 rfl) ?_
        refine fa_getr (k := 397) (j := 398) CX HX2122 fl_X7_7 (by omega) rfl rfl hM.1 dX7_find_18 ?_
        refine lv_sipush (v := nI (377)) hx hb dX7_find_21 (by decide) ?_
        refine lv_iconst (v := nI (2)) hx hb dX7_find_24 (by decide) ?_
        refine lv_iload hx hb dX7_find_25 (lv_at hl 4 rfl) ?_
        refine fa_imulN hx hb dX7_find_27 ?_
        refine fa_iaddN hx hb dX7_find_28 ?_
        refine fa_iald (k := 398) (j := 377 + (2 * j)) CX HX2122 (by omega) rfl (by omega) (by first | decide | assumption) dX7_find_29 ?_
        refine lv_iload_n hx hb dX7_find_30 rfl (lv_at hl 1 rfl) ?_
        refine lv_icmp_ne (tgt := 58) hx hb dX7_find_31 (by decide) (fun c_31 => ?_) (fun c_31 => ?_)
        · refine lv_iload_n hx hb dX7_find_58 rfl (lv_at hl 3 rfl) ?_
          refine lv_istore_n (lv' := [(3, .int (fo)), (0, .ref (fa_B G + (397))), (1, .int (a1)), (2, .int (a2)), (4, .int (nI (j)))]) hx hb dX7_find_59 rfl hl (by decide) rfl (fun ls hl => ?_)
          refine lv_iinc (v := nI (j + 1)) (lv' := [(4, .int (nI (j + 1))), (3, .int (fo)), (0, .ref (fa_B G + (397))), (1, .int (a1)), (2, .int (a2))]) hx hb dX7_find_60 hl (k := 4) rfl (nI_add (j) 1) (by decide) rfl (fun ls hl => ?_)
          refine lv_goto (tgt := 5) hx hb dX7_find_63 (by decide) ?_
          exact ih_5 (j + 1) (fo)  _ _ _ (by omega) (⟨by omega, hi_5.2⟩) (lv_sub hl [2, 3, 4, 1, 0] rfl) HX2122
        · refine lv_aload_n hx hb dX7_find_34 rfl (lv_at hl 0 rfl) ?_
          refine fa_getr (k := 397) (j := 398) CX HX2122 fl_X7_7 (by omega) rfl rfl hM.1 dX7_find_35 ?_
          refine lv_sipush (v := nI (377)) hx hb dX7_find_38 (by decide) ?_
          refine lv_iconst (v := nI (2)) hx hb dX7_find_41 (by decide) ?_
          refine lv_iload hx hb dX7_find_42 (lv_at hl 4 rfl) ?_
          refine fa_imulN hx hb dX7_find_44 ?_
          refine fa_iaddN hx hb dX7_find_45 ?_
          refine lv_iconst (v := nI (1)) hx hb dX7_find_46 (by decide) ?_
          refine fa_iaddN hx hb dX7_find_47 ?_
          refine fa_iald (k := 398) (j := 377 + (2 * j) + 1) CX HX2122 (by omega) rfl (by omega) (by first | decide | assumption) dX7_find_48 ?_
          refine lv_iload_n hx hb dX7_find_49 rfl (lv_at hl 2 rfl) ?_
          refine lv_icmp_ne (tgt := 58) hx hb dX7_find_50 (by decide) (fun c_50 => ?_) (fun c_50 => ?_)
          · refine lv_iload_n hx hb dX7_find_58 rfl (lv_at hl 3 rfl) ?_
            refine lv_istore_n (lv' := [(3, .int (fo)), (0, .ref (fa_B G + (397))), (1, .int (a1)), (2, .int (a2)), (4, .int (nI (j)))]) hx hb dX7_find_59 rfl hl (by decide) rfl (fun ls hl => ?_)
            refine lv_iinc (v := nI (j + 1)) (lv' := [(4, .int (nI (j + 1))), (3, .int (fo)), (0, .ref (fa_B G + (397))), (1, .int (a1)), (2, .int (a2))]) hx hb dX7_find_60 hl (k := 4) rfl (nI_add (j) 1) (by decide) rfl (fun ls hl => ?_)
            refine lv_goto (tgt := 5) hx hb dX7_find_63 (by decide) ?_
            exact ih_5 (j + 1) (fo)  _ _ _ (by omega) (⟨by omega, hi_5.2⟩) (lv_sub hl [2, 3, 4, 1, 0] rfl) HX2122
          · refine lv_iload hx hb dX7_find_53 (lv_at hl 4 rfl) ?_
            refine lv_goto (tgt := 59) hx hb dX7_find_55 (by decide) ?_
            refine lv_istore_n (lv' := [(3, .int (nI (j))), (0, .ref (fa_B G + (397))), (1, .int (a1)), (2, .int (a2)), (4, .int (nI (j)))]) hx hb dX7_find_59 rfl hl (by decide) rfl (fun ls hl => ?_)
            refine lv_iinc (v := nI (j + 1)) (lv' := [(4, .int (nI (j + 1))), (3, .int (nI (j))), (0, .ref (fa_B G + (397))), (1, .int (a1)), (2, .int (a2))]) hx hb dX7_find_60 hl (k := 4) rfl (nI_add (j) 1) (by decide) rfl (fun ls hl => ?_)
            refine lv_goto (tgt := 5) hx hb dX7_find_63 (by decide) ?_
            exact ih_5 (j + 1) (nI (j))  _ _ _ (by omega) (⟨by omega, Or.inr ⟨j, by omega, rfl⟩⟩) (lv_sub hl [2, 3, 4, 1, 0] rfl) HX2122
  exact LOOP_5 (n5 - 0 + 1) (0) ((-1 : Int32))  _ _ _ (Nat.lt_succ_self _) (⟨Nat.zero_le _, Or.inl rfl⟩) (lv_sub hl [2, 3, 4, 1, 0] rfl) HX
set_option maxHeartbeats 4000000 in
set_option maxRecDepth 100000 in
theorem r_ahead (l : Launch) (G : fa_G) (n : Nat) (hn : 406 ≤ n) (v : fa_V) (r : fa_R) (hM : fa_RM r) (hS : fa_MS (v 398)) (u : Nat) (hu : u < 24) : fa_MI l G n yX7_ahead cX7_ahead 5 (some .int) 1 [.ref (fa_B G + (397)), .int (nI (u))] v r (fun x w => w = (v, r) ∧ (True)) := by
  refine fa_startI (by decide +kernel) (Nat.le_of_ble_eq_true rfl) (fun p e s m args below meth c ls Q CX hl HX RET => ?_)
  have hl : lv_has ls 5 [(0, .ref (fa_B G + (397))), (1, .int (nI (u)))] := hl
  have hx := CX.1.1
  have hb := CX.1.2.1
  obtain ⟨n4, en4⟩ : ∃ m, m = fa_N (v 398 14) := ⟨_, rfl⟩
  obtain ⟨hn4, g4⟩ := hS.n4 en4
  obtain ⟨n5, en5⟩ : ∃ m, m = fa_N (v 398 15) := ⟨_, rfl⟩
  obtain ⟨hn5, g5⟩ := hS.n5 en5
  obtain ⟨n6, en6⟩ : ∃ m, m = fa_N (v 398 16) := ⟨_, rfl⟩
  obtain ⟨hn6, g6⟩ := hS.n6 en6
  refine lv_iconst (v := nI (0)) hx hb dX7_ahead_0 (by decide) ?_
  refine lv_istore_n (lv' := [(2, .int (nI (0))), (0, .ref (fa_B G + (397))), (1, .int (nI (u)))]) hx hb dX7_ahead_1 rfl hl (by decide) rfl (fun ls hl => ?_)
  refine lv_iconst (v := nI (0)) hx hb dX7_ahead_2 (by decide) ?_
  refine lv_istore_n (lv' := [(3, .int (nI (0))), (2, .int (nI (0))), (0, .ref (fa_B G + (397))), (1, .int (nI (u)))]) hx hb dX7_ahead_3 rfl hl (by decide) rfl (fun ls hl => ?_)
  have LOOP_4 : ∀ (fu : Nat) (j : Nat) (ac : Int32) (H : Heap) (locs : List Loc) (ls : Array Slot), n5 - j < fu → (j ≤ n5) → lv_has ls 5 [(0, .ref (fa_B G + (397))), (1, .int (nI (u))), (2, .int (ac)), (3, .int (nI (j)))] → fa_HX G (n) v r s H locs → W p l e (fa_rm 1) s m args below meth c H locs (0) (0) Q (F0 m 4 ls []) := by
    intro fu
    induction fu with
    | zero => intro j ac H locs ls hk; exact absurd hk (Nat.not_lt_zero _)
    | succ fu ih_4 =>
      intro j ac H locs ls hk_4 hi_4 hl HX2123
      refine lv_iload_n hx hb dX7_ahead_4 rfl (lv_at hl 3 rfl) ?_
      refine lv_aload_n hx hb dX7_ahead_5 rfl (lv_at hl 0 rfl) ?_
      refine fa_getr (k := 397) (j := 398) CX HX2123 fl_X7_7 (by omega) rfl rfl hM.1 dX7_ahead_6 ?_
      refine lv_bipush (v := nI (15)) hx hb dX7_ahead_9 (by decide) ?_
      refine fa_iald (k := 398) (j := 15) CX HX2123 (by omega) rfl (by omega) (by first | decide | assumption) dX7_ahead_11 ?_
      rw [show v 398 15 = nI (n5) from g5]
      refine lv_icmp_ge (tgt := 97) hx hb dX7_ahead_12 (by decide) (fun c_12 => ?_) (fun c_12 => ?_)
      · refine lv_iload_n hx hb dX7_ahead_97 rfl (lv_at hl 2 rfl) ?_
        exact RET _ _ _ _ _ _ _ HX2123 dX7_ahead_98 (⟨rfl, trivial⟩)
      · have hj := fa_ltN (by omega) (by omega) c_12
        refine lv_aload_n hx hb dX7_ahead_15 rfl (lv_at hl 0 rfl) ?_
        refine fa_getr (k := 397) (j := 398) CX HX2123 fl_X7_7 (by omega) rfl rfl hM.1 dX7_ahead_16 ?_
        refine lv_sipush (v := nI (377)) hx hb dX7_ahead_19 (by decide) ?_
        refine lv_iconst (v := nI (2)) hx hb dX7_ahead_22 (by decide) ?_
        refine lv_iload_n hx hb dX7_ahead_23 rfl (lv_at hl 3 rfl) ?_
        refine fa_imulN hx hb dX7_ahead_24 ?_
        refine fa_iaddN hx hb dX7_ahead_25 ?_
        refine lv_iconst (v := nI (1)) hx hb dX7_ahead_26 (by decide) ?_
        refine fa_iaddN hx hb dX7_ahead_27 ?_
        refine fa_iald (k := 398) (j := 377 + (2 * j) + 1) CX HX2123 (by omega) rfl (by omega) (by first | decide | assumption) dX7_ahead_28 ?_
        refine lv_aload_n hx hb dX7_ahead_29 rfl (lv_at hl 0 rfl) ?_
        refine fa_getr (k := 397) (j := 398) CX HX2123 fl_X7_7 (by omega) rfl rfl hM.1 dX7_ahead_30 ?_
        refine lv_sipush (v := nI (377)) hx hb dX7_ahead_33 (by decide) ?_
        refine lv_iconst (v := nI (2)) hx hb dX7_ahead_36 (by decide) ?_
        refine lv_iload_n hx hb dX7_ahead_37 rfl (lv_at hl 1 rfl) ?_
        refine fa_imulN hx hb dX7_ahead_38 ?_
        refine fa_iaddN hx hb dX7_ahead_39 ?_
        refine lv_iconst (v := nI (1)) hx hb dX7_ahead_40 (by decide) ?_
        refine fa_iaddN hx hb dX7_ahead_41 ?_
        refine fa_iald (k := 398) (j := 377 + (2 * u) + 1) CX HX2123 (by omega) rfl (by omega) (by first | decide | assumption) dX7_ahead_42 ?_
        refine lv_isub hx hb dX7_ahead_43 ?_
        refine lv_istore (lv' := [(4, .int ((v 398 (377 + (2 * j) + 1)) - (v 398 (377 + (2 * u) + 1)))), (0, .ref (fa_B G + (397))), (1, .int (nI (u))), (2, .int (ac)), (3, .int (nI (j)))]) hx hb dX7_ahead_44 hl (by decide) rfl (fun ls hl => ?_)
        refine lv_iload_n hx hb dX7_ahead_46 rfl (lv_at hl 3 rfl) ?_
        refine lv_iload hx hb dX7_ahead_47 (lv_at hl 0 rfl) ?_
        refine lv_if_lt (tgt := 84) hx hb dX7_ahead_49 (by decide) (fun c_49 => ?_) (fun c_49 => ?_)
        · refine lv_iconst (v := nI (1)) hx hb dX7_ahead_84 (by decide) ?_
          refine lv_goto (tgt := 89) hx hb dX7_ahead_85 (by decide) ?_
          refine lv_iadd hx hb dX7_ahead_89 ?_
          refine lv_istore_n (lv' := [(2, .int ((ac) + (nI (1)))), (4, .int ((v 398 (377 + (2 * j) + 1)) - (v 398 (377 + (2 * u) + 1)))), (0, .ref (fa_B G + (397))), (1, .int (nI (u))), (3, .int (nI (j)))]) hx hb dX7_ahead_90 rfl hl (by decide) rfl (fun ls hl => ?_)
          refine lv_iinc (v := nI (j + 1)) (lv' := [(3, .int (nI (j + 1))), (2, .int ((ac) + (nI (1)))), (4, .int ((v 398 (377 + (2 * j) + 1)) - (v 398 (377 + (2 * u) + 1)))), (0, .ref (fa_B G + (397))), (1, .int (nI (u)))]) hx hb dX7_ahead_91 hl (k := 4) rfl (nI_add (j) 1) (by decide) rfl (fun ls hl => ?_)
          refine lv_goto (tgt := 4) hx hb dX7_ahead_94 (by decide) ?_
          exact ih_4 (j + 1) ((ac) + (nI (1)))  _ _ _ (by omega) (by omega) (lv_sub hl [3, 4, 1, 0] rfl) HX2123
        · refine lv_iload hx hb dX7_ahead_52 (lv_at hl 0 rfl) ?_
          refine lv_if_ne (tgt := 88) hx hb dX7_ahead_54 (by decide) (fun c_54 => ?_) (fun c_54 => ?_)
          · refine lv_iconst (v := nI (0)) hx hb dX7_ahead_88 (by decide) ?_
            refine lv_iadd hx hb dX7_ahead_89 ?_
            refine lv_istore_n (lv' := [(2, .int ((ac) + (nI (0)))), (4, .int ((v 398 (377 + (2 * j) + 1)) - (v 398 (377 + (2 * u) + 1)))), (0, .ref (fa_B G + (397))), (1, .int (nI (u))), (3, .int (nI (j)))]) hx hb dX7_ahead_90 rfl hl (by decide) rfl (fun ls hl => ?_)
            refine lv_iinc (v := nI (j + 1)) (lv' := [(3, .int (nI (j + 1))), (2, .int ((ac) + (nI (0)))), (4, .int ((v 398 (377 + (2 * j) + 1)) - (v 398 (377 + (2 * u) + 1)))), (0, .ref (fa_B G + (397))), (1, .int (nI (u)))]) hx hb dX7_ahead_91 hl (k := 4) rfl (nI_add (j) 1) (by decide) rfl (fun ls hl => ?_)
            refine lv_goto (tgt := 4) hx hb dX7_ahead_94 (by decide) ?_
            exact ih_4 (j + 1) ((ac) + (nI (0)))  _ _ _ (by omega) (by omega) (lv_sub hl [3, 4, 1, 0] rfl) HX2123
          · refine lv_aload_n hx hb dX7_ahead_57 rfl (lv_at hl 1 rfl) ?_
            refine fa_getr (k := 397) (j := 398) CX HX2123 fl_X7_7 (by omega) rfl rfl hM.1 dX7_ahead_58 ?_
            refine lv_sipush (v := nI (377)) hx hb dX7_ahead_61 (by decide) ?_
            refine lv_iconst (v := nI (2)) hx hb dX7_ahead_64 (by decide) ?_
            refine lv_iload_n hx hb dX7_ahead_65 rfl (lv_at hl 4 rfl) ?_
            refine fa_imulN hx hb dX7_ahead_66 ?_
            refine fa_iaddN hx hb dX7_ahead_67 ?_
            refine fa_iald (k := 398) (j := 377 + (2 * j)) CX HX2123 (by omega) rfl (by omega) (by first | decide | assumption) dX7_ahead_68 ?_
            refine lv_aload_n hx hb dX7_ahead_69 rfl (lv_at hl 1 rfl) ?_
            refine fa_getr (k := 397) (j := 398) CX HX2123 fl_X7_7 (by omega) rfl rfl hM.1 dX7_ahead_70 ?_
            refine lv_sipush (v := nI (377)) hx hb dX7_ahead_73 (by decide) ?_
            refine lv_iconst (v := nI (2)) hx hb dX7_ahead_76 (by decide) ?_
            refine lv_iload_n hx hb dX7_ahead_77 rfl (lv_at hl 2 rfl) ?_
            refine fa_imulN hx hb dX7_ahead_78 ?_
            refine fa_iaddN hx hb dX7_ahead_79 ?_
            refine fa_iald (k := 398) (j := 377 + (2 * u)) CX HX2123 (by omega) rfl (by omega) (by first | decide | assumption) dX7_ahead_80 ?_
            refine lv_icmp_ge (tgt := 88) hx hb dX7_ahead_81 (by decide) (fun c_81 => ?_) (fun c_81 => ?_)
            · refine lv_iconst (v := nI (0)) hx hb dX7_ahead_88 (by decide) ?_
              refine lv_iadd hx hb dX7_ahead_89 ?_
              refine lv_istore_n (lv' := [(2, .int ((ac) + (nI (0)))), (4, .int ((v 398 (377 + (2 * j) + 1)) - (v 398 (377 + (2 * u) + 1)))), (0, .ref (fa_B G + (397))), (1, .int (nI (u))), (3, .int (nI (j)))]) hx hb dX7_ahead_90 rfl hl (by decide) rfl (fun ls hl => ?_)
              refine lv_iinc (v := nI (j + 1)) (lv' := [(3, .int (nI (j + 1))), (2, .int ((ac) + (nI (0)))), (4, .int ((v 398 (377 + (2 * j) + 1)) - (v 398 (377 + (2 * u) + 1)))), (0, .ref (fa_B G + (397))), (1, .int (nI (u)))]) hx hb dX7_ahead_91 hl (k := 4) rfl (nI_add (j) 1) (by decide) rfl (fun ls hl => ?_)
              refine lv_goto (tgt := 4) hx hb dX7_ahead_94 (by decide) ?_
              exact ih_4 (j + 1) ((ac) + (nI (0)))  _ _ _ (by omega) (by omega) (lv_sub hl [3, 4, 1, 0] rfl) HX2123
            · refine lv_iconst (v := nI (1)) hx hb dX7_ahead_84 (by decide) ?_
              refine lv_goto (tgt := 89) hx hb dX7_ahead_85 (by decide) ?_
              refine lv_iadd hx hb dX7_ahead_89 ?_
              refine lv_istore_n (lv' := [(2, .int ((ac) + (nI (1)))), (4, .int ((v 398 (377 + (2 * j) + 1)) - (v 398 (377 + (2 * u) + 1)))), (0, .ref (fa_B G + (397))), (1, .int (nI (u))), (3, .int (nI (j)))]) hx hb dX7_ahead_90 rfl hl (by decide) rfl (fun ls hl => ?_)
              refine lv_iinc (v := nI (j + 1)) (lv' := [(3, .int (nI (j + 1))), (2, .int ((ac) + (nI (1)))), (4, .int ((v 398 (377 + (2 * j) + 1)) - (v 398 (377 + (2 * u) + 1)))), (0, .ref (fa_B G + (397))), (1, .int (nI (u)))]) hx hb dX7_ahead_91 hl (k := 4) rfl (nI_add (j) 1) (by decide) rfl (fun ls hl => ?_)
              refine lv_goto (tgt := 4) hx hb dX7_ahead_94 (by decide) ?_
              exact ih_4 (j + 1) ((ac) + (nI (1)))  _ _ _ (by omega) (by omega) (lv_sub hl [3, 4, 1, 0] rfl) HX2123
  exact LOOP_4 (n5 - 0 + 1) (0) (nI (0))  _ _ _ (Nat.lt_succ_self _) (Nat.zero_le _) (lv_sub hl [2, 3, 1, 0] rfl) HX
