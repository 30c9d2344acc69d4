set_option maxHeartbeats 4000000 in
set_option maxRecDepth 100000 in
theorem r_day (l : Launch) (G : fa_G) (n : Nat) (hn : 406 ≤ n) (v : fa_V) (r : fa_R) (hM : fa_RM r) (hS : fa_MS (v 398)) : fa_MI l G n yX7_day cX7_day 2 (some .int) 7 [.ref (fa_B G + (397))] v r (fa_voi r (fun x v1 => ((fa_MS (v1 398)) ∧ (fa_f2 v v1) ∧ (∀ A, fb_okA A → A.g 7 < nI 9999 → fb_mA (v 398) A → x = (fb_dayA A).1 ∧ fb_mA (v1 398) (fb_dayA A).2)) ∧ (fa_fr (398) (403) v v1))) := by
  refine fa_startI (by decide +kernel) (Nat.le_of_ble_eq_true rfl) (fun p e s m args below meth c ls Q CX hl HX RET => ?_)
  have hl : lv_has ls 2 [(0, .ref (fa_B G + (397)))] := hl
  have hx := CX.1.1
  have hb := CX.1.2.1
  obtain ⟨n4, en4⟩ : ∃ m, m = fa_N (v 398 14) := ⟨_, rfl⟩
  obtain ⟨hn4, g4⟩ := hS.n4 en4
  obtain ⟨n5, en5⟩ : ∃ m, m = fa_N (v 398 15) := ⟨_, rfl⟩
  obtain ⟨hn5, g5⟩ := hS.n5 en5
  obtain ⟨n6, en6⟩ : ∃ m, m = fa_N (v 398 16) := ⟨_, rfl⟩
  obtain ⟨hn6, g6⟩ := hS.n6 en6
  refine lv_aload_n hx hb dX7_day_0 rfl (lv_at hl 0 rfl) ?_
  refine fa_getr (k := 397) (j := 398) CX HX fl_X7_7 (by omega) rfl rfl hM.1 dX7_day_1 ?_
  refine lv_bipush (v := nI (7)) hx hb dX7_day_4 (by decide) ?_
  refine lv_dup2_11 hx hb dX7_day_6 rfl rfl ?_
  refine fa_iald (k := 398) (j := 7) CX HX (by omega) rfl (by omega) (by first | decide | assumption) dX7_day_7 ?_
  refine lv_iconst (v := nI (1)) hx hb dX7_day_8 (by decide) ?_
  refine lv_iadd hx hb dX7_day_9 ?_
  refine fa_iast (k := 398) (j := 7) CX HX (by omega) rfl (by omega) (by first | decide | assumption) dX7_day_10 (fun H locs v1956 e1957 HX1958 => ?_)
  refine lv_aload_n hx hb dX7_day_11 rfl (lv_at hl 0 rfl) ?_
  refine fa_callViu (As := []) (rest := []) CX HX1958 (r_reserved l G n hn v1956 r hM (show fa_MS (v1956 398) from by rw [e1957]; exact fa_MS.u hS (fa_ok.o (by omega) (by omega) (by omega) (fun p hp => by omega))) ) ln_X7_79 (by omega) rfl rfl rfl rfl (Nat.le_of_ble_eq_true rfl) hl.1 ⟨Nat.le_of_ble_eq_true rfl, Nat.le_of_ble_eq_true rfl⟩ ⟨Nat.le_refl _, Nat.le_refl _⟩ dX7_day_12 (fun x1960 v1961 H locs h1959 HX1962 => ?_)
  have hS_v1961 := h1959.1.1
  have h_reserved := h1959.1.2.2
  refine lv_istore_n (lv' := [(1, .int (x1960)), (0, .ref (fa_B G + (397)))]) hx hb dX7_day_15 rfl hl (by decide) rfl (fun ls hl => ?_)
  refine lv_aload_n hx hb dX7_day_16 rfl (lv_at hl 1 rfl) ?_
  refine fa_getr (k := 397) (j := 398) CX HX1962 fl_X7_7 (by omega) rfl rfl hM.1 dX7_day_17 ?_
  refine lv_bipush (v := nI (7)) hx hb dX7_day_20 (by decide) ?_
  refine fa_iald (k := 398) (j := 7) CX HX1962 (by omega) rfl (by omega) (by first | decide | assumption) dX7_day_22 ?_
  refine lv_bipush (v := nI (90)) hx hb dX7_day_23 (by decide) ?_
  refine lv_irem hx hb dX7_day_25 (by decide) ?_
  refine lv_if_ne (tgt := 36) hx hb dX7_day_26 (by decide) (fun c_26 => ?_) (fun c_26 => ?_)
  · refine lv_iconst (v := nI (0)) hx hb dX7_day_36 (by decide) ?_
    exact RET _ _ _ _ _ _ _ HX1962 dX7_day_37 (⟨rfl, ⟨⟨hS_v1961, (fa_f2.tr (by rw [e1957]; exact fa_f2.u fa_f2.rf (by decide)) (fa_f2.of398 h1959.2)), (fun A hok hl hc => by (have z := fb_m_morn hok hl hc e1957 h_reserved; rw [fb_dayA_0 (by rw [← z.2.2]; exact c_26)]; exact ⟨rfl, z.1⟩))⟩, (fa_fr.tr (by rw [e1957]; exact fa_fr.u fa_fr.rf (by omega)) (fa_fr.wide h1959.2 (by omega) (by omega)))⟩⟩)
  · refine lv_aload_n hx hb dX7_day_29 rfl (lv_at hl 1 rfl) ?_
    refine fa_callViu (As := []) (rest := []) CX HX1962 (r_burning l G n hn v1961 r hM hS_v1961 ) ln_X7_83 (by omega) rfl rfl rfl rfl (Nat.le_of_ble_eq_true rfl) hl.1 ⟨Nat.le_of_ble_eq_true rfl, Nat.le_of_ble_eq_true rfl⟩ ⟨Nat.le_refl _, Nat.le_refl _⟩ dX7_day_30 (fun x1964 v1965 H locs h1963 HX1966 => ?_)
    have hS_v1965 := h1963.1.1
    have h_burning := h1963.1.2.2.2
    refine lv_goto (tgt := 37) hx hb dX7_day_33 (by decide) ?_
    exact RET _ _ _ _ _ _ _ HX1966 dX7_day_37 (⟨rfl, ⟨⟨hS_v1965, (fa_f2.tr (fa_f2.tr (by rw [e1957]; exact fa_f2.u fa_f2.rf (by decide)) (fa_f2.of398 h1959.2)) h1963.1.2.2.1), (fun A hok hl hc => by (have z := fb_m_morn hok hl hc e1957 h_reserved; rw [fb_dayA_1 (by rw [← z.2.2]; first | exact c_26 | exact Decidable.not_not.mp c_26)]; exact h_burning _ z.2.1 z.1))⟩, (fa_fr.tr (fa_fr.tr (by rw [e1957]; exact fa_fr.u fa_fr.rf (by omega)) (fa_fr.wide h1959.2 (by omega) (by omega))) (fa_fr.wide h1963.2 (by omega) (by omega)))⟩⟩)
