set_option maxHeartbeats 4000000 in
set_option maxRecDepth 100000 in
theorem r_removeReservation (l : Launch) (G : fa_G) (n : Nat) (hn : 406 ≤ n) (v : fa_V) (r : fa_R) (hM : fa_RM r) (hS : fa_MS (v 398)) (u : Nat) (hu : u < 24) (hu5 : u < fa_N (v 398 15)) : fa_MV l G n yX7_removeReservation cX7_removeReservation 3 1 [.ref (fa_B G + (397)), .int (nI (u))] v r (fa_vo r (fun v1 => ((fa_MS (v1 398)) ∧ (v1 398 14 = v 398 14) ∧ (v1 398 16 = v 398 16) ∧ ((v1 398 15 = nI (fa_N (v 398 15) - 1)) ∧ fb_mRM (v 398) (v1 398) u)) ∧ (fa_fr (398) (399) v v1))) := by
  refine fa_startV (by decide +kernel) (Nat.le_of_ble_eq_true rfl) (fun p e s m args below meth c ls Q CX hl HX RET => ?_)
  have hl : lv_has ls 3 [(0, .ref (fa_B G + (397))), (1, .int (nI (u)))] := hl
  have hx := CX.1.1
  have hb := CX.1.2.1
  obtain ⟨n4, en4⟩ : ∃ m, m = fa_N (v 398 14) := ⟨_, rfl⟩
  obtain ⟨hn4, g4⟩ := hS.n4 en4
  obtain ⟨n5, en5⟩ : ∃ m, m = fa_N (v 398 15) := ⟨_, rfl⟩
  obtain ⟨hn5, g5⟩ := hS.n5 en5
  obtain ⟨n6, en6⟩ : ∃ m, m = fa_N (v 398 16) := ⟨_, rfl⟩
  obtain ⟨hn6, g6⟩ := hS.n6 en6
  rw [← en5] at hu5
  refine lv_sipush (v := nI (377)) hx hb dX7_removeReservation_0 (by decide) ?_
  refine lv_iconst (v := nI (2)) hx hb dX7_removeReservation_3 (by decide) ?_
  refine lv_iload_n hx hb dX7_removeReservation_4 rfl (lv_at hl 1 rfl) ?_
  refine fa_imulN hx hb dX7_removeReservation_5 ?_
  refine fa_iaddN hx hb dX7_removeReservation_6 ?_
  refine lv_istore_n (lv' := [(2, .int (nI (377 + (2 * u)))), (0, .ref (fa_B G + (397))), (1, .int (nI (u)))]) hx hb dX7_removeReservation_7 rfl hl (by decide) rfl (fun ls hl => ?_)
  have LOOP_8 : ∀ (fu : Nat) (k : Nat) (v1936 : fa_V) (H : Heap) (locs : List Loc) (ls : Array Slot), 500 - k < fu → ((377 + 2 * u ≤ k ∧ k ≤ 377 + 2 * n5 - 2) ∧ fa_MS (v1936 398) ∧ v1936 398 14 = v 398 14 ∧ v1936 398 15 = v 398 15 ∧ v1936 398 16 = v 398 16 ∧ fa_fr 398 399 v v1936 ∧ ∀ i, v1936 398 i = if 377 + 2 * u ≤ i ∧ i < k then v 398 (i + 2) else v 398 i) → lv_has ls 3 [(0, .ref (fa_B G + (397))), (1, .int (nI (u))), (2, .int (nI (k)))] → fa_HX G (n) v1936 r s H locs → W p l e (fa_rm 1) s m args below meth c H locs (0) (0) Q (F0 m 8 ls []) := by
    intro fu
    induction fu with
    | zero => intro k v1936 H locs ls hk; exact absurd hk (Nat.not_lt_zero _)
    | succ fu ih_8 =>
      intro k v1936 H locs ls hk_8 hi_8 hl HX1937
      refine lv_iload_n hx hb dX7_removeReservation_8 rfl (lv_at hl 2 rfl) ?_
      refine lv_sipush (v := nI (377)) hx hb dX7_removeReservation_9 (by decide) ?_
      refine lv_iconst (v := nI (2)) hx hb dX7_removeReservation_12 (by decide) ?_
      refine lv_aload_n hx hb dX7_removeReservation_13 rfl (lv_at hl 0 rfl) ?_
      refine fa_getr (k := 397) (j := 398) CX HX1937 fl_X7_7 (by omega) rfl rfl hM.1 dX7_removeReservation_14 ?_
      refine lv_bipush (v := nI (15)) hx hb dX7_removeReservation_17 (by decide) ?_
      refine fa_iald (k := 398) (j := 15) CX HX1937 (by omega) rfl (by omega) (by first | decide | assumption) dX7_removeReservation_19 ?_
      rw [show v1936 398 15 = nI (n5) from ((hi_8.2.2.2.1).trans g5)]
      refine fa_imulN hx hb dX7_removeReservation_20 ?_
      refine fa_iaddN hx hb dX7_removeReservation_21 ?_
      refine lv_iconst (v := nI (2)) hx hb dX7_removeReservation_22 (by decide) ?_
      refine fa_isubN hx hb dX7_removeReservation_23 (by omega) ?_
      refine lv_icmp_ge (tgt := 47) hx hb dX7_removeReservation_24 (by decide) (fun c_24 => ?_) (fun c_24 => ?_)
      · have hk := fa_leN (by omega) (by omega) c_24
        refine lv_aload_n hx hb dX7_removeReservation_47 rfl (lv_at hl 0 rfl) ?_
        refine fa_getr (k := 397) (j := 398) CX HX1937 fl_X7_7 (by omega) rfl rfl hM.1 dX7_removeReservation_48 ?_
        refine lv_bipush (v := nI (15)) hx hb dX7_removeReservation_51 (by decide) ?_
        refine lv_dup2_11 hx hb dX7_removeReservation_53 rfl rfl ?_
        refine fa_iald (k := 398) (j := 15) CX HX1937 (by omega) rfl (by omega) (by first | decide | assumption) dX7_removeReservation_54 ?_
        rw [show v1936 398 15 = nI (n5) from ((hi_8.2.2.2.1).trans g5)]
        refine lv_iconst (v := nI (1)) hx hb dX7_removeReservation_55 (by decide) ?_
        refine fa_isubN hx hb dX7_removeReservation_56 (by omega) ?_
        refine fa_iast (k := 398) (j := 15) CX HX1937 (by omega) rfl (by omega) (by first | decide | assumption) dX7_removeReservation_57 (fun H locs v1938 e1939 HX1940 => ?_)
        exact RET _ _ _ _ _ _ HX1940 dX7_removeReservation_58 (⟨rfl, ⟨⟨(show fa_MS (v1938 398) from by rw [e1939]; exact fa_MS.u hi_8.2.1 (fa_ok.n15 (by omega))), (show v1938 398 14 = v 398 14 from ((show v1938 398 14 = nI (n4) from (by rw [e1939, fa_u_n _ _ (by omega)]; exact ((hi_8.2.2.1).trans g4))).trans g4.symm)), (show v1938 398 16 = v 398 16 from ((show v1938 398 16 = nI (n6) from (by rw [e1939, fa_u_n _ _ (by omega)]; exact ((hi_8.2.2.2.2.1).trans g6))).trans g6.symm)), ⟨(show v1938 398 15 = nI (fa_N (v 398 15) - 1) from by rw [← en5]; exact (by rw [e1939, fa_u_s])), fb_m_rem hn5 g5 hu5 hi_8.1.1 (by omega) hi_8.1.2 hi_8.2.2.2.2.2.2 e1939⟩⟩, (by rw [e1939]; exact fa_fr.u (fa_fr.tr fa_fr.rf (fa_fr.wide hi_8.2.2.2.2.2.1 (by omega) (by omega))) (by omega))⟩⟩)
      · have hk := fa_ltN (by omega) (by omega) c_24
        refine lv_aload_n hx hb dX7_removeReservation_27 rfl (lv_at hl 0 rfl) ?_
        refine fa_getr (k := 397) (j := 398) CX HX1937 fl_X7_7 (by omega) rfl rfl hM.1 dX7_removeReservation_28 ?_
        refine lv_iload_n hx hb dX7_removeReservation_31 rfl (lv_at hl 2 rfl) ?_
        refine lv_aload_n hx hb dX7_removeReservation_32 rfl (lv_at hl 0 rfl) ?_
        refine fa_getr (k := 397) (j := 398) CX HX1937 fl_X7_7 (by omega) rfl rfl hM.1 dX7_removeReservation_33 ?_
        refine lv_iload_n hx hb dX7_removeReservation_36 rfl (lv_at hl 2 rfl) ?_
        refine lv_iconst (v := nI (2)) hx hb dX7_removeReservation_37 (by decide) ?_
        refine fa_iaddN hx hb dX7_removeReservation_38 ?_
        refine fa_iald (k := 398) (j := k + 2) CX HX1937 (by omega) rfl (by omega) (by first | decide | assumption) dX7_removeReservation_39 ?_
        refine fa_iast (k := 398) (j := k) CX HX1937 (by omega) rfl (by omega) (by first | decide | assumption) dX7_removeReservation_40 (fun H locs v1941 e1942 HX1943 => ?_)
        refine lv_iinc (v := nI (k + 1)) (lv' := [(2, .int (nI (k + 1))), (0, .ref (fa_B G + (397))), (1, .int (nI (u)))]) hx hb dX7_removeReservation_41 hl (k := 2) rfl (nI_add (k) 1) (by decide) rfl (fun ls hl => ?_)
        refine lv_goto (tgt := 8) hx hb dX7_removeReservation_44 (by decide) ?_
        exact ih_8 (k + 1) v1941 _ _ _ (by omega) (⟨⟨by omega, by omega⟩, (show fa_MS (v1941 398) from by rw [e1942]; exact fa_MS.u hi_8.2.1 (fa_ok.o (by omega) (by omega) (by omega) (fun p hp => by omega))), ((show v1941 398 14 = nI (n4) from (by rw [e1942, fa_u_n _ _ (by omega)]; exact ((hi_8.2.2.1).trans g4))).trans g4.symm), ((show v1941 398 15 = nI (n5) from (by rw [e1942, fa_u_n _ _ (by omega)]; exact ((hi_8.2.2.2.1).trans g5))).trans g5.symm), ((show v1941 398 16 = nI (n6) from (by rw [e1942, fa_u_n _ _ (by omega)]; exact ((hi_8.2.2.2.2.1).trans g6))).trans g6.symm), (by rw [e1942]; exact fa_fr.u (fa_fr.tr fa_fr.rf (fa_fr.wide hi_8.2.2.2.2.2.1 (by omega) (by omega))) (by omega)), fb_m_rsh hi_8.1.1 hi_8.2.2.2.2.2.2 e1942⟩) (lv_sub hl [1, 2, 0] rfl) HX1943
  exact LOOP_8 (500 - (377 + (2 * u)) + 1) (377 + (2 * u)) v _ _ _ (Nat.lt_succ_self _) (⟨⟨by omega, by omega⟩, hS, rfl, rfl, rfl, fa_fr.rf, fun i => (if_neg (by omega)).symm⟩) (lv_sub hl [1, 2, 0] rfl) HX
set_option maxHeartbeats 4000000 in
set_option maxRecDepth 100000 in
theorem r_reserved (l : Launch) (G : fa_G) (n : Nat) (hn : 406 ≤ n) (v : fa_V) (r : fa_R) (hM : fa_RM r) (hS : fa_MS (v 398)) : fa_MI l G n yX7_reserved cX7_reserved 4 (some .int) 4 [.ref (fa_B G + (397))] v r (fa_voi r (fun x v1 => ((fa_MS (v1 398)) ∧ (v1 398 14 = v 398 14) ∧ (∀ A, fb_okR A → fb_mA (v 398) A → fb_mA (v1 398) (fb_rsvA A (A.g 7)))) ∧ (fa_fr (398) (399) v v1))) := by
  refine fa_startI (by decide +kernel) (Nat.le_of_ble_eq_true rfl) (fun p e s m args below meth c ls Q CX hl HX RET => ?_)
  have hl : lv_has ls 4 [(0, .ref (fa_B G + (397)))] := hl
  have hx := CX.1.1
  have hb := CX.1.2.1
  obtain ⟨n4, en4⟩ : ∃ m, m = fa_N (v 398 14) := ⟨_, rfl⟩
  obtain ⟨hn4, g4⟩ := hS.n4 en4
  obtain ⟨n5, en5⟩ : ∃ m, m = fa_N (v 398 15) := ⟨_, rfl⟩
  obtain ⟨hn5, g5⟩ := hS.n5 en5
  obtain ⟨n6, en6⟩ : ∃ m, m = fa_N (v 398 16) := ⟨_, rfl⟩
  obtain ⟨hn6, g6⟩ := hS.n6 en6
  refine lv_iconst (v := nI (0)) hx hb dX7_reserved_0 (by decide) ?_
  refine lv_istore_n (lv' := [(1, .int (nI (0))), (0, .ref (fa_B G + (397)))]) hx hb dX7_reserved_1 rfl hl (by decide) rfl (fun ls hl => ?_)
  refine lv_aload_n hx hb dX7_reserved_2 rfl (lv_at hl 1 rfl) ?_
  refine fa_getr (k := 397) (j := 398) CX HX fl_X7_7 (by omega) rfl rfl hM.1 dX7_reserved_3 ?_
  refine lv_bipush (v := nI (15)) hx hb dX7_reserved_6 (by decide) ?_
  refine fa_iald (k := 398) (j := 15) CX HX (by omega) rfl (by omega) (by first | decide | assumption) dX7_reserved_8 ?_
  rw [show v 398 15 = nI (n5) from g5]
  refine lv_iconst (v := nI (1)) hx hb dX7_reserved_9 (by decide) ?_
  refine lv_isub hx hb dX7_reserved_10 ?_
  refine lv_istore_n (lv' := [(2, .int ((nI (n5)) - (nI (1)))), (1, .int (nI (0))), (0, .ref (fa_B G + (397)))]) hx hb dX7_reserved_11 rfl hl (by decide) rfl (fun ls hl => ?_)
  have LOOP_12 : ∀ (fu : Nat) (kv : Int32) (kk : Nat) (mm : Nat) (mny : Int32) (v1944 : fa_V) (H : Heap) (locs : List Loc) (ls : Array Slot), kk < fu → (kv = nI kk - nI 1 ∧ (kk ≤ mm ∧ mm ≤ 8) ∧ fa_MS (v1944 398) ∧ v1944 398 14 = v 398 14 ∧ v1944 398 15 = nI mm ∧ fa_fr 398 399 v v1944 ∧ ∀ A, fb_okR A → fb_mA (v 398) A → fb_rvI A (v1944 398) kk) → lv_has ls 4 [(0, .ref (fa_B G + (397))), (1, .int (mny)), (2, .int (kv))] → fa_HX G (n) v1944 r s H locs → W p l e (fa_rm 4) s m args below meth c H locs (0) (0) Q (F0 m 12 ls []) := by
    intro fu
    induction fu with
    | zero => intro kv kk mm mny v1944 H locs ls hk; exact absurd hk (Nat.not_lt_zero _)
    | succ fu ih_12 =>
      intro kv kk mm mny v1944 H locs ls hk_12 hi_12 hl HX1945
      refine lv_iload_n hx hb dX7_reserved_12 rfl (lv_at hl 2 rfl) ?_
      refine lv_if_lt (tgt := 75) hx hb dX7_reserved_13 (by decide) (fun c_13 => ?_) (fun c_13 => ?_)
      · refine lv_iload_n hx hb dX7_reserved_75 rfl (lv_at hl 1 rfl) ?_
        exact RET _ _ _ _ _ _ _ HX1945 dX7_reserved_76 (⟨rfl, ⟨⟨hi_12.2.2.1, (show v1944 398 14 = v 398 14 from ((show v1944 398 14 = nI (n4) from ((hi_12.2.2.2.1).trans g4)).trans g4.symm)), (fun A hok hc => fb_rvI.e (by have z := hi_12.2.2.2.2.2.2 A hok hc; rw [fb_kk0 (by omega) hi_12.1 c_13] at z; exact z))⟩, (fa_fr.tr fa_fr.rf (fa_fr.wide hi_12.2.2.2.2.2.1 (by omega) (by omega)))⟩⟩)
      · obtain ⟨jj, ejj, ejk⟩ := fa_pred (by omega) (show ¬ (nI kk - nI 1 : Int32) < 0 from by rw [← hi_12.1]; exact c_13)
        have ejk := hi_12.1.trans ejk
        refine lv_aload_n hx hb dX7_reserved_16 rfl (lv_at hl 0 rfl) ?_
        refine fa_getr (k := 397) (j := 398) CX HX1945 fl_X7_7 (by omega) rfl rfl hM.1 dX7_reserved_17 ?_
        refine lv_sipush (v := nI (377)) hx hb dX7_reserved_20 (by decide) ?_
        refine lv_iconst (v := nI (2)) hx hb dX7_reserved_23 (by decide) ?_
        refine lv_iload_n hx hb dX7_reserved_24 rfl (lv_at hl 2 rfl) ?_
        rw [show kv = nI (jj) from ejk]
        refine fa_imulN hx hb dX7_reserved_25 ?_
        refine fa_iaddN hx hb dX7_reserved_26 ?_
        refine lv_iconst (v := nI (1)) hx hb dX7_reserved_27 (by decide) ?_
        refine fa_iaddN hx hb dX7_reserved_28 ?_
        refine fa_iald (k := 398) (j := 377 + (2 * jj) + 1) CX HX1945 (by omega) rfl (by omega) (by first | decide | assumption) dX7_reserved_29 ?_
        refine lv_aload_n hx hb dX7_reserved_30 rfl (lv_at hl 0 rfl) ?_
        refine fa_getr (k := 397) (j := 398) CX HX1945 fl_X7_7 (by omega) rfl rfl hM.1 dX7_reserved_31 ?_
        refine lv_bipush (v := nI (7)) hx hb dX7_reserved_34 (by decide) ?_
        refine fa_iald (k := 398) (j := 7) CX HX1945 (by omega) rfl (by omega) (by first | decide | assumption) dX7_reserved_36 ?_
        refine lv_icmp_ne (tgt := 69) hx hb dX7_reserved_37 (by decide) (fun c_37 => ?_) (fun c_37 => ?_)
        · refine lv_iinc (v := kv + (-1)) (lv' := [(2, .int (kv + (-1))), (0, .ref (fa_B G + (397))), (1, .int (mny))]) hx hb dX7_reserved_69 hl (k := 2) rfl rfl (by decide) rfl (fun ls hl => ?_)
          refine lv_goto (tgt := 12) hx hb dX7_reserved_72 (by decide) ?_
          exact ih_12 (kv + (-1)) (jj) (mm) (mny) v1944 _ _ _ (by omega) (⟨(by rw [ejk]; exact fa_predS jj), ⟨by omega, by omega⟩, hi_12.2.2.1, ((show v1944 398 14 = nI (n4) from ((hi_12.2.2.2.1).trans g4)).trans g4.symm), (show v1944 398 15 = nI (mm) from hi_12.2.2.2.2.1), (fa_fr.tr fa_fr.rf (fa_fr.wide hi_12.2.2.2.2.2.1 (by omega) (by omega))), fun A hok hc => by (have z := hi_12.2.2.2.2.2.2 A hok hc; rw [ejj] at z; exact z.no c_37)⟩) (lv_sub hl [1, 2, 0] rfl) HX1945
        · refine lv_aload_n hx hb dX7_reserved_40 rfl (lv_at hl 0 rfl) ?_
          refine lv_aload_n hx hb dX7_reserved_41 rfl (lv_at hl 0 rfl) ?_
          refine lv_aload_n hx hb dX7_reserved_42 rfl (lv_at hl 0 rfl) ?_
          refine fa_getr (k := 397) (j := 398) CX HX1945 fl_X7_7 (by omega) rfl rfl hM.1 dX7_reserved_43 ?_
          refine lv_sipush (v := nI (377)) hx hb dX7_reserved_46 (by decide) ?_
          refine lv_iconst (v := nI (2)) hx hb dX7_reserved_49 (by decide) ?_
          refine lv_iload_n hx hb dX7_reserved_50 rfl (lv_at hl 2 rfl) ?_
          rw [show kv = nI (jj) from ejk]
          refine fa_imulN hx hb dX7_reserved_51 ?_
          refine fa_iaddN hx hb dX7_reserved_52 ?_
          refine fa_iald (k := 398) (j := 377 + (2 * jj)) CX HX1945 (by omega) rfl (by omega) (by first | decide | assumption) dX7_reserved_53 ?_
          refine fa_callVip (As := [.int (v1944 398 (377 + (2 * jj)))]) (rest := [.ref (fa_B G + (397))]) CX HX1945 (r_placeOf l G n hn v1944 r hM hi_12.2.2.1 (v1944 398 (377 + (2 * jj)))) ln_X7_60 (by omega) rfl rfl rfl rfl (Nat.le_of_ble_eq_true rfl) hl.1 ⟨Nat.le_of_ble_eq_true rfl, Nat.le_of_ble_eq_true rfl⟩ ⟨Nat.le_refl _, Nat.le_refl _⟩ dX7_reserved_54 (fun x1947 H locs h1946 HX1948 => ?_)
          have h_pl54 := h1946.1
          have h_plm54 := h1946.2
          refine fa_callViu (As := [.int (x1947)]) (rest := []) CX HX1948 (r_asks l G n hn v1944 r hM hi_12.2.2.1 (x1947) h_pl54) ln_X7_73 (by omega) rfl rfl rfl rfl (Nat.le_of_ble_eq_true rfl) hl.1 ⟨Nat.le_of_ble_eq_true rfl, Nat.le_of_ble_eq_true rfl⟩ ⟨Nat.le_refl _, Nat.le_refl _⟩ dX7_reserved_57 (fun x1950 v1951 H locs h1949 HX1952 => ?_)
          have hS_v1951 := h1949.1.1
          have h_asks := h1949.1.2.2.2.2
          refine lv_istore_n (lv' := [(3, .int (x1950)), (0, .ref (fa_B G + (397))), (1, .int (mny)), (2, .int (kv))]) hx hb dX7_reserved_60 rfl hl (by decide) rfl (fun ls hl => ?_)
          refine lv_aload_n hx hb dX7_reserved_61 rfl (lv_at hl 1 rfl) ?_
          refine lv_iload_n hx hb dX7_reserved_62 rfl (lv_at hl 3 rfl) ?_
          rw [show kv = nI (jj) from ejk]
          refine fa_callVvu (As := [.int (nI (jj))]) (rest := []) CX HX1952 (r_removeReservation l G n hn v1951 r hM hS_v1951 (jj) (by omega) (by rw [(show v1951 398 15 = nI (mm) from ((h1949.1.2.2.1).trans hi_12.2.2.2.2.1)), fa_N_nI (by omega)]; omega)) ln_X7_76 (by omega) rfl rfl rfl rfl (Nat.le_of_ble_eq_true rfl) hl.1 ⟨Nat.le_of_ble_eq_true rfl, Nat.le_of_ble_eq_true rfl⟩ ⟨Nat.le_refl _, Nat.le_refl _⟩ dX7_reserved_63 (fun v1954 H locs h1953 HX1955 => ?_)
          have hS_v1954 := h1953.1.1
          have h_removeReservation := h1953.1.2.2.2
          refine lv_iinc (v := mny + (1)) (lv' := [(1, .int (mny + (1))), (3, .int (x1950)), (0, .ref (fa_B G + (397))), (2, .int (kv))]) hx hb dX7_reserved_66 hl (k := 2) rfl rfl (by decide) rfl (fun ls hl => ?_)
          refine lv_iinc (v := kv + (-1)) (lv' := [(2, .int (kv + (-1))), (1, .int (mny + (1))), (3, .int (x1950)), (0, .ref (fa_B G + (397)))]) hx hb dX7_reserved_69 hl (k := 3) rfl rfl (by decide) rfl (fun ls hl => ?_)
          refine lv_goto (tgt := 12) hx hb dX7_reserved_72 (by decide) ?_
          exact ih_12 (kv + (-1)) (jj) (mm - 1) (mny + (1)) v1954 _ _ _ (by omega) (⟨(by rw [ejk]; exact fa_predS jj), ⟨by omega, by omega⟩, hS_v1954, ((show v1954 398 14 = nI (n4) from ((h1953.1.2.1).trans ((h1949.1.2.1).trans ((hi_12.2.2.2.1).trans g4)))).trans g4.symm), (show v1954 398 15 = nI (mm - 1) from (by rw [h_removeReservation.1, (show v1951 398 15 = nI (mm) from ((h1949.1.2.2.1).trans hi_12.2.2.2.2.1)), fa_N_nI (by omega)])), (fa_fr.tr (fa_fr.tr (fa_fr.tr fa_fr.rf (fa_fr.wide hi_12.2.2.2.2.2.1 (by omega) (by omega))) (fa_fr.wide h1949.2 (by omega) (by omega))) (fa_fr.wide h1953.2 (by omega) (by omega))), fun A hok hc => by (have z := hi_12.2.2.2.2.2.2 A hok hc; rw [ejj] at z; exact z.yes hok (by first | exact c_37 | exact Decidable.not_not.mp c_37) h_plm54 (fun B hB hm p hp e => (h_asks B hB hm p hp e).2) h_removeReservation.2)⟩) (lv_sub hl [3, 1, 0] rfl) HX1955
  exact LOOP_12 (n5 + 1) ((nI (n5)) - (nI (1))) (n5) (n5) (nI (0)) v _ _ _ (Nat.lt_succ_self _) (⟨rfl, ⟨Nat.le_refl _, hn5⟩, hS, rfl, g5, fa_fr.rf, fun A hok hc => fb_rvI.start hc g5 hn5⟩) (lv_sub hl [2, 1, 0] rfl) HX
