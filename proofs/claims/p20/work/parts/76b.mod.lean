set_option maxHeartbeats 4000000 in
set_option maxRecDepth 100000 in
theorem r_passes (l : Launch) (G : fa_G) (n : Nat) (hn : 406 ≤ n) (v : fa_V) (r : fa_R) (hM : fa_RM r) (hS : fa_MS (v 398)) (a1 : Int32) : fa_MI l G n yX7_passes cX7_passes 4 (some .int) 8 [.ref (fa_B G + (397)), .int (a1)] v r (fa_voi r (fun x v1 => ((fa_MS (v1 398)) ∧ (fa_f2 v v1) ∧ (∀ A, fb_okA A → fb_mA (v 398) A → x = (fb_passA A a1).1 ∧ fb_mA (v1 398) (fb_passA A a1).2)) ∧ (fa_fr (398) (403) v v1))) := by
  refine fa_startI (by decide +kernel) (Nat.le_of_ble_eq_true rfl) (fun p e s m args below meth c ls Q CX hl HX RET => ?_)
  have hl : lv_has ls 4 [(0, .ref (fa_B G + (397))), (1, .int (a1))] := hl
  have hx := CX.1.1
  have hb := CX.1.2.1
  obtain ⟨n4, en4⟩ : ∃ m, m = fa_N (v 398 14) := ⟨_, rfl⟩
  obtain ⟨hn4, g4⟩ := hS.n4 en4
  obtain ⟨n5, en5⟩ : ∃ m, m = fa_N (v 398 15) := ⟨_, rfl⟩
  obtain ⟨hn5, g5⟩ := hS.n5 en5
  obtain ⟨n6, en6⟩ : ∃ m, m = fa_N (v 398 16) := ⟨_, rfl⟩
  obtain ⟨hn6, g6⟩ := hS.n6 en6
  refine lv_iload_n hx hb dX7_passes_0 rfl (lv_at hl 1 rfl) ?_
  refine lv_iconst (v := nI (1)) hx hb dX7_passes_1 (by decide) ?_
  refine lv_sipush (v := nI (400)) hx hb dX7_passes_2 (by decide) ?_
  refine fa_callSip (As := [.int (a1), .int (nI (1)), .int (nI (400))]) (rest := []) CX HX (r_in l G n v r (a1) (nI (1)) (nI (400))) ln_X7_86 rfl rfl (Nat.le_of_ble_eq_true rfl) hl.1 ⟨Nat.le_of_ble_eq_true rfl, Nat.le_of_ble_eq_true rfl⟩ ⟨Nat.le_refl _, Nat.le_refl _⟩ dX7_passes_5 (fun x1968 H locs h1967 HX1969 => ?_)
  have h_in_5 := h1967
  refine lv_if_ne (tgt := 14) hx hb dX7_passes_8 (by decide) (fun c_8 => ?_) (fun c_8 => ?_)
  · have hin1 := fa_in1 h_in_5 c_8
    refine lv_aload_n hx hb dX7_passes_14 rfl (lv_at hl 0 rfl) ?_
    refine fa_getr (k := 397) (j := 398) CX HX1969 fl_X7_7 (by omega) rfl rfl hM.1 dX7_passes_15 ?_
    refine lv_bipush (v := nI (7)) hx hb dX7_passes_18 (by decide) ?_
    refine fa_iald (k := 398) (j := 7) CX HX1969 (by omega) rfl (by omega) (by first | decide | assumption) dX7_passes_20 ?_
    refine lv_iload_n hx hb dX7_passes_21 rfl (lv_at hl 1 rfl) ?_
    refine lv_iadd hx hb dX7_passes_22 ?_
    refine lv_sipush (v := nI (9999)) hx hb dX7_passes_23 (by decide) ?_
    refine lv_icmp_le (tgt := 32) hx hb dX7_passes_26 (by decide) (fun c_26 => ?_) (fun c_26 => ?_)
    · obtain ⟨ka, hka1, hka, eka⟩ := fa_natIn (by decide) (fun z => hin1 (Or.inl z)) (Int32.not_lt.mp (fun z => hin1 (Or.inr z)))
      refine lv_iconst (v := nI (0)) hx hb dX7_passes_32 (by decide) ?_
      refine lv_istore_n (lv' := [(2, .int (nI (0))), (0, .ref (fa_B G + (397))), (1, .int (a1))]) hx hb dX7_passes_33 rfl hl (by decide) rfl (fun ls hl => ?_)
      refine lv_iconst (v := nI (0)) hx hb dX7_passes_34 (by decide) ?_
      refine lv_istore_n (lv' := [(3, .int (nI (0))), (2, .int (nI (0))), (0, .ref (fa_B G + (397))), (1, .int (a1))]) hx hb dX7_passes_35 rfl hl (by decide) rfl (fun ls hl => ?_)
      have LOOP_36 : ∀ (fu : Nat) (j : Nat) (mny : Int32) (v1970 : fa_V) (H : Heap) (locs : List Loc) (ls : Array Slot), ka - j < fu → (j ≤ ka ∧ fa_MS (v1970 398) ∧ fa_f2 v v1970 ∧ ∀ A, fb_okA A → fb_mA (v 398) A → A.g 7 + a1 ≤ nI 9999 → mny = (fb_daysA A j).1 ∧ fb_mA (v1970 398) (fb_daysA A j).2) → lv_has ls 4 [(0, .ref (fa_B G + (397))), (1, .int (a1)), (2, .int (mny)), (3, .int (nI (j)))] → fa_HX G (n) v1970 r s H locs → W p l e (fa_rm 8) s m args below meth c H locs (0) (0) Q (F0 m 36 ls []) := by
        intro fu
        induction fu with
        | zero => intro j mny v1970 H locs ls hk; exact absurd hk (Nat.not_lt_zero _)
        | succ fu ih_36 =>
          intro j mny v1970 H locs ls hk_36 hi_36 hl HX1971
          refine lv_iload_n hx hb dX7_passes_36 rfl (lv_at hl 3 rfl) ?_
          refine lv_iload_n hx hb dX7_passes_37 rfl (lv_at hl 1 rfl) ?_
          refine lv_icmp_ge (tgt := 54) hx hb dX7_passes_38 (by decide) (fun c_38 => ?_) (fun c_38 => ?_)
          · have hjn : j = ka := by
              rw [eka] at c_38
              have := fa_leN (by omega) (by omega) c_38
              omega
            refine lv_iload_n hx hb dX7_passes_54 rfl (lv_at hl 2 rfl) ?_
            exact RET _ _ _ _ _ _ _ HX1971 dX7_passes_55 (⟨rfl, ⟨⟨hi_36.2.1, (fa_f2.tr fa_f2.rf hi_36.2.2.1), (fun A hok hc => by (have h9 : A.g 7 + a1 ≤ nI 9999 := (by rw [← hc.g (k := 7) (by decide)]; exact c_26); rw [fb_passA_3 (fun z => hin1 (z.elim Or.inl (fun y => Or.inr (Int32.not_le.mp y)))) h9 eka (by omega)]; have z := hi_36.2.2.2 A hok hc h9; rw [show j = ka by exact hjn] at z; exact z))⟩, (fa_fr.tr fa_fr.rf (fa_fr.wide (fa_f2.fr hi_36.2.2.1) (by omega) (by omega)))⟩⟩)
          · have hjk : j < ka := by
              rw [eka] at c_38
              exact fa_ltN (by omega) (by omega) c_38
            refine lv_iload_n hx hb dX7_passes_41 rfl (lv_at hl 2 rfl) ?_
            refine lv_aload_n hx hb dX7_passes_42 rfl (lv_at hl 0 rfl) ?_
            refine fa_callViu (As := []) (rest := [.int (mny)]) CX HX1971 (r_day l G n hn v1970 r hM hi_36.2.1 ) ln_X7_99 (by omega) rfl rfl rfl rfl (Nat.le_of_ble_eq_true rfl) hl.1 ⟨Nat.le_of_ble_eq_true rfl, Nat.le_of_ble_eq_true rfl⟩ ⟨Nat.le_refl _, Nat.le_refl _⟩ dX7_passes_43 (fun x1973 v1974 H locs h1972 HX1975 => ?_)
            have hS_v1974 := h1972.1.1
            have h_day := h1972.1.2.2
            refine lv_iadd hx hb dX7_passes_46 ?_
            refine lv_istore_n (lv' := [(2, .int ((mny) + (x1973))), (0, .ref (fa_B G + (397))), (1, .int (a1)), (3, .int (nI (j)))]) hx hb dX7_passes_47 rfl hl (by decide) rfl (fun ls hl => ?_)
            refine lv_iinc (v := nI (j + 1)) (lv' := [(3, .int (nI (j + 1))), (2, .int ((mny) + (x1973))), (0, .ref (fa_B G + (397))), (1, .int (a1))]) hx hb dX7_passes_48 hl (k := 3) rfl (nI_add (j) 1) (by decide) rfl (fun ls hl => ?_)
            refine lv_goto (tgt := 36) hx hb dX7_passes_51 (by decide) ?_
            exact ih_36 (j + 1) ((mny) + (x1973)) v1974 _ _ _ (by omega) (⟨by omega, hS_v1974, (fa_f2.tr (fa_f2.tr fa_f2.rf hi_36.2.2.1) h1972.1.2.1), fun A hok hc h9 => by (have z := hi_36.2.2.2 A hok hc h9; obtain ⟨d, hd, e⟩ := hok.1.2.1; have h8 : d + ka ≤ 9999 := (by rw [e, eka, nI_add] at h9; exact (nI_leI (by omega) (by decide)).mp h9); have y := hok.days e j (by omega); have w := h_day _ y.1 (by rw [y.2]; exact nI_lt (by omega) (by decide)) z.2; exact ⟨by (rw [z.1, w.1]; rfl), w.2⟩)⟩) (lv_sub hl [2, 3, 1, 0] rfl) HX1975
      exact LOOP_36 (ka - 0 + 1) (0) (nI (0)) v _ _ _ (Nat.lt_succ_self _) (⟨Nat.zero_le _, hS, fa_f2.rf, fun A hok hc _ => ⟨rfl, hc⟩⟩) (lv_sub hl [2, 3, 1, 0] rfl) HX1969
    · refine lv_bipush (v := (-5 : Int32)) hx hb dX7_passes_29 (by decide) ?_
      exact RET _ _ _ _ _ _ _ HX1969 dX7_passes_31 (⟨rfl, ⟨⟨hS, fa_f2.rf, (fun A hok hc => by (rw [fb_passA_2 (fun z => hin1 (z.elim Or.inl (fun y => Or.inr (Int32.not_le.mp y)))) (by rw [← hc.g (k := 7) (by decide)]; exact c_26)]; exact ⟨rfl, hc⟩))⟩, fa_fr.rf⟩⟩)
  · refine lv_bipush (v := (-2 : Int32)) hx hb dX7_passes_11 (by decide) ?_
    exact RET _ _ _ _ _ _ _ HX1969 dX7_passes_13 (⟨rfl, ⟨⟨hS, fa_f2.rf, (fun A hok hc => by (rw [fb_passA_1 ((fa_in0 h_in_5 (by first | exact c_8 | exact Decidable.not_not.mp c_8)).elim Or.inl (fun y => Or.inr (Int32.not_le.mpr y)))]; exact ⟨rfl, hc⟩))⟩, fa_fr.rf⟩⟩)
