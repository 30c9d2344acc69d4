set_option maxHeartbeats 4000000 in
set_option maxRecDepth 100000 in
theorem p1_passDays (l : Launch) (G : fa_G) (n : Nat) (hn : 397 ≤ n) (v : fa_V) (r : fa_R) (b : Nat) (hB : b ∈ fa_bs) (hr : fa_RS r b) (a1 : Int32) (h0 : v b 0 = 0) (h1 : v b 1 = 0) (h3 : v (b + 2) 0 = 0) : fa_MI l G n yX3_passDays cX3_passDays 4 (some .int) 4 [.ref (fa_B G + (b)), .int (a1)] v r (fa_voi r (fun x v1 => (x = if a1 < nI 1 ∨ ¬ a1 ≤ nI 400 then (-2 : Int32) else nI 0) ∧ (fa_fr (b) (b + 1) v v1))) := by
  refine fa_startI (by decide +kernel) (Nat.le_of_ble_eq_true rfl) (fun p e s m args below meth c ls Q CX hl HX RET => ?_)
  have hl : lv_has ls 4 [(0, .ref (fa_B G + (b))), (1, .int (a1))] := hl
  have hx := CX.1.1
  have hb := CX.1.2.1
  refine lv_iload_n hx hb dX3_passDays_0 rfl (lv_at hl 1 rfl) ?_
  refine lv_iconst (v := nI (1)) hx hb dX3_passDays_1 (by decide) ?_
  refine lv_icmp_lt (tgt := 12) hx hb dX3_passDays_2 (by decide) (fun c_2 => ?_) (fun c_2 => ?_)
  · refine lv_bipush (v := (-2 : Int32)) hx hb dX3_passDays_12 (by decide) ?_
    exact RET _ _ _ _ _ _ _ HX dX3_passDays_14 (⟨rfl, ⟨(by simp [c_2]), fa_fr.rf⟩⟩)
  · refine lv_iload_n hx hb dX3_passDays_5 rfl (lv_at hl 1 rfl) ?_
    refine lv_sipush (v := nI (400)) hx hb dX3_passDays_6 (by decide) ?_
    refine lv_icmp_le (tgt := 15) hx hb dX3_passDays_9 (by decide) (fun c_9 => ?_) (fun c_9 => ?_)
    · refine lv_aload_n hx hb dX3_passDays_15 rfl (lv_at hl 0 rfl) ?_
      refine fa_geti (k := b) CX HX fl_X3_45 (fa_lt hB 0 (by decide) hn) (fa_s0 hB) rfl dX3_passDays_16 ?_
      refine lv_iload_n hx hb dX3_passDays_19 rfl (lv_at hl 1 rfl) ?_
      refine lv_iadd hx hb dX3_passDays_20 ?_
      refine lv_sipush (v := nI (9999)) hx hb dX3_passDays_21 (by decide) ?_
      refine lv_icmp_le (tgt := 30) hx hb dX3_passDays_24 (by decide) (fun c_24 => ?_) (fun c_24 => ?_)
      · obtain ⟨ka, hka1, hka, eka⟩ := fa_natIn (by decide) c_2 c_9
        refine lv_iconst (v := nI (0)) hx hb dX3_passDays_30 (by decide) ?_
        refine lv_istore_n (lv' := [(2, .int (nI (0))), (0, .ref (fa_B G + (b))), (1, .int (a1))]) hx hb dX3_passDays_31 rfl hl (by decide) rfl (fun ls hl => ?_)
        refine lv_iconst (v := nI (0)) hx hb dX3_passDays_32 (by decide) ?_
        refine lv_istore_n (lv' := [(3, .int (nI (0))), (2, .int (nI (0))), (0, .ref (fa_B G + (b))), (1, .int (a1))]) hx hb dX3_passDays_33 rfl hl (by decide) rfl (fun ls hl => ?_)
        have LOOP_34 : ∀ (fu : Nat) (j : Nat) (v140 : fa_V) (H : Heap) (locs : List Loc) (ls : Array Slot), ka - j < fu → (j ≤ ka ∧ v140 b 1 = 0 ∧ fa_fr b (b + 1) v v140) → lv_has ls 4 [(0, .ref (fa_B G + (b))), (1, .int (a1)), (2, .int (nI (0))), (3, .int (nI (j)))] → fa_HX G (n) v140 r s H locs → W p l e (fa_rm 4) s m args below meth c H locs (0) (0) Q (F0 m 34 ls []) := by
          intro fu
          induction fu with
          | zero => intro j v140 H locs ls hk; exact absurd hk (Nat.not_lt_zero _)
          | succ fu ih_34 =>
            intro j v140 H locs ls hk_34 hi_34 hl HX141
            have hq1 := hi_34.2.1
            have hq3 : v140 (b + 2) 0 = 0 := by rw [hi_34.2.2 (b + 2) (by omega)]; exact h3
            refine lv_iload_n hx hb dX3_passDays_34 rfl (lv_at hl 3 rfl) ?_
            refine lv_iload_n hx hb dX3_passDays_35 rfl (lv_at hl 1 rfl) ?_
            refine lv_icmp_ge (tgt := 52) hx hb dX3_passDays_36 (by decide) (fun c_36 => ?_) (fun c_36 => ?_)
            · refine lv_iload_n hx hb dX3_passDays_52 rfl (lv_at hl 2 rfl) ?_
              exact RET _ _ _ _ _ _ _ HX141 dX3_passDays_53 (⟨rfl, ⟨(by rw [if_neg]; intro z; rcases z with z | z; exact c_2 z; exact z c_9), (fa_fr.tr fa_fr.rf (fa_fr.wide hi_34.2.2 (by omega) (by omega)))⟩⟩)
            · have hjk : j < ka := by
                rw [eka] at c_36
                exact Nat.lt_of_not_le (fun q => c_36 ((nI_leI (by omega) (by omega)).mpr q))
              refine lv_iload_n hx hb dX3_passDays_39 rfl (lv_at hl 2 rfl) ?_
              refine lv_aload_n hx hb dX3_passDays_40 rfl (lv_at hl 0 rfl) ?_
              refine fa_callViu (As := []) (rest := [.int (nI (0))]) CX HX141 (p1_passDay l G n hn v140 r b hB hr hq1 hq3) ln_X3_135 (fa_lt hB 0 (by decide) hn) (fa_s0 hB) rfl rfl rfl (Nat.le_of_ble_eq_true rfl) hl.1 ⟨Nat.le_of_ble_eq_true rfl, Nat.le_of_ble_eq_true rfl⟩ ⟨Nat.le_refl _, Nat.le_refl _⟩ dX3_passDays_41 (fun x143 v144 H locs h142 HX145 => ?_)
              have h_pd := h142.1
              refine lv_iadd hx hb dX3_passDays_44 ?_
              rw [show (nI (0)) + (x143) = nI (0) from (by rw [h_pd.1]; rfl)]
              refine lv_istore_n (lv' := [(2, .int (nI (0))), (0, .ref (fa_B G + (b))), (1, .int (a1)), (3, .int (nI (j)))]) hx hb dX3_passDays_45 rfl hl (by decide) rfl (fun ls hl => ?_)
              refine lv_iinc (v := nI (j + 1)) (lv' := [(3, .int (nI (j + 1))), (2, .int (nI (0))), (0, .ref (fa_B G + (b))), (1, .int (a1))]) hx hb dX3_passDays_46 hl (k := 3) rfl (nI_add (j) 1) (by decide) rfl (fun ls hl => ?_)
              refine lv_goto (tgt := 34) hx hb dX3_passDays_49 (by decide) ?_
              exact ih_34 (j + 1) v144 _ _ _ (by omega) (⟨by omega, (by rw [h_pd.2 1 (by decide) (by decide)]; exact hq1), (fa_fr.tr (fa_fr.tr fa_fr.rf (fa_fr.wide hi_34.2.2 (by omega) (by omega))) (fa_fr.wide h142.2 (by omega) (by omega)))⟩) (lv_sub hl [2, 3, 1, 0] rfl) HX145
        exact LOOP_34 (ka - 0 + 1) (0) v _ _ _ (Nat.lt_succ_self _) (⟨Nat.zero_le _, h1, fa_fr.rf⟩) (lv_sub hl [2, 3, 1, 0] rfl) HX
      · exact absurd (by rw [h0]; exact fa_add9999 c_9) c_24
    · refine lv_bipush (v := (-2 : Int32)) hx hb dX3_passDays_12 (by decide) ?_
      exact RET _ _ _ _ _ _ _ HX dX3_passDays_14 (⟨rfl, ⟨(by simp [c_2, c_9]), fa_fr.rf⟩⟩)
set_option maxHeartbeats 4000000 in
set_option maxRecDepth 100000 in
theorem p1_changeSetting (l : Launch) (G : fa_G) (n : Nat) (hn : 397 ≤ n) (v : fa_V) (r : fa_R) (b : Nat) (hB : b ∈ fa_bs) (hr : fa_RS r b) (a1 a2 : Int32) : fa_MI l G n yX3_changeSetting cX3_changeSetting 4 (some .int) 2 [.ref (fa_B G + (b)), .int (a1), .int (a2)] v r (fa_voi r (fun x v1 => (x = if a1 < 0 ∨ ¬ a1 < nI 7 then (-1 : Int32) else if a2 < fa_stV 1 a1.toNatClampNeg ∨ ¬ a2 ≤ fa_stV 2 a1.toNatClampNeg then (-2 : Int32) else v (b + 7) a1.toNatClampNeg) ∧ (fa_fr (b) (b + 56) v v1))) := by
  refine fa_startI (by decide +kernel) (Nat.le_of_ble_eq_true rfl) (fun p e s m args below meth c ls Q CX hl HX RET => ?_)
  have hl : lv_has ls 4 [(0, .ref (fa_B G + (b))), (1, .int (a1)), (2, .int (a2))] := hl
  have hx := CX.1.1
  have hb := CX.1.2.1
  refine lv_iload_n hx hb dX3_changeSetting_0 rfl (lv_at hl 1 rfl) ?_
  refine fa_callSNip (As := [.int (a1)]) (rest := []) CX HX (c_X6_isNoSetting l G n v r (a1)) (by decide +kernel) ln_X3_138 rfl rfl (Nat.le_of_ble_eq_true rfl) hl.1 ⟨Nat.le_of_ble_eq_true rfl, Nat.le_of_ble_eq_true rfl⟩ ⟨Nat.le_refl _, Nat.le_refl _⟩ dX3_changeSetting_1 (fun x147 H locs h146 HX148 => ?_)
  have h_ns := h146
  refine lv_if_eq (tgt := 9) hx hb dX3_changeSetting_4 (by decide) (fun c_4 => ?_) (fun c_4 => ?_)
  · obtain ⟨j, hj7, ej⟩ := fa_ix7 (by decide) (fa_ifn h_ns c_4)
    have hjc : a1.toNatClampNeg = j := by rw [ej]; exact nI_clamp (by omega)
    refine lv_iload_n hx hb dX3_changeSetting_9 rfl (lv_at hl 2 rfl) ?_
    refine fa_getst (j := 1) CX HX148 (by decide) (by decide +kernel) dX3_changeSetting_10 ?_
    refine lv_iload_n hx hb dX3_changeSetting_13 rfl (lv_at hl 1 rfl) ?_
    rw [show a1 = nI (j) from ej]
    refine fa_sald (j := 1) (i := j) CX HX148 (by decide) (by omega) dX3_changeSetting_14 ?_
    refine lv_icmp_lt (tgt := 27) hx hb dX3_changeSetting_15 (by decide) (fun c_15 => ?_) (fun c_15 => ?_)
    · refine lv_bipush (v := (-2 : Int32)) hx hb dX3_changeSetting_27 (by decide) ?_
      exact RET _ _ _ _ _ _ _ HX148 dX3_changeSetting_29 (⟨rfl, ⟨(by rw [if_neg (fa_ifn h_ns c_4), if_pos (by rw [hjc]; first | exact Or.inl c_15 | exact Or.inr c_24)]), fa_fr.rf⟩⟩)
    · refine lv_iload_n hx hb dX3_changeSetting_18 rfl (lv_at hl 2 rfl) ?_
      refine fa_getst (j := 2) CX HX148 (by decide) (by decide +kernel) dX3_changeSetting_19 ?_
      refine lv_iload_n hx hb dX3_changeSetting_22 rfl (lv_at hl 1 rfl) ?_
      rw [show a1 = nI (j) from ej]
      refine fa_sald (j := 2) (i := j) CX HX148 (by decide) (by omega) dX3_changeSetting_23 ?_
      refine lv_icmp_le (tgt := 30) hx hb dX3_changeSetting_24 (by decide) (fun c_24 => ?_) (fun c_24 => ?_)
      · refine lv_aload_n hx hb dX3_changeSetting_30 rfl (lv_at hl 0 rfl) ?_
        refine fa_getr (k := b) (j := b + 7) CX HX148 fl_X3_31 (fa_lt hB 0 (by decide) hn) (fa_s0 hB) rfl hr.2.2.2.1 dX3_changeSetting_31 ?_
        refine lv_iload_n hx hb dX3_changeSetting_34 rfl (lv_at hl 1 rfl) ?_
        rw [show a1 = nI (j) from ej]
        refine fa_iald (k := b + 7) (j := j) CX HX148 (fa_lt hB 7 (by decide) hn) (fa_s7 hB) (by omega) (by first | decide | assumption) dX3_changeSetting_35 ?_
        refine lv_istore_n (lv' := [(3, .int (v (b + 7) j)), (0, .ref (fa_B G + (b))), (1, .int (a1)), (2, .int (a2))]) hx hb dX3_changeSetting_36 rfl hl (by decide) rfl (fun ls hl => ?_)
        refine lv_aload_n hx hb dX3_changeSetting_37 rfl (lv_at hl 1 rfl) ?_
        refine fa_getr (k := b) (j := b + 7) CX HX148 fl_X3_31 (fa_lt hB 0 (by decide) hn) (fa_s0 hB) rfl hr.2.2.2.1 dX3_changeSetting_38 ?_
        refine lv_iload_n hx hb dX3_changeSetting_41 rfl (lv_at hl 2 rfl) ?_
        rw [show a1 = nI (j) from ej]
        refine lv_iload_n hx hb dX3_changeSetting_42 rfl (lv_at hl 3 rfl) ?_
        refine fa_iast (k := b + 7) (j := j) CX HX148 (fa_lt hB 7 (by decide) hn) (fa_s7 hB) (by omega) (by first | decide | assumption) dX3_changeSetting_43 (fun H locs v149 e150 HX151 => ?_)
        refine lv_iload_n hx hb dX3_changeSetting_44 rfl (lv_at hl 0 rfl) ?_
        exact RET _ _ _ _ _ _ _ HX151 dX3_changeSetting_45 (⟨rfl, ⟨(by rw [if_neg (fa_ifn h_ns c_4), if_neg (by rw [hjc]; intro z; rcases z with z | z; exact c_15 z; exact z c_24), hjc]), (by rw [e150]; exact fa_fr.u fa_fr.rf (by omega))⟩⟩)
      · refine lv_bipush (v := (-2 : Int32)) hx hb dX3_changeSetting_27 (by decide) ?_
        exact RET _ _ _ _ _ _ _ HX148 dX3_changeSetting_29 (⟨rfl, ⟨(by rw [if_neg (fa_ifn h_ns c_4), if_pos (by rw [hjc]; first | exact Or.inl c_15 | exact Or.inr c_24)]), fa_fr.rf⟩⟩)
  · refine lv_iconst (v := (-1 : Int32)) hx hb dX3_changeSetting_7 (by decide) ?_
    exact RET _ _ _ _ _ _ _ HX148 dX3_changeSetting_8 (⟨rfl, ⟨(by rw [if_pos (fa_ift h_ns c_4)]), fa_fr.rf⟩⟩)
