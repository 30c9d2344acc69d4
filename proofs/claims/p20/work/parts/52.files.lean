set_option maxHeartbeats 4000000 in
set_option maxRecDepth 100000 in
theorem g_holdersOn (l : Launch) (G : fa_G) (n : Nat) (hn : 397 ≤ n) (v : fa_V) (r : fa_R) (b : Nat) (hB : b ∈ fa_bs) (hr : fa_RS r b) (hI : fa_IS v b) (q : Nat) (a1 : Int32) (hq : fa_isF b q) : fa_MI l G n yX4_holdersOn cX4_holdersOn 5 (some .int) 1 [.ref (fa_B G + (q)), .int (a1)] v r (fun x w => w = (v, r) ∧ (x = fa_hold v q a1)) := by
  refine fa_startI (by decide +kernel) (Nat.le_of_ble_eq_true rfl) (fun p e s m args below meth c ls Q CX hl HX RET => ?_)
  have hl : lv_has ls 5 [(0, .ref (fa_B G + (q))), (1, .int (a1))] := hl
  have hx := CX.1.1
  have hb := CX.1.2.1
  refine lv_iconst (v := nI (0)) hx hb dX4_holdersOn_0 (by decide) ?_
  refine lv_istore_n (lv' := [(2, .int (nI (0))), (0, .ref (fa_B G + (q))), (1, .int (a1))]) hx hb dX4_holdersOn_1 rfl hl (by decide) rfl (fun ls hl => ?_)
  refine lv_iconst (v := nI (0)) hx hb dX4_holdersOn_2 (by decide) ?_
  refine lv_istore_n (lv' := [(3, .int (nI (0))), (2, .int (nI (0))), (0, .ref (fa_B G + (q))), (1, .int (a1))]) hx hb dX4_holdersOn_3 rfl hl (by decide) rfl (fun ls hl => ?_)
  have LOOP_4 : ∀ (fu : Nat) (j : Nat) (mk : Int32) (H : Heap) (locs : List Loc) (ls : Array Slot), 8 - j < fu → (j ≤ 8 ∧ mk = fa_mask (fun h => decide (v (q + 1) h = nI 10000 ∨ ¬ v (q + 1) h < a1)) j) → lv_has ls 5 [(0, .ref (fa_B G + (q))), (1, .int (a1)), (2, .int (mk)), (3, .int (nI (j)))] → fa_HX G (n) v r s H locs → W p l e (fa_rm 1) s m args below meth c H locs (0) (0) Q (F0 m 4 ls []) := by
    intro fu
    induction fu with
    | zero => intro j mk H locs ls hk; exact absurd hk (Nat.not_lt_zero _)
    | succ fu ih_4 =>
      intro j mk H locs ls hk_4 hi_4 hl HX884
      refine lv_iload_n hx hb dX4_holdersOn_4 rfl (lv_at hl 3 rfl) ?_
      refine lv_bipush (v := nI (8)) hx hb dX4_holdersOn_5 (by decide) ?_
      refine lv_icmp_ge (tgt := 44) hx hb dX4_holdersOn_7 (by decide) (fun c_7 => ?_) (fun c_7 => ?_)
      · have he : j = 8 := by
          have := fa_leN (by omega) (by omega) c_7
          omega
        refine lv_iload_n hx hb dX4_holdersOn_44 rfl (lv_at hl 2 rfl) ?_
        exact RET _ _ _ _ _ _ _ HX884 dX4_holdersOn_45 (⟨rfl, (by rw [hi_4.2, he]; rfl)⟩)
      · have hj := fa_ltN (by omega) (by omega) c_7
        refine lv_aload_n hx hb dX4_holdersOn_10 rfl (lv_at hl 0 rfl) ?_
        refine fa_getr (k := q) (j := q + 1) CX HX884 fl_X4_9 (fa_isF_lt hB hq hn) (fa_isF_sh hB hq) rfl (fa_isF_ref hr hq) dX4_holdersOn_11 ?_
        refine lv_iload_n hx hb dX4_holdersOn_14 rfl (lv_at hl 3 rfl) ?_
        refine fa_iald (k := q + 1) (j := j) CX HX884 (fa_isF_lt1 hB hq hn) (fa_isF_sh1 hB hq) (by omega) (by first | decide | assumption) dX4_holdersOn_15 ?_
        refine lv_istore (lv' := [(4, .int (v (q + 1) j)), (0, .ref (fa_B G + (q))), (1, .int (a1)), (2, .int (mk)), (3, .int (nI (j)))]) hx hb dX4_holdersOn_16 hl (by decide) rfl (fun ls hl => ?_)
        refine lv_iload hx hb dX4_holdersOn_18 (lv_at hl 0 rfl) ?_
        refine lv_sipush (v := nI (10000)) hx hb dX4_holdersOn_20 (by decide) ?_
        refine lv_icmp_eq (tgt := 32) hx hb dX4_holdersOn_23 (by decide) (fun c_23 => ?_) (fun c_23 => ?_)
        · refine lv_iload_n hx hb dX4_holdersOn_32 rfl (lv_at hl 3 rfl) ?_
          refine lv_iconst (v := nI (1)) hx hb dX4_holdersOn_33 (by decide) ?_
          refine lv_iload_n hx hb dX4_holdersOn_34 rfl (lv_at hl 4 rfl) ?_
          refine lv_ishl hx hb dX4_holdersOn_35 ?_
          refine lv_ior hx hb dX4_holdersOn_36 ?_
          refine lv_istore_n (lv' := [(2, .int ((mk) ||| ((nI (1)) <<< ((nI (j)) &&& 31)))), (4, .int (v (q + 1) j)), (0, .ref (fa_B G + (q))), (1, .int (a1)), (3, .int (nI (j)))]) hx hb dX4_holdersOn_37 rfl hl (by decide) rfl (fun ls hl => ?_)
          refine lv_iinc (v := nI (j + 1)) (lv' := [(3, .int (nI (j + 1))), (2, .int ((mk) ||| ((nI (1)) <<< ((nI (j)) &&& 31)))), (4, .int (v (q + 1) j)), (0, .ref (fa_B G + (q))), (1, .int (a1))]) hx hb dX4_holdersOn_38 hl (k := 4) rfl (nI_add (j) 1) (by decide) rfl (fun ls hl => ?_)
          refine lv_goto (tgt := 4) hx hb dX4_holdersOn_41 (by decide) ?_
          exact ih_4 (j + 1) ((mk) ||| ((nI (1)) <<< ((nI (j)) &&& 31)))  _ _ _ (by omega) (⟨by omega, by rw [hi_4.2]; exact fa_mask_t (by simp only [decide_eq_true_eq]; exact Or.inl c_23)⟩) (lv_sub hl [3, 4, 1, 0] rfl) HX884
        · refine lv_iload hx hb dX4_holdersOn_26 (lv_at hl 0 rfl) ?_
          refine lv_iload_n hx hb dX4_holdersOn_28 rfl (lv_at hl 2 rfl) ?_
          refine lv_icmp_lt (tgt := 38) hx hb dX4_holdersOn_29 (by decide) (fun c_29 => ?_) (fun c_29 => ?_)
          · refine lv_iinc (v := nI (j + 1)) (lv' := [(3, .int (nI (j + 1))), (4, .int (v (q + 1) j)), (0, .ref (fa_B G + (q))), (1, .int (a1)), (2, .int (mk))]) hx hb dX4_holdersOn_38 hl (k := 4) rfl (nI_add (j) 1) (by decide) rfl (fun ls hl => ?_)
            refine lv_goto (tgt := 4) hx hb dX4_holdersOn_41 (by decide) ?_
            exact ih_4 (j + 1) (mk)  _ _ _ (by omega) (⟨by omega, by rw [hi_4.2]; exact fa_mask_f (by simp only [decide_eq_true_eq]; exact fun z => z.elim c_23 (fun z => z c_29))⟩) (lv_sub hl [2, 3, 4, 0] rfl) HX884
          · refine lv_iload_n hx hb dX4_holdersOn_32 rfl (lv_at hl 3 rfl) ?_
            refine lv_iconst (v := nI (1)) hx hb dX4_holdersOn_33 (by decide) ?_
            refine lv_iload_n hx hb dX4_holdersOn_34 rfl (lv_at hl 4 rfl) ?_
            refine lv_ishl hx hb dX4_holdersOn_35 ?_
            refine lv_ior hx hb dX4_holdersOn_36 ?_
            refine lv_istore_n (lv' := [(2, .int ((mk) ||| ((nI (1)) <<< ((nI (j)) &&& 31)))), (4, .int (v (q + 1) j)), (0, .ref (fa_B G + (q))), (1, .int (a1)), (3, .int (nI (j)))]) hx hb dX4_holdersOn_37 rfl hl (by decide) rfl (fun ls hl => ?_)
            refine lv_iinc (v := nI (j + 1)) (lv' := [(3, .int (nI (j + 1))), (2, .int ((mk) ||| ((nI (1)) <<< ((nI (j)) &&& 31)))), (4, .int (v (q + 1) j)), (0, .ref (fa_B G + (q))), (1, .int (a1))]) hx hb dX4_holdersOn_38 hl (k := 4) rfl (nI_add (j) 1) (by decide) rfl (fun ls hl => ?_)
            refine lv_goto (tgt := 4) hx hb dX4_holdersOn_41 (by decide) ?_
            exact ih_4 (j + 1) ((mk) ||| ((nI (1)) <<< ((nI (j)) &&& 31)))  _ _ _ (by omega) (⟨by omega, by rw [hi_4.2]; exact fa_mask_t (by simp only [decide_eq_true_eq]; exact Or.inr c_29)⟩) (lv_sub hl [3, 4, 1, 0] rfl) HX884
  exact LOOP_4 (8 - 0 + 1) (0) (nI (0))  _ _ _ (Nat.lt_succ_self _) (⟨Nat.zero_le _, rfl⟩) (lv_sub hl [2, 3, 1, 0] rfl) HX
set_option maxHeartbeats 4000000 in
set_option maxRecDepth 100000 in
theorem g_dueDay (l : Launch) (G : fa_G) (n : Nat) (hn : 397 ≤ n) (v : fa_V) (r : fa_R) (b : Nat) (hB : b ∈ fa_bs) (hr : fa_RS r b) (hI : fa_IS v b) (qa : Nat) (hqa : fa_isF b qa) : fa_MI l G n yX3_dueDay cX3_dueDay 4 (some .int) 1 [.ref (fa_B G + (b)), .ref (fa_B G + (qa))] v r (fun x w => w = (v, r) ∧ (x = fa_due v b qa)) := by
  refine fa_startI (by decide +kernel) (Nat.le_of_ble_eq_true rfl) (fun p e s m args below meth c ls Q CX hl HX RET => ?_)
  have hl : lv_has ls 4 [(0, .ref (fa_B G + (b))), (1, .ref (fa_B G + (qa)))] := hl
  have hx := CX.1.1
  have hb := CX.1.2.1
  obtain ⟨kd, hkd, ekd⟩ := hI.kind hqa
  refine lv_aload_n hx hb dX3_dueDay_0 rfl (lv_at hl 0 rfl) ?_
  refine fa_getr (k := b) (j := b + 7) CX HX fl_X3_31 (fa_lt hB 0 (by decide) hn) (fa_s0 hB) rfl hr.2.2.2.1 dX3_dueDay_1 ?_
  refine lv_iconst (v := nI (0)) hx hb dX3_dueDay_4 (by decide) ?_
  refine lv_aload_n hx hb dX3_dueDay_5 rfl (lv_at hl 1 rfl) ?_
  refine fa_geti (k := qa) CX HX fl_X3_193 (fa_isF_lt hB hqa hn) (fa_isF_sh hB hqa) rfl dX3_dueDay_6 ?_
  rw [show v qa 1 = nI (kd) from ekd]
  refine fa_iaddN hx hb dX3_dueDay_9 ?_
  refine fa_iald (k := b + 7) (j := 0 + kd) CX HX (fa_lt hB 7 (by decide) hn) (fa_s7 hB) (by omega) (by first | decide | assumption) dX3_dueDay_10 ?_
  refine lv_istore_n (lv' := [(2, .int (v (b + 7) (0 + kd))), (0, .ref (fa_B G + (b))), (1, .ref (fa_B G + (qa)))]) hx hb dX3_dueDay_11 rfl hl (by decide) rfl (fun ls hl => ?_)
  refine lv_aload_n hx hb dX3_dueDay_12 rfl (lv_at hl 2 rfl) ?_
  refine fa_geti (k := qa) CX HX fl_X3_161 (fa_isF_lt hB hqa hn) (fa_isF_sh hB hqa) rfl dX3_dueDay_13 ?_
  refine lv_bipush (v := (-6 : Int32)) hx hb dX3_dueDay_16 (by decide) ?_
  refine lv_icmp_ne (tgt := 28) hx hb dX3_dueDay_18 (by decide) (fun c_18 => ?_) (fun c_18 => ?_)
  · refine lv_aload_n hx hb dX3_dueDay_28 rfl (lv_at hl 2 rfl) ?_
    refine fa_geti (k := qa) CX HX fl_X3_161 (fa_isF_lt hB hqa hn) (fa_isF_sh hB hqa) rfl dX3_dueDay_29 ?_
    refine lv_istore_n (lv' := [(3, .int (v qa 4)), (2, .int (v (b + 7) (0 + kd))), (0, .ref (fa_B G + (b))), (1, .ref (fa_B G + (qa)))]) hx hb dX3_dueDay_32 rfl hl (by decide) rfl (fun ls hl => ?_)
    refine lv_aload_n hx hb dX3_dueDay_33 rfl (lv_at hl 3 rfl) ?_
    refine fa_geti (k := qa) CX HX fl_X3_95 (fa_isF_lt hB hqa hn) (fa_isF_sh hB hqa) rfl dX3_dueDay_34 ?_
    refine lv_aload_n hx hb dX3_dueDay_37 rfl (lv_at hl 2 rfl) ?_
    refine fa_getr (k := b) (j := b + 7) CX HX fl_X3_31 (fa_lt hB 0 (by decide) hn) (fa_s0 hB) rfl hr.2.2.2.1 dX3_dueDay_38 ?_
    refine lv_iconst (v := nI (5)) hx hb dX3_dueDay_41 (by decide) ?_
    refine fa_iald (k := b + 7) (j := 5) CX HX (fa_lt hB 7 (by decide) hn) (fa_s7 hB) (by omega) (by first | decide | assumption) dX3_dueDay_42 ?_
    refine lv_icmp_lt (tgt := 54) hx hb dX3_dueDay_43 (by decide) (fun c_43 => ?_) (fun c_43 => ?_)
    · refine lv_iload_n hx hb dX3_dueDay_54 rfl (lv_at hl 0 rfl) ?_
      refine lv_iload_n hx hb dX3_dueDay_55 rfl (lv_at hl 1 rfl) ?_
      refine lv_iadd hx hb dX3_dueDay_56 ?_
      exact RET _ _ _ _ _ _ _ HX dX3_dueDay_57 (⟨rfl, (by unfold fa_due; rw [show fa_N (v qa 1) = 0 + kd by (rw [ekd, fa_N_nI (by omega)]; omega), if_pos c_43, if_neg c_18])⟩)
    · refine lv_iload_n hx hb dX3_dueDay_46 rfl (lv_at hl 0 rfl) ?_
      refine lv_iconst (v := nI (2)) hx hb dX3_dueDay_47 (by decide) ?_
      refine lv_iload_n hx hb dX3_dueDay_48 rfl (lv_at hl 1 rfl) ?_
      refine lv_imul hx hb dX3_dueDay_49 ?_
      refine lv_iadd hx hb dX3_dueDay_50 ?_
      refine lv_goto (tgt := 57) hx hb dX3_dueDay_51 (by decide) ?_
      exact RET _ _ _ _ _ _ _ HX dX3_dueDay_57 (⟨rfl, (by unfold fa_due; rw [show fa_N (v qa 1) = 0 + kd by (rw [ekd, fa_N_nI (by omega)]; omega), if_neg c_43, if_neg c_18])⟩)
  · refine lv_aload_n hx hb dX3_dueDay_21 rfl (lv_at hl 2 rfl) ?_
    refine fa_geti (k := qa) CX HX fl_X3_190 (fa_isF_lt hB hqa hn) (fa_isF_sh hB hqa) rfl dX3_dueDay_22 ?_
    refine lv_goto (tgt := 32) hx hb dX3_dueDay_25 (by decide) ?_
    refine lv_istore_n (lv' := [(3, .int (v qa 3)), (2, .int (v (b + 7) (0 + kd))), (0, .ref (fa_B G + (b))), (1, .ref (fa_B G + (qa)))]) hx hb dX3_dueDay_32 rfl hl (by decide) rfl (fun ls hl => ?_)
    refine lv_aload_n hx hb dX3_dueDay_33 rfl (lv_at hl 3 rfl) ?_
    refine fa_geti (k := qa) CX HX fl_X3_95 (fa_isF_lt hB hqa hn) (fa_isF_sh hB hqa) rfl dX3_dueDay_34 ?_
    refine lv_aload_n hx hb dX3_dueDay_37 rfl (lv_at hl 2 rfl) ?_
    refine fa_getr (k := b) (j := b + 7) CX HX fl_X3_31 (fa_lt hB 0 (by decide) hn) (fa_s0 hB) rfl hr.2.2.2.1 dX3_dueDay_38 ?_
    refine lv_iconst (v := nI (5)) hx hb dX3_dueDay_41 (by decide) ?_
    refine fa_iald (k := b + 7) (j := 5) CX HX (fa_lt hB 7 (by decide) hn) (fa_s7 hB) (by omega) (by first | decide | assumption) dX3_dueDay_42 ?_
    refine lv_icmp_lt (tgt := 54) hx hb dX3_dueDay_43 (by decide) (fun c_43 => ?_) (fun c_43 => ?_)
    · refine lv_iload_n hx hb dX3_dueDay_54 rfl (lv_at hl 0 rfl) ?_
      refine lv_iload_n hx hb dX3_dueDay_55 rfl (lv_at hl 1 rfl) ?_
      refine lv_iadd hx hb dX3_dueDay_56 ?_
      exact RET _ _ _ _ _ _ _ HX dX3_dueDay_57 (⟨rfl, (by unfold fa_due; rw [show fa_N (v qa 1) = 0 + kd by (rw [ekd, fa_N_nI (by omega)]; omega), if_pos c_43, if_pos c_18])⟩)
    · refine lv_iload_n hx hb dX3_dueDay_46 rfl (lv_at hl 0 rfl) ?_
      refine lv_iconst (v := nI (2)) hx hb dX3_dueDay_47 (by decide) ?_
      refine lv_iload_n hx hb dX3_dueDay_48 rfl (lv_at hl 1 rfl) ?_
      refine lv_imul hx hb dX3_dueDay_49 ?_
      refine lv_iadd hx hb dX3_dueDay_50 ?_
      refine lv_goto (tgt := 57) hx hb dX3_dueDay_51 (by decide) ?_
      exact RET _ _ _ _ _ _ _ HX dX3_dueDay_57 (⟨rfl, (by unfold fa_due; rw [show fa_N (v qa 1) = 0 + kd by (rw [ekd, fa_N_nI (by omega)]; omega), if_neg c_43, if_pos c_18])⟩)
set_option maxHeartbeats 4000000 in
set_option maxRecDepth 100000 in
theorem g_ownReason (l : Launch) (G : fa_G) (n : Nat) (hn : 397 ≤ n) (v : fa_V) (r : fa_R) (b : Nat) (hB : b ∈ fa_bs) (hr : fa_RS r b) (hI : fa_IS v b) (qa : Nat) (hqa : fa_isF b qa) : fa_MI l G n yX3_ownReason cX3_ownReason 2 (some .int) 3 [.ref (fa_B G + (b)), .ref (fa_B G + (qa))] v r (fun x w => w = (v, r) ∧ (x = fa_own v b qa)) := by
  refine fa_startI (by decide +kernel) (Nat.le_of_ble_eq_true rfl) (fun p e s m args below meth c ls Q CX hl HX RET => ?_)
  have hl : lv_has ls 2 [(0, .ref (fa_B G + (b))), (1, .ref (fa_B G + (qa)))] := hl
  have hx := CX.1.1
  have hb := CX.1.2.1
  refine lv_aload_n hx hb dX3_ownReason_0 rfl (lv_at hl 0 rfl) ?_
  refine lv_aload_n hx hb dX3_ownReason_1 rfl (lv_at hl 1 rfl) ?_
  refine fa_callVip (As := [.ref (fa_B G + (qa))]) (rest := []) CX HX (g_dueDay l G n hn v r b hB hr hI (qa) hqa) ln_X3_174 (fa_lt hB 0 (by decide) hn) (fa_s0 hB) rfl rfl rfl (Nat.le_of_ble_eq_true rfl) hl.1 ⟨Nat.le_of_ble_eq_true rfl, Nat.le_of_ble_eq_true rfl⟩ ⟨Nat.le_refl _, Nat.le_refl _⟩ dX3_ownReason_2 (fun x886 H locs h885 HX887 => ?_)
  have h_dueDay := h885
  refine lv_aload_n hx hb dX3_ownReason_5 rfl (lv_at hl 0 rfl) ?_
  refine fa_geti (k := b) CX HX887 fl_X3_45 (fa_lt hB 0 (by decide) hn) (fa_s0 hB) rfl dX3_ownReason_6 ?_
  refine lv_icmp_le (tgt := 14) hx hb dX3_ownReason_9 (by decide) (fun c_9 => ?_) (fun c_9 => ?_)
  · refine lv_aload_n hx hb dX3_ownReason_14 rfl (lv_at hl 1 rfl) ?_
    refine lv_aload_n hx hb dX3_ownReason_15 rfl (lv_at hl 0 rfl) ?_
    refine fa_geti (k := b) CX HX887 fl_X3_45 (fa_lt hB 0 (by decide) hn) (fa_s0 hB) rfl dX3_ownReason_16 ?_
    refine fa_callVip (As := [.int (v b 0)]) (rest := []) CX HX887 (g_holdersOn l G n hn v r b hB hr hI qa (v b 0) hqa ) ln_X3_105 (fa_isF_lt hB hqa hn) (fa_isF_sh hB hqa) rfl rfl rfl (Nat.le_of_ble_eq_true rfl) hl.1 ⟨Nat.le_of_ble_eq_true rfl, Nat.le_of_ble_eq_true rfl⟩ ⟨Nat.le_refl _, Nat.le_refl _⟩ dX3_ownReason_19 (fun x889 H locs h888 HX890 => ?_)
    have h_holdersOn := h888
    refine lv_if_eq (tgt := 27) hx hb dX3_ownReason_22 (by decide) (fun c_22 => ?_) (fun c_22 => ?_)
    · refine lv_aload_n hx hb dX3_ownReason_27 rfl (lv_at hl 0 rfl) ?_
      refine fa_getr (k := b) (j := b + 2) CX HX890 fl_X3_20 (fa_lt hB 0 (by decide) hn) (fa_s0 hB) rfl hr.2.1 dX3_ownReason_28 ?_
      refine lv_aload_n hx hb dX3_ownReason_31 rfl (lv_at hl 1 rfl) ?_
      refine fa_geti (k := qa) CX HX890 fl_X3_177 (fa_isF_lt hB hqa hn) (fa_isF_sh hB hqa) rfl dX3_ownReason_32 ?_
      refine fa_callVip (As := [.int (v qa 0)]) (rest := []) CX HX890 (g_numberFor l G n hn v r b hB hr hI (v qa 0) ) ln_X3_180 (fa_lt hB 2 (by decide) hn) (fa_s2 hB) rfl rfl rfl (Nat.le_of_ble_eq_true rfl) hl.1 ⟨Nat.le_of_ble_eq_true rfl, Nat.le_of_ble_eq_true rfl⟩ ⟨Nat.le_refl _, Nat.le_refl _⟩ dX3_ownReason_35 (fun x892 H locs h891 HX893 => ?_)
      have h_numberFor := h891
      refine lv_if_le (tgt := 45) hx hb dX3_ownReason_38 (by decide) (fun c_38 => ?_) (fun c_38 => ?_)
      · refine lv_iconst (v := nI (0)) hx hb dX3_ownReason_45 (by decide) ?_
        exact RET _ _ _ _ _ _ _ HX893 dX3_ownReason_46 (⟨rfl, (by have z : x892 = fa_resv v b (v qa 0) := h_numberFor; unfold fa_own; rw [← h_dueDay, if_pos c_9, ← h_holdersOn, if_pos c_22, ← z, if_pos c_38]; rfl)⟩)
      · refine lv_iconst (v := nI (3)) hx hb dX3_ownReason_41 (by decide) ?_
        refine lv_goto (tgt := 46) hx hb dX3_ownReason_42 (by decide) ?_
        exact RET _ _ _ _ _ _ _ HX893 dX3_ownReason_46 (⟨rfl, (by have z : x892 = fa_resv v b (v qa 0) := h_numberFor; unfold fa_own; rw [← h_dueDay, if_pos c_9, ← h_holdersOn, if_pos c_22, ← z, if_neg c_38])⟩)
    · refine lv_iconst (v := nI (2)) hx hb dX3_ownReason_25 (by decide) ?_
      exact RET _ _ _ _ _ _ _ HX890 dX3_ownReason_26 (⟨rfl, (by unfold fa_own; rw [← h_dueDay, if_pos c_9, ← h_holdersOn, if_neg c_22])⟩)
  · refine lv_iconst (v := nI (1)) hx hb dX3_ownReason_12 (by decide) ?_
    exact RET _ _ _ _ _ _ _ HX887 dX3_ownReason_13 (⟨rfl, (by unfold fa_own; rw [← h_dueDay, if_neg c_9])⟩)
set_option maxHeartbeats 4000000 in
set_option maxRecDepth 100000 in
theorem g_askStored (l : Launch) (G : fa_G) (n : Nat) (hn : 397 ≤ n) (v : fa_V) (r : fa_R) (b : Nat) (hB : b ∈ fa_bs) (hr : fa_RS r b) (hI : fa_IS v b) (qa : Nat) (hqa : fa_isF b qa) : fa_MV l G n yX3_askStored cX3_askStored 2 1 [.ref (fa_B G + (b)), .ref (fa_B G + (qa))] v r (fa_vo r (fun v1 => (v1 = fa_ask v b qa) ∧ (fa_fr (b) (b + 56) v v1))) := by
  refine fa_startV (by decide +kernel) (Nat.le_of_ble_eq_true rfl) (fun p e s m args below meth c ls Q CX hl HX RET => ?_)
  have hl : lv_has ls 2 [(0, .ref (fa_B G + (b))), (1, .ref (fa_B G + (qa)))] := hl
  have hx := CX.1.1
  have hb := CX.1.2.1
  have hqi := fa_isF_in hqa
  refine lv_aload_n hx hb dX3_askStored_0 rfl (lv_at hl 1 rfl) ?_
  refine lv_aload_n hx hb dX3_askStored_1 rfl (lv_at hl 0 rfl) ?_
  refine fa_geti (k := b) CX HX fl_X3_45 (fa_lt hB 0 (by decide) hn) (fa_s0 hB) rfl dX3_askStored_2 ?_
  refine fa_puti (k := qa) CX HX fl_X3_161 (fa_isF_lt hB hqa hn) (fa_isF_sh hB hqa) rfl rfl rfl dX3_askStored_5 (fun H locs v894 e895 HX896 => ?_)
  refine lv_aload_n hx hb dX3_askStored_8 rfl (lv_at hl 1 rfl) ?_
  refine lv_dup hx hb dX3_askStored_9 rfl ?_
  refine fa_geti (k := qa) CX HX896 fl_X3_95 (fa_isF_lt hB hqa hn) (fa_isF_sh hB hqa) rfl dX3_askStored_10 ?_
  refine lv_iconst (v := nI (1)) hx hb dX3_askStored_13 (by decide) ?_
  refine lv_iadd hx hb dX3_askStored_14 ?_
  refine fa_puti (k := qa) CX HX896 fl_X3_95 (fa_isF_lt hB hqa hn) (fa_isF_sh hB hqa) rfl rfl rfl dX3_askStored_15 (fun H locs v897 e898 HX899 => ?_)
  refine lv_aload_n hx hb dX3_askStored_18 rfl (lv_at hl 0 rfl) ?_
  refine lv_dup hx hb dX3_askStored_19 rfl ?_
  refine fa_geti (k := b) CX HX899 fl_X3_61 (fa_lt hB 0 (by decide) hn) (fa_s0 hB) rfl dX3_askStored_20 ?_
  refine lv_iconst (v := nI (1)) hx hb dX3_askStored_23 (by decide) ?_
  refine lv_iadd hx hb dX3_askStored_24 ?_
  refine fa_puti (k := b) CX HX899 fl_X3_61 (fa_lt hB 0 (by decide) hn) (fa_s0 hB) rfl rfl rfl dX3_askStored_25 (fun H locs v900 e901 HX902 => ?_)
  exact RET _ _ _ _ _ _ HX902 dX3_askStored_28 (⟨rfl, ⟨(by show v900 = _; rw [e901, e898, e895]; unfold fa_ask; simp only [fa_u_n _ _ (show ¬ (b = qa ∧ (5 : Nat) = 5) by omega), fa_u_n _ _ (show ¬ (b = qa ∧ (5 : Nat) = 4) by omega), fa_u_n _ _ (show ¬ (qa = qa ∧ (5 : Nat) = 4) by omega)]), (by rw [e901]; exact fa_fr.u (by rw [e898]; exact fa_fr.u (by rw [e895]; exact fa_fr.u fa_fr.rf (by omega)) (by omega)) (by omega))⟩⟩)
set_option maxHeartbeats 4000000 in
set_option maxRecDepth 100000 in
theorem g_markReferredFrom (l : Launch) (G : fa_G) (n : Nat) (hn : 397 ≤ n) (v : fa_V) (r : fa_R) (b : Nat) (hB : b ∈ fa_bs) (hr : fa_RS r b) (hI : fa_IS v b) (qa : Nat) (hqa : fa_isF b qa) : fa_MV l G n yX3_markReferredFrom cX3_markReferredFrom 4 2 [.ref (fa_B G + (b)), .ref (fa_B G + (qa))] v r (fa_vo r (fun v1 => ((fa_rsn b v v1) ∧ (∀ A, fb_okA A → fb_cA v r b A → ∀ k, k < A.n → qa = fa_pf r b k → ¬ v qa 8 = 0 → fb_mrP A v v1 r b k)) ∧ (fa_fr (b + 8) (b + 56) v v1))) := by
  refine fa_startV (by decide +kernel) (Nat.le_of_ble_eq_true rfl) (fun p e s m args below meth c ls Q CX hl HX RET => ?_)
  have hl : lv_has ls 4 [(0, .ref (fa_B G + (b))), (1, .ref (fa_B G + (qa)))] := hl
  have hx := CX.1.1
  have hb := CX.1.2.1
  refine lv_aload_n hx hb dX3_markReferredFrom_0 rfl (lv_at hl 1 rfl) ?_
  refine lv_astore_n (lv' := [(2, .ref (fa_B G + (qa))), (0, .ref (fa_B G + (b))), (1, .ref (fa_B G + (qa)))]) hx hb dX3_markReferredFrom_1 rfl hl (by decide) rfl (fun ls hl => ?_)
  refine lv_iconst (v := nI (0)) hx hb dX3_markReferredFrom_2 (by decide) ?_
  refine lv_istore_n (lv' := [(3, .int (nI (0))), (2, .ref (fa_B G + (qa))), (0, .ref (fa_B G + (b))), (1, .ref (fa_B G + (qa)))]) hx hb dX3_markReferredFrom_3 rfl hl (by decide) rfl (fun ls hl => ?_)
  have LOOP_4 : ∀ (fu : Nat) (q2 : Nat) (j : Nat) (v903 : fa_V) (H : Heap) (locs : List Loc) (ls : Array Slot), 24 - j < fu → (j ≤ 24 ∧ fa_isF b q2 ∧ fa_rsn b v v903 ∧ (∀ A, fb_okA A → fb_cA v r b A → ∀ k, k < A.n → qa = fa_pf r b k → ¬ v qa 8 = 0 → ∃ c, q2 = fa_pf r b c ∧ fb_mrI A v v903 r b k c j)) → lv_has ls 4 [(0, .ref (fa_B G + (b))), (1, .ref (fa_B G + (qa))), (2, .ref (fa_B G + (q2))), (3, .int (nI (j)))] → fa_HX G (n) v903 r s H locs → W p l e (fa_rm 2) s m args below meth c H locs (0) (0) Q (F0 m 4 ls []) := by
    intro fu
    induction fu with
    | zero => intro q2 j v903 H locs ls hk; exact absurd hk (Nat.not_lt_zero _)
    | succ fu ih_4 =>
      intro q2 j v903 H locs ls hk_4 hi_4 hl HX904
      have hq2 := hi_4.2.1
      have hI := hi_4.2.2.1.IS hI
      refine lv_iload_n hx hb dX3_markReferredFrom_4 rfl (lv_at hl 3 rfl) ?_
      refine lv_bipush (v := nI (24)) hx hb dX3_markReferredFrom_5 (by decide) ?_
      refine lv_icmp_ge (tgt := 42) hx hb dX3_markReferredFrom_7 (by decide) (fun c_7 => ?_) (fun c_7 => ?_)
      · exact RET _ _ _ _ _ _ HX904 dX3_markReferredFrom_42 (⟨rfl, ⟨⟨hi_4.2.2.1, (fun A hok hc k hk e hv => by (obtain ⟨c, ec, hm⟩ := hi_4.2.2.2 A hok hc k hk e hv; have hw := hc.rsn hi_4.2.2.1; exact (hm.no hok hk (by rw [← e]; exact hv) (fa_leN (by omega) (by omega) c_7)).elim))⟩, (fa_fr.tr fa_fr.rf (fa_fr.wide hi_4.2.2.1.fr (by omega) (by omega)))⟩⟩)
      · have hj := fa_ltN (by omega) (by omega) c_7
        refine lv_aload_n hx hb dX3_markReferredFrom_10 rfl (lv_at hl 0 rfl) ?_
        refine lv_aload_n hx hb dX3_markReferredFrom_11 rfl (lv_at hl 2 rfl) ?_
        refine fa_geti (k := q2) CX HX904 fl_X3_114 (fa_isF_lt hB hq2 hn) (fa_isF_sh hB hq2) rfl dX3_markReferredFrom_12 ?_
        refine fa_callVrp (As := [.int (v903 q2 6)]) (rest := []) CX HX904 (g_find l G n hn v903 r b hB hr hI (v903 q2 6) ) ln_X3_88 (fa_lt hB 0 (by decide) hn) (fa_s0 hB) rfl rfl rfl (Nat.le_of_ble_eq_true rfl) hl.1 ⟨Nat.le_of_ble_eq_true rfl, Nat.le_of_ble_eq_true rfl⟩ ⟨Nat.le_refl _, Nat.le_refl _⟩ dX3_markReferredFrom_15 (fun H locs h905 HX906 => ?_) (fun q907 H locs h905 HX906 => ?_)
        · have hf_none := h905.2 rfl
          refine lv_astore_nN (lv' := [(2, .null), (0, .ref (fa_B G + (b))), (1, .ref (fa_B G + (qa))), (3, .int (nI (j)))]) hx hb dX3_markReferredFrom_18 rfl hl (by decide) rfl (fun ls hl => ?_)
          refine lv_aload_nN hx hb dX3_markReferredFrom_19 rfl (lv_at hl 0 rfl) ?_
          refine lv_ifnullN (tgt := 30) hx hb dX3_markReferredFrom_20 (by decide) ?_
          exact RET _ _ _ _ _ _ HX906 dX3_markReferredFrom_30 (⟨rfl, ⟨⟨hi_4.2.2.1, (fun A hok hc k hk e hv => by (obtain ⟨c, ec, hm⟩ := hi_4.2.2.2 A hok hc k hk e hv; have hw := hc.rsn hi_4.2.2.1; exact hm.e (fun i hi e2 => absurd (by rw [hw.f hi (i := 0) (by decide) (by decide), ec]; exact fb_tgt0 hok hw hm.2.2.1 hi e2) (hf_none i (by rw [hw.n]; exact hi)))))⟩, (fa_fr.tr fa_fr.rf (fa_fr.wide hi_4.2.2.1.fr (by omega) (by omega)))⟩⟩)
        · have hf_q907 := h905.1 q907 rfl
          have hq907 := hf_q907.1
          have hiq907 := fa_isF_in hq907
          refine lv_astore_n (lv' := [(2, .ref (fa_B G + (q907))), (0, .ref (fa_B G + (b))), (1, .ref (fa_B G + (qa))), (3, .int (nI (j)))]) hx hb dX3_markReferredFrom_18 rfl hl (by decide) rfl (fun ls hl => ?_)
          refine lv_aload_n hx hb dX3_markReferredFrom_19 rfl (lv_at hl 0 rfl) ?_
          refine lv_ifnull hx hb dX3_markReferredFrom_20 ?_
          refine lv_aload_n hx hb dX3_markReferredFrom_23 rfl (lv_at hl 0 rfl) ?_
          refine fa_geti (k := q907) CX HX906 fl_X3_168 (fa_isF_lt hB hq907 hn) (fa_isF_sh hB hq907) rfl dX3_markReferredFrom_24 ?_
          refine lv_if_eq (tgt := 31) hx hb dX3_markReferredFrom_27 (by decide) (fun c_27 => ?_) (fun c_27 => ?_)
          · refine lv_aload_n hx hb dX3_markReferredFrom_31 rfl (lv_at hl 0 rfl) ?_
            refine lv_iconst (v := nI (4)) hx hb dX3_markReferredFrom_32 (by decide) ?_
            refine fa_puti (k := q907) CX HX906 fl_X3_168 (fa_isF_lt hB hq907 hn) (fa_isF_sh hB hq907) rfl rfl rfl dX3_markReferredFrom_33 (fun H locs v908 e909 HX910 => ?_)
            refine lv_iinc (v := nI (j + 1)) (lv' := [(3, .int (nI (j + 1))), (2, .ref (fa_B G + (q907))), (0, .ref (fa_B G + (b))), (1, .ref (fa_B G + (qa)))]) hx hb dX3_markReferredFrom_36 hl (k := 3) rfl (nI_add (j) 1) (by decide) rfl (fun ls hl => ?_)
            refine lv_goto (tgt := 4) hx hb dX3_markReferredFrom_39 (by decide) ?_
            exact ih_4 (q907) (j + 1) v908 _ _ _ (by omega) (⟨by omega, hq907, by rw [e909]; exact fa_rsn.u hi_4.2.2.1 hq907, (fun A hok hc k hk e hv => by (obtain ⟨c, ec, hm⟩ := hi_4.2.2.2 A hok hc k hk e hv; have hw := hc.rsn hi_4.2.2.1; obtain ⟨i, hi, ei, -, en⟩ := hw.find1 hf_q907; exact ⟨i, ei, hm.s hok hw hi (by rw [← ec]; exact en) (by rw [← ei]; exact c_27) (by rw [← ei]; exact e909)⟩))⟩) (lv_sub hl [2, 3, 1, 0] rfl) HX910
          · exact RET _ _ _ _ _ _ HX906 dX3_markReferredFrom_30 (⟨rfl, ⟨⟨hi_4.2.2.1, (fun A hok hc k hk e hv => by (obtain ⟨c, ec, hm⟩ := hi_4.2.2.2 A hok hc k hk e hv; have hw := hc.rsn hi_4.2.2.1; obtain ⟨i, hi, ei, -, en⟩ := hw.find1 hf_q907; exact hm.e (fun i2 hi2 e2 => by (have z : i2 = i := hok.num hi2 hi (e2.trans (fb_tgt1 hok hw hm.2.2.1 hi (by rw [← ec]; exact en)).symm); rw [z, ← ei]; exact c_27))))⟩, (fa_fr.tr fa_fr.rf (fa_fr.wide hi_4.2.2.1.fr (by omega) (by omega)))⟩⟩)
  exact LOOP_4 (24 - 0 + 1) (qa) (0) v _ _ _ (Nat.lt_succ_self _) (⟨Nat.zero_le _, hqa, fa_rsn.rf, fun A hok hc k hk e hv => ⟨k, e, fb_mrI.rf hk (by rw [← e]; exact hv)⟩⟩) (lv_sub hl [2, 3, 1, 0] rfl) HX
set_option maxHeartbeats 4000000 in
set_option maxRecDepth 100000 in
theorem g_markReasons (l : Launch) (G : fa_G) (n : Nat) (hn : 397 ≤ n) (v : fa_V) (r : fa_R) (b : Nat) (hB : b ∈ fa_bs) (hr : fa_RS r b) (hI : fa_IS v b) : fa_MV l G n yX3_markReasons cX3_markReasons 2 4 [.ref (fa_B G + (b))] v r (fa_vo r (fun v1 => ((fa_rsn b v v1) ∧ (∀ A, fb_okA A → fb_cA v r b A → ∀ p, p < A.n → v1 (fa_pf r b p) 8 = fb_why A p)) ∧ (fa_fr (b + 8) (b + 56) v v1))) := by
  refine fa_startV (by decide +kernel) (Nat.le_of_ble_eq_true rfl) (fun p e s m args below meth c ls Q CX hl HX RET => ?_)
  have hl : lv_has ls 2 [(0, .ref (fa_B G + (b)))] := hl
  have hx := CX.1.1
  have hb := CX.1.2.1
  obtain ⟨n0, en0⟩ : ∃ n0, n0 = fa_N (v b 1) := ⟨_, rfl⟩
  obtain ⟨hn0, h1⟩ := hI.n1 en0
  refine lv_iconst (v := nI (0)) hx hb dX3_markReasons_0 (by decide) ?_
  refine lv_istore_n (lv' := [(1, .int (nI (0))), (0, .ref (fa_B G + (b)))]) hx hb dX3_markReasons_1 rfl hl (by decide) rfl (fun ls hl => ?_)
  have LOOP_2 : ∀ (fu : Nat) (j : Nat) (v911 : fa_V) (H : Heap) (locs : List Loc) (ls : Array Slot), n0 - j < fu → (j ≤ n0 ∧ fa_rsn b v v911 ∧ (∀ A, fb_okA A → fb_cA v r b A → fb_mk1 A v911 r b j)) → lv_has ls 2 [(0, .ref (fa_B G + (b))), (1, .int (nI (j)))] → fa_HX G (n) v911 r s H locs → W p l e (fa_rm 4) s m args below meth c H locs (0) (0) Q (F0 m 2 ls []) := by
    intro fu
    induction fu with
    | zero => intro j v911 H locs ls hk; exact absurd hk (Nat.not_lt_zero _)
    | succ fu ih_2 =>
      intro j v911 H locs ls hk_2 hi_2 hl HX912
      have hI2 := hi_2.2.1.IS hI
      refine lv_iload_n hx hb dX3_markReasons_2 rfl (lv_at hl 1 rfl) ?_
      refine lv_aload_n hx hb dX3_markReasons_3 rfl (lv_at hl 0 rfl) ?_
      refine fa_geti (k := b) CX HX912 fl_X3_49 (fa_lt hB 0 (by decide) hn) (fa_s0 hB) rfl dX3_markReasons_4 ?_
      rw [show v911 b 1 = nI (n0) from ((hi_2.2.1 b 1 (fun z => absurd z.2 (by decide))).trans h1)]
      refine lv_icmp_ge (tgt := 35) hx hb dX3_markReasons_7 (by decide) (fun c_7 => ?_) (fun c_7 => ?_)
      · have hjn : j = n0 := by
          have := fa_leN (by omega) (by omega) c_7
          omega
        refine lv_iconst (v := nI (0)) hx hb dX3_markReasons_35 (by decide) ?_
        refine lv_istore_n (lv' := [(1, .int (nI (0))), (0, .ref (fa_B G + (b)))]) hx hb dX3_markReasons_36 rfl hl (by decide) rfl (fun ls hl => ?_)
        have LOOP_37 : ∀ (fu : Nat) (j : Nat) (v913 : fa_V) (H : Heap) (locs : List Loc) (ls : Array Slot), n0 - j < fu → (j ≤ n0 ∧ fa_rsn b v v913 ∧ (∀ A, fb_okA A → fb_cA v r b A → fb_m2 A v913 r b j)) → lv_has ls 2 [(0, .ref (fa_B G + (b))), (1, .int (nI (j)))] → fa_HX G (n) v913 r s H locs → W p l e (fa_rm 4) s m args below meth c H locs (0) (0) Q (F0 m 37 ls []) := by
          intro fu
          induction fu with
          | zero => intro j v913 H locs ls hk; exact absurd hk (Nat.not_lt_zero _)
          | succ fu ih_37 =>
            intro j v913 H locs ls hk_37 hi_37 hl HX914
            have hI3 := hi_37.2.1.IS hI
            refine lv_iload_n hx hb dX3_markReasons_37 rfl (lv_at hl 1 rfl) ?_
            refine lv_aload_n hx hb dX3_markReasons_38 rfl (lv_at hl 0 rfl) ?_
            refine fa_geti (k := b) CX HX914 fl_X3_49 (fa_lt hB 0 (by decide) hn) (fa_s0 hB) rfl dX3_markReasons_39 ?_
            rw [show v913 b 1 = nI (n0) from ((hi_37.2.1 b 1 (fun z => absurd z.2 (by decide))).trans h1)]
            refine lv_icmp_ge (tgt := 86) hx hb dX3_markReasons_42 (by decide) (fun c_42 => ?_) (fun c_42 => ?_)
            · have hjm : j = n0 := by
                have := fa_leN (by omega) (by omega) c_42
                omega
              exact RET _ _ _ _ _ _ HX914 dX3_markReasons_86 (⟨rfl, ⟨⟨hi_37.2.1, fun A hok hc p hp => by (have z := hi_37.2.2 A hok hc; rw [show j = A.n by rw [← hc.n, ← en0]; exact hjm] at z; exact z.e hp)⟩, (fa_fr.tr fa_fr.rf (fa_fr.wide hi_37.2.1.fr (by omega) (by omega)))⟩⟩)
            · have hj := fa_ltN (by omega) (by omega) c_42
              refine lv_aload_n hx hb dX3_markReasons_45 rfl (lv_at hl 0 rfl) ?_
              refine fa_getr (k := b) (j := b + 1) CX HX914 fl_X3_11 (fa_lt hB 0 (by decide) hn) (fa_s0 hB) rfl hr.1 dX3_markReasons_46 ?_
              refine lv_iload_n hx hb dX3_markReasons_49 rfl (lv_at hl 1 rfl) ?_
              refine fa_aald (k := b + 1) (j := j) (q := fa_pf r b j) CX HX914 (fa_lt hB 1 (by decide) hn) (fa_s1 hB) rfl (by decide) (by omega) (by first | decide | assumption) (fa_pf_at hr (by omega)) dX3_markReasons_50 ?_
              refine fa_geti (k := fa_pf r b j) CX HX914 fl_X3_168 (fa_isF_lt hB (fa_pf_isF hr (by omega)) hn) (fa_isF_sh hB (fa_pf_isF hr (by omega))) rfl dX3_markReasons_51 ?_
              refine lv_if_eq (tgt := 80) hx hb dX3_markReasons_54 (by decide) (fun c_54 => ?_) (fun c_54 => ?_)
              · refine lv_iinc (v := nI (j + 1)) (lv' := [(1, .int (nI (j + 1))), (0, .ref (fa_B G + (b)))]) hx hb dX3_markReasons_80 hl (k := 1) rfl (nI_add (j) 1) (by decide) rfl (fun ls hl => ?_)
                refine lv_goto (tgt := 37) hx hb dX3_markReasons_83 (by decide) ?_
                exact ih_37 (j + 1) v913 _ _ _ (by omega) (⟨by omega, hi_37.2.1, fun A hok hc => (hi_37.2.2 A hok hc).skip (Or.inl c_54)⟩) (lv_sub hl [1, 0] rfl) HX914
              · refine lv_aload_n hx hb dX3_markReasons_57 rfl (lv_at hl 0 rfl) ?_
                refine fa_getr (k := b) (j := b + 1) CX HX914 fl_X3_11 (fa_lt hB 0 (by decide) hn) (fa_s0 hB) rfl hr.1 dX3_markReasons_58 ?_
                refine lv_iload_n hx hb dX3_markReasons_61 rfl (lv_at hl 1 rfl) ?_
                refine fa_aald (k := b + 1) (j := j) (q := fa_pf r b j) CX HX914 (fa_lt hB 1 (by decide) hn) (fa_s1 hB) rfl (by decide) (by omega) (by first | decide | assumption) (fa_pf_at hr (by omega)) dX3_markReasons_62 ?_
                refine fa_geti (k := fa_pf r b j) CX HX914 fl_X3_168 (fa_isF_lt hB (fa_pf_isF hr (by omega)) hn) (fa_isF_sh hB (fa_pf_isF hr (by omega))) rfl dX3_markReasons_63 ?_
                refine lv_iconst (v := nI (4)) hx hb dX3_markReasons_66 (by decide) ?_
                refine lv_icmp_eq (tgt := 80) hx hb dX3_markReasons_67 (by decide) (fun c_67 => ?_) (fun c_67 => ?_)
                · refine lv_iinc (v := nI (j + 1)) (lv' := [(1, .int (nI (j + 1))), (0, .ref (fa_B G + (b)))]) hx hb dX3_markReasons_80 hl (k := 1) rfl (nI_add (j) 1) (by decide) rfl (fun ls hl => ?_)
                  refine lv_goto (tgt := 37) hx hb dX3_markReasons_83 (by decide) ?_
                  exact ih_37 (j + 1) v913 _ _ _ (by omega) (⟨by omega, hi_37.2.1, fun A hok hc => (hi_37.2.2 A hok hc).skip (Or.inr c_67)⟩) (lv_sub hl [1, 0] rfl) HX914
                · refine lv_aload_n hx hb dX3_markReasons_70 rfl (lv_at hl 0 rfl) ?_
                  refine lv_aload_n hx hb dX3_markReasons_71 rfl (lv_at hl 0 rfl) ?_
                  refine fa_getr (k := b) (j := b + 1) CX HX914 fl_X3_11 (fa_lt hB 0 (by decide) hn) (fa_s0 hB) rfl hr.1 dX3_markReasons_72 ?_
                  refine lv_iload_n hx hb dX3_markReasons_75 rfl (lv_at hl 1 rfl) ?_
                  refine fa_aald (k := b + 1) (j := j) (q := fa_pf r b j) CX HX914 (fa_lt hB 1 (by decide) hn) (fa_s1 hB) rfl (by decide) (by omega) (by first | decide | assumption) (fa_pf_at hr (by omega)) dX3_markReasons_76 ?_
                  refine fa_callVvu (As := [.ref (fa_B G + (fa_pf r b j))]) (rest := []) CX HX914 (g_markReferredFrom l G n hn v913 r b hB hr hI3 (fa_pf r b j) (fa_pf_isF hr (by omega))) ln_X3_171 (fa_lt hB 0 (by decide) hn) (fa_s0 hB) rfl rfl rfl (Nat.le_of_ble_eq_true rfl) hl.1 ⟨Nat.le_of_ble_eq_true rfl, Nat.le_of_ble_eq_true rfl⟩ ⟨Nat.le_refl _, Nat.le_refl _⟩ dX3_markReasons_77 (fun v916 H locs h915 HX917 => ?_)
                  have h_markReferredFrom := h915.1
                  refine lv_iinc (v := nI (j + 1)) (lv' := [(1, .int (nI (j + 1))), (0, .ref (fa_B G + (b)))]) hx hb dX3_markReasons_80 hl (k := 1) rfl (nI_add (j) 1) (by decide) rfl (fun ls hl => ?_)
                  refine lv_goto (tgt := 37) hx hb dX3_markReasons_83 (by decide) ?_
                  exact ih_37 (j + 1) v916 _ _ _ (by omega) (⟨by omega, hi_37.2.1.tr h_markReferredFrom.1, fun A hok hc => (hi_37.2.2 A hok hc).call (by rw [← hc.n, ← en0]; exact hj) c_54 (h_markReferredFrom.2 A hok (hc.rsn hi_37.2.1) j (by rw [← hc.n, ← en0]; exact hj) rfl c_54)⟩) (lv_sub hl [1, 0] rfl) HX917
        exact LOOP_37 (n0 - 0 + 1) (0) v911 _ _ _ (Nat.lt_succ_self _) (⟨Nat.zero_le _, hi_2.2.1, fun A hok hc => fb_m2.start (by have z := hi_2.2.2 A hok hc; rw [show j = A.n by rw [← hc.n, ← en0]; exact hjn] at z; exact z)⟩) (lv_sub hl [1, 0] rfl) HX912
      · have hj := fa_ltN (by omega) (by omega) c_7
        refine lv_aload_n hx hb dX3_markReasons_10 rfl (lv_at hl 0 rfl) ?_
        refine fa_getr (k := b) (j := b + 1) CX HX912 fl_X3_11 (fa_lt hB 0 (by decide) hn) (fa_s0 hB) rfl hr.1 dX3_markReasons_11 ?_
        refine lv_iload_n hx hb dX3_markReasons_14 rfl (lv_at hl 1 rfl) ?_
        refine fa_aald (k := b + 1) (j := j) (q := fa_pf r b j) CX HX912 (fa_lt hB 1 (by decide) hn) (fa_s1 hB) rfl (by decide) (by omega) (by first | decide | assumption) (fa_pf_at hr (by omega)) dX3_markReasons_15 ?_
        refine lv_aload_n hx hb dX3_markReasons_16 rfl (lv_at hl 0 rfl) ?_
        refine lv_aload_n hx hb dX3_markReasons_17 rfl (lv_at hl 0 rfl) ?_
        refine fa_getr (k := b) (j := b + 1) CX HX912 fl_X3_11 (fa_lt hB 0 (by decide) hn) (fa_s0 hB) rfl hr.1 dX3_markReasons_18 ?_
        refine lv_iload_n hx hb dX3_markReasons_21 rfl (lv_at hl 1 rfl) ?_
        refine fa_aald (k := b + 1) (j := j) (q := fa_pf r b j) CX HX912 (fa_lt hB 1 (by decide) hn) (fa_s1 hB) rfl (by decide) (by omega) (by first | decide | assumption) (fa_pf_at hr (by omega)) dX3_markReasons_22 ?_
        refine fa_callVip (As := [.ref (fa_B G + (fa_pf r b j))]) (rest := [.ref (fa_B G + (fa_pf r b j))]) CX HX912 (g_ownReason l G n hn v911 r b hB hr hI2 (fa_pf r b j) (fa_pf_isF hr (by omega))) ln_X3_164 (fa_lt hB 0 (by decide) hn) (fa_s0 hB) rfl rfl rfl (Nat.le_of_ble_eq_true rfl) hl.1 ⟨Nat.le_of_ble_eq_true rfl, Nat.le_of_ble_eq_true rfl⟩ ⟨Nat.le_refl _, Nat.le_refl _⟩ dX3_markReasons_23 (fun x919 H locs h918 HX920 => ?_)
        have h_ownReason := h918
        refine fa_puti (k := fa_pf r b j) CX HX920 fl_X3_168 (fa_isF_lt hB (fa_pf_isF hr (by omega)) hn) (fa_isF_sh hB (fa_pf_isF hr (by omega))) rfl rfl rfl dX3_markReasons_26 (fun H locs v921 e922 HX923 => ?_)
        refine lv_iinc (v := nI (j + 1)) (lv' := [(1, .int (nI (j + 1))), (0, .ref (fa_B G + (b)))]) hx hb dX3_markReasons_29 hl (k := 1) rfl (nI_add (j) 1) (by decide) rfl (fun ls hl => ?_)
        refine lv_goto (tgt := 2) hx hb dX3_markReasons_32 (by decide) ?_
        exact ih_2 (j + 1) v921 _ _ _ (by omega) (⟨by omega, by rw [e922]; exact fa_rsn.u hi_2.2.1 (fa_pf_isF hr (by omega)), fun A hok hc => fb_mk1.s hok (hc.rsn hi_2.2.1) (hi_2.2.2 A hok hc) (by rw [← hc.n, ← en0]; exact hj) h_ownReason e922⟩) (lv_sub hl [1, 0] rfl) HX923
  exact LOOP_2 (n0 - 0 + 1) (0) v _ _ _ (Nat.lt_succ_self _) (⟨Nat.zero_le _, fa_rsn.rf, fun _ _ _ p hp => absurd hp (Nat.not_lt_zero _)⟩) (lv_sub hl [1, 0] rfl) HX
