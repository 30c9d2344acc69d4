set_option maxHeartbeats 4000000 in
set_option maxRecDepth 100000 in
theorem c_X6_isError (l : Launch) (G : fa_G) (n : Nat) (v : fa_V) (r : fa_R) (a1 : Int32) : fa_MI l G n yX6_isError cX6_isError 1 (some .boolean) 1 [.int (a1)] v r (fun x w => w = (v, r) ∧ (x = if 0 ≤ a1 ∨ a1 = (-6 : Int32) then nI 0 else nI 1)) := by
  refine fa_startZ (by decide +kernel) (Nat.le_of_ble_eq_true rfl) (fun p e s m args below meth c ls Q CX hl HX RET => ?_)
  have hl : lv_has ls 1 [(0, .int (a1))] := hl
  have hx := CX.1.1
  have hb := CX.1.2.1
  refine lv_iload_n hx hb dX6_isError_0 rfl (lv_at hl 0 rfl) ?_
  refine lv_if_ge (tgt := 14) hx hb dX6_isError_1 (by decide) (fun c_1 => ?_) (fun c_1 => ?_)
  · refine lv_iconst (v := nI (0)) hx hb dX6_isError_14 (by decide) ?_
    exact RET _ _ _ _ _ _ _ HX dX6_isError_15 (by decide) (⟨rfl, (by simp [c_1])⟩)
  · refine lv_iload_n hx hb dX6_isError_4 rfl (lv_at hl 0 rfl) ?_
    refine lv_bipush (v := (-6 : Int32)) hx hb dX6_isError_5 (by decide) ?_
    refine lv_icmp_eq (tgt := 14) hx hb dX6_isError_7 (by decide) (fun c_7 => ?_) (fun c_7 => ?_)
    · refine lv_iconst (v := nI (0)) hx hb dX6_isError_14 (by decide) ?_
      exact RET _ _ _ _ _ _ _ HX dX6_isError_15 (by decide) (⟨rfl, (by simp [c_1, c_7])⟩)
    · refine lv_iconst (v := nI (1)) hx hb dX6_isError_10 (by decide) ?_
      refine lv_goto (tgt := 15) hx hb dX6_isError_11 (by decide) ?_
      exact RET _ _ _ _ _ _ _ HX dX6_isError_15 (by decide) (⟨rfl, (by simp [c_1, c_7])⟩)
set_option maxHeartbeats 4000000 in
set_option maxRecDepth 100000 in
theorem c_X6_isNoHolder (l : Launch) (G : fa_G) (n : Nat) (v : fa_V) (r : fa_R) (a1 : Int32) : fa_MI l G n yX6_isNoHolder cX6_isNoHolder 1 (some .boolean) 1 [.int (a1)] v r (fun x w => w = (v, r) ∧ (x = if a1 < 0 ∨ ¬ a1 < nI 8 then nI 1 else nI 0)) := by
  refine fa_startZ (by decide +kernel) (Nat.le_of_ble_eq_true rfl) (fun p e s m args below meth c ls Q CX hl HX RET => ?_)
  have hl : lv_has ls 1 [(0, .int (a1))] := hl
  have hx := CX.1.1
  have hb := CX.1.2.1
  refine lv_iload_n hx hb dX6_isNoHolder_0 rfl (lv_at hl 0 rfl) ?_
  refine lv_if_lt (tgt := 10) hx hb dX6_isNoHolder_1 (by decide) (fun c_1 => ?_) (fun c_1 => ?_)
  · refine lv_iconst (v := nI (1)) hx hb dX6_isNoHolder_10 (by decide) ?_
    refine lv_goto (tgt := 15) hx hb dX6_isNoHolder_11 (by decide) ?_
    exact RET _ _ _ _ _ _ _ HX dX6_isNoHolder_15 (by decide) (⟨rfl, (by simp [c_1])⟩)
  · refine lv_iload_n hx hb dX6_isNoHolder_4 rfl (lv_at hl 0 rfl) ?_
    refine lv_bipush (v := nI (8)) hx hb dX6_isNoHolder_5 (by decide) ?_
    refine lv_icmp_lt (tgt := 14) hx hb dX6_isNoHolder_7 (by decide) (fun c_7 => ?_) (fun c_7 => ?_)
    · refine lv_iconst (v := nI (0)) hx hb dX6_isNoHolder_14 (by decide) ?_
      exact RET _ _ _ _ _ _ _ HX dX6_isNoHolder_15 (by decide) (⟨rfl, (by simp [c_1, c_7])⟩)
    · refine lv_iconst (v := nI (1)) hx hb dX6_isNoHolder_10 (by decide) ?_
      refine lv_goto (tgt := 15) hx hb dX6_isNoHolder_11 (by decide) ?_
      exact RET _ _ _ _ _ _ _ HX dX6_isNoHolder_15 (by decide) (⟨rfl, (by simp [c_1, c_7])⟩)
set_option maxHeartbeats 4000000 in
set_option maxRecDepth 100000 in
theorem c_X6_isNoSetting (l : Launch) (G : fa_G) (n : Nat) (v : fa_V) (r : fa_R) (a1 : Int32) : fa_MI l G n yX6_isNoSetting cX6_isNoSetting 1 (some .boolean) 1 [.int (a1)] v r (fun x w => w = (v, r) ∧ (x = if a1 < 0 ∨ ¬ a1 < nI 7 then nI 1 else nI 0)) := by
  refine fa_startZ (by decide +kernel) (Nat.le_of_ble_eq_true rfl) (fun p e s m args below meth c ls Q CX hl HX RET => ?_)
  have hl : lv_has ls 1 [(0, .int (a1))] := hl
  have hx := CX.1.1
  have hb := CX.1.2.1
  refine lv_iload_n hx hb dX6_isNoSetting_0 rfl (lv_at hl 0 rfl) ?_
  refine lv_if_lt (tgt := 10) hx hb dX6_isNoSetting_1 (by decide) (fun c_1 => ?_) (fun c_1 => ?_)
  · refine lv_iconst (v := nI (1)) hx hb dX6_isNoSetting_10 (by decide) ?_
    refine lv_goto (tgt := 15) hx hb dX6_isNoSetting_11 (by decide) ?_
    exact RET _ _ _ _ _ _ _ HX dX6_isNoSetting_15 (by decide) (⟨rfl, (by simp [c_1])⟩)
  · refine lv_iload_n hx hb dX6_isNoSetting_4 rfl (lv_at hl 0 rfl) ?_
    refine lv_bipush (v := nI (7)) hx hb dX6_isNoSetting_5 (by decide) ?_
    refine lv_icmp_lt (tgt := 14) hx hb dX6_isNoSetting_7 (by decide) (fun c_7 => ?_) (fun c_7 => ?_)
    · refine lv_iconst (v := nI (0)) hx hb dX6_isNoSetting_14 (by decide) ?_
      exact RET _ _ _ _ _ _ _ HX dX6_isNoSetting_15 (by decide) (⟨rfl, (by simp [c_1, c_7])⟩)
    · refine lv_iconst (v := nI (1)) hx hb dX6_isNoSetting_10 (by decide) ?_
      refine lv_goto (tgt := 15) hx hb dX6_isNoSetting_11 (by decide) ?_
      exact RET _ _ _ _ _ _ _ HX dX6_isNoSetting_15 (by decide) (⟨rfl, (by simp [c_1, c_7])⟩)
set_option maxHeartbeats 4000000 in
set_option maxRecDepth 100000 in
theorem p1_find (l : Launch) (G : fa_G) (n : Nat) (hn : 397 ≤ n) (v : fa_V) (r : fa_R) (b : Nat) (hB : b ∈ fa_bs) (hr : fa_RS r b) (a1 : Int32) (h1 : v b 1 = 0) : fa_MR l G n yX3_find cX3_find 3 (some (.object RX4)) 1 [.ref (fa_B G + (b)), .int (a1)] v r (fun x w => w = (v, r) ∧ (x = none)) := by
  refine fa_startR (by decide +kernel) (Nat.le_of_ble_eq_true rfl) (fun p e s m args below meth c ls Q CX hl HX RET => ?_)
  have hl : lv_has ls 3 [(0, .ref (fa_B G + (b))), (1, .int (a1))] := hl
  have hx := CX.1.1
  have hb := CX.1.2.1
  refine lv_iconst (v := nI (0)) hx hb dX3_find_0 (by decide) ?_
  refine lv_istore_n (lv' := [(2, .int (nI (0))), (0, .ref (fa_B G + (b))), (1, .int (a1))]) hx hb dX3_find_1 rfl hl (by decide) rfl (fun ls hl => ?_)
  refine lv_iload_n hx hb dX3_find_2 rfl (lv_at hl 0 rfl) ?_
  refine lv_aload_n hx hb dX3_find_3 rfl (lv_at hl 1 rfl) ?_
  refine fa_geti (k := b) CX HX fl_X3_49 (fa_lt hB 0 (by decide) hn) (fa_s0 hB) rfl dX3_find_4 ?_
  have ky_7 : v b 1 = (0 : Int32) := h1
  refine lv_icmp_ge (tgt := 36) hx hb dX3_find_7 (by decide) (fun c_7 => ?_) (fun c_7 => ?_)
  · refine lv_null hx hb dX3_find_36 ?_
    exact RET none _ _ _ _ _ _ _ HX dX3_find_37 rfl (⟨rfl, rfl⟩)
  · exact absurd (by rw [ky_7]; try decide) c_7
set_option maxHeartbeats 4000000 in
set_option maxRecDepth 100000 in
theorem p1_placeOf (l : Launch) (G : fa_G) (n : Nat) (hn : 397 ≤ n) (v : fa_V) (r : fa_R) (b : Nat) (hB : b ∈ fa_bs) (hr : fa_RS r b) (a1 a2 : Int32) (h3 : v (b + 2) 0 = 0) : fa_MI l G n yX2_placeOf cX2_placeOf 4 (some .int) 1 [.ref (fa_B G + (b + 2)), .int (a1), .int (a2)] v r (fun x w => w = (v, r) ∧ (x = (-1 : Int32))) := by
  refine fa_startI (by decide +kernel) (Nat.le_of_ble_eq_true rfl) (fun p e s m args below meth c ls Q CX hl HX RET => ?_)
  have hl : lv_has ls 4 [(0, .ref (fa_B G + (b + 2))), (1, .int (a1)), (2, .int (a2))] := hl
  have hx := CX.1.1
  have hb := CX.1.2.1
  refine lv_iconst (v := nI (0)) hx hb dX2_placeOf_0 (by decide) ?_
  refine lv_istore_n (lv' := [(3, .int (nI (0))), (0, .ref (fa_B G + (b + 2))), (1, .int (a1)), (2, .int (a2))]) hx hb dX2_placeOf_1 rfl hl (by decide) rfl (fun ls hl => ?_)
  refine lv_iload_n hx hb dX2_placeOf_2 rfl (lv_at hl 0 rfl) ?_
  refine lv_aload_n hx hb dX2_placeOf_3 rfl (lv_at hl 1 rfl) ?_
  refine fa_geti (k := b + 2) CX HX fl_X2_18 (fa_lt hB 2 (by decide) hn) (fa_s2 hB) rfl dX2_placeOf_4 ?_
  have ky_7 : v (b + 2) 0 = (0 : Int32) := h3
  refine lv_icmp_ge (tgt := 38) hx hb dX2_placeOf_7 (by decide) (fun c_7 => ?_) (fun c_7 => ?_)
  · refine lv_iconst (v := (-1 : Int32)) hx hb dX2_placeOf_38 (by decide) ?_
    exact RET _ _ _ _ _ _ _ HX dX2_placeOf_39 (⟨rfl, rfl⟩)
  · exact absurd (by rw [ky_7]; try decide) c_7
set_option maxHeartbeats 4000000 in
set_option maxRecDepth 100000 in
theorem p1_storedPages (l : Launch) (G : fa_G) (n : Nat) (hn : 397 ≤ n) (v : fa_V) (r : fa_R) (b : Nat) (hB : b ∈ fa_bs) (hr : fa_RS r b) (h1 : v b 1 = 0) : fa_MI l G n yX3_storedPages cX3_storedPages 3 (some .int) 1 [.ref (fa_B G + (b))] v r (fun x w => w = (v, r) ∧ (x = nI 0)) := by
  refine fa_startI (by decide +kernel) (Nat.le_of_ble_eq_true rfl) (fun p e s m args below meth c ls Q CX hl HX RET => ?_)
  have hl : lv_has ls 3 [(0, .ref (fa_B G + (b)))] := hl
  have hx := CX.1.1
  have hb := CX.1.2.1
  refine lv_iconst (v := nI (0)) hx hb dX3_storedPages_0 (by decide) ?_
  refine lv_istore_n (lv' := [(1, .int (nI (0))), (0, .ref (fa_B G + (b)))]) hx hb dX3_storedPages_1 rfl hl (by decide) rfl (fun ls hl => ?_)
  refine lv_iconst (v := nI (0)) hx hb dX3_storedPages_2 (by decide) ?_
  refine lv_istore_n (lv' := [(2, .int (nI (0))), (1, .int (nI (0))), (0, .ref (fa_B G + (b)))]) hx hb dX3_storedPages_3 rfl hl (by decide) rfl (fun ls hl => ?_)
  refine lv_iload_n hx hb dX3_storedPages_4 rfl (lv_at hl 0 rfl) ?_
  refine lv_aload_n hx hb dX3_storedPages_5 rfl (lv_at hl 2 rfl) ?_
  refine fa_geti (k := b) CX HX fl_X3_49 (fa_lt hB 0 (by decide) hn) (fa_s0 hB) rfl dX3_storedPages_6 ?_
  have ky_9 : v b 1 = (0 : Int32) := h1
  refine lv_icmp_ge (tgt := 30) hx hb dX3_storedPages_9 (by decide) (fun c_9 => ?_) (fun c_9 => ?_)
  · refine lv_iload_n hx hb dX3_storedPages_30 rfl (lv_at hl 1 rfl) ?_
    exact RET _ _ _ _ _ _ _ HX dX3_storedPages_31 (⟨rfl, rfl⟩)
  · exact absurd (by rw [ky_9]; try decide) c_9
set_option maxHeartbeats 4000000 in
set_option maxRecDepth 100000 in
theorem c_J7_fill_53178 (l : Launch) (G : fa_G) (n : Nat) (v : fa_V) (r : fa_R) (k len : Nat) (hk : k < n) (hsh : fa_sh k = .inl (0, len)) (hlen : len < 2 ^ 31) (a2 : Int32) : fa_MV l G n yJ7_fill_53178 cJ7_fill_53178 4 1 [.ref (fa_B G + (k)), .int (a2)] v r (fa_vo r (fun v1 => ((∀ i, i < len → v1 k i = a2) ∧ ∀ i, ¬ i < len → v1 k i = v k i) ∧ (fa_fr (k) (k + 1) v v1))) := by
  refine fa_startV (by decide +kernel) (Nat.le_of_ble_eq_true rfl) (fun p e s m args below meth c ls Q CX hl HX RET => ?_)
  have hl : lv_has ls 4 [(0, .ref (fa_B G + (k))), (1, .int (a2))] := hl
  have hx := CX.1.1
  have hb := CX.1.2.1
  refine lv_iconst (v := nI (0)) hx hb dJ7_fill_53178_0 (by decide) ?_
  refine lv_istore_n (lv' := [(2, .int (nI (0))), (0, .ref (fa_B G + (k))), (1, .int (a2))]) hx hb dJ7_fill_53178_1 rfl hl (by decide) rfl (fun ls hl => ?_)
  refine lv_aload_n hx hb dJ7_fill_53178_2 rfl (lv_at hl 1 rfl) ?_
  refine fa_alen (k := k) (len := len) CX HX hk hsh dJ7_fill_53178_3 ?_
  refine lv_istore_n (lv' := [(3, .int (nI (len))), (2, .int (nI (0))), (0, .ref (fa_B G + (k))), (1, .int (a2))]) hx hb dJ7_fill_53178_4 rfl hl (by decide) rfl (fun ls hl => ?_)
  have LOOP_5 : ∀ (fu : Nat) (i : Nat) (v1 : fa_V) (H : Heap) (locs : List Loc) (ls : Array Slot), len - i < fu → (i ≤ len ∧ (∀ j, j < i → v1 k j = a2) ∧ (∀ j, ¬ j < i → v1 k j = v k j) ∧ fa_fr k (k + 1) v v1) → lv_has ls 4 [(0, .ref (fa_B G + (k))), (1, .int (a2)), (2, .int (nI (i))), (3, .int (nI (len)))] → fa_HX G (n) v1 r s H locs → W p l e (fa_rm 1) s m args below meth c H locs (0) (0) Q (F0 m 5 ls []) := by
    intro fu
    induction fu with
    | zero => intro i v1 H locs ls hk; exact absurd hk (Nat.not_lt_zero _)
    | succ fu ih_5 =>
      intro i v1 H locs ls hk_5 hi_5 hl HX2
      refine lv_iload_n hx hb dJ7_fill_53178_5 rfl (lv_at hl 2 rfl) ?_
      refine lv_iload_n hx hb dJ7_fill_53178_6 rfl (lv_at hl 3 rfl) ?_
      refine lv_icmp_ge (tgt := 20) hx hb dJ7_fill_53178_7 (by decide) (fun c_7 => ?_) (fun c_7 => ?_)
      · have z1 : len ≤ i := (nI_leI (by omega) (by omega)).mp c_7
        have z2 : i = len := by omega
        rw [z2] at hi_5
        exact RET _ _ _ _ _ _ HX2 dJ7_fill_53178_20 (⟨rfl, ⟨⟨hi_5.2.1, hi_5.2.2.1⟩, (fa_fr.tr fa_fr.rf (fa_fr.wide hi_5.2.2.2 (by omega) (by omega)))⟩⟩)
      · have z1 : i < len := by
          refine Nat.lt_of_not_le (fun q => c_7 ?_)
          exact (nI_leI (by omega) (by omega)).mpr q
        refine lv_aload_n hx hb dJ7_fill_53178_10 rfl (lv_at hl 0 rfl) ?_
        refine lv_iload_n hx hb dJ7_fill_53178_11 rfl (lv_at hl 2 rfl) ?_
        refine lv_iload_n hx hb dJ7_fill_53178_12 rfl (lv_at hl 1 rfl) ?_
        refine fa_iast (k := k) (j := i) CX HX2 hk hsh (by omega) (by first | decide | assumption) dJ7_fill_53178_13 (fun H locs v3 e4 HX5 => ?_)
        refine lv_iinc (v := nI (i + 1)) (lv' := [(2, .int (nI (i + 1))), (0, .ref (fa_B G + (k))), (1, .int (a2)), (3, .int (nI (len)))]) hx hb dJ7_fill_53178_14 hl (k := 2) rfl (nI_add (i) 1) (by decide) rfl (fun ls hl => ?_)
        refine lv_goto (tgt := 5) hx hb dJ7_fill_53178_17 (by decide) ?_
        exact ih_5 (i + 1) v3 _ _ _ (by omega) (⟨by omega, fa_fill1 hi_5.2.1 e4, fa_fill2 hi_5.2.2.1 e4, (by rw [e4]; exact fa_fr.u (fa_fr.tr fa_fr.rf (fa_fr.wide hi_5.2.2.2 (by omega) (by omega))) (by omega))⟩) (lv_sub hl [1, 2, 0, 3] rfl) HX5
  exact LOOP_5 (len - 0 + 1) (0) v _ _ _ (Nat.lt_succ_self _) (⟨Nat.zero_le _, fun j hj => absurd hj (Nat.not_lt_zero _), fun j _ => rfl, fa_fr.rf⟩) (lv_sub hl [2, 3, 1, 0] rfl) HX
