set_option maxHeartbeats 4000000 in
set_option maxRecDepth 100000 in
theorem g_find (l : Launch) (G : fa_G) (n : Nat) (hn : 397 ≤ n) (v : fa_V) (r : fa_R) (b : Nat) (hB : b ∈ fa_bs) (hr : fa_RS r b) (hI : fa_IS v b) (a1 : Int32) : fa_MR l G n yX3_find cX3_find 3 (some (.object RX4)) 1 [.ref (fa_B G + (b)), .int (a1)] v r (fun x w => w = (v, r) ∧ ((∀ q, x = some q → fa_isF b q ∧ ∃ p, p < fa_N (v b 1) ∧ q = fa_pf r b p ∧ v q 0 = a1 ∧ ∀ k, k < p → ¬ v (fa_pf r b k) 0 = a1) ∧ (x = none → ∀ k, k < fa_N (v b 1) → ¬ v (fa_pf r b k) 0 = a1))) := by
  refine fa_startR (by decide +kernel) (Nat.le_of_ble_eq_true rfl) (fun p e s m args below meth c ls Q CX hl HX RET => ?_)
  have hl : lv_has ls 3 [(0, .ref (fa_B G + (b))), (1, .int (a1))] := hl
  have hx := CX.1.1
  have hb := CX.1.2.1
  obtain ⟨n0, en0⟩ : ∃ n0, n0 = fa_N (v b 1) := ⟨_, rfl⟩
  obtain ⟨hn0, h1⟩ := hI.n1 en0
  refine lv_iconst (v := nI (0)) hx hb dX3_find_0 (by decide) ?_
  refine lv_istore_n (lv' := [(2, .int (nI (0))), (0, .ref (fa_B G + (b))), (1, .int (a1))]) hx hb dX3_find_1 rfl hl (by decide) rfl (fun ls hl => ?_)
  have LOOP_2 : ∀ (fu : Nat) (j : Nat) (H : Heap) (locs : List Loc) (ls : Array Slot), n0 - j < fu → (j ≤ n0 ∧ ∀ k, k < j → ¬ v (fa_pf r b k) 0 = a1) → lv_has ls 3 [(0, .ref (fa_B G + (b))), (1, .int (a1)), (2, .int (nI (j)))] → fa_HX G (n) v r s H locs → W p l e (fa_rm 1) s m args below meth c H locs (0) (0) Q (F0 m 2 ls []) := by
    intro fu
    induction fu with
    | zero => intro j H locs ls hk; exact absurd hk (Nat.not_lt_zero _)
    | succ fu ih_2 =>
      intro j H locs ls hk_2 hi_2 hl HX877
      refine lv_iload_n hx hb dX3_find_2 rfl (lv_at hl 2 rfl) ?_
      refine lv_aload_n hx hb dX3_find_3 rfl (lv_at hl 0 rfl) ?_
      refine fa_geti (k := b) CX HX877 fl_X3_49 (fa_lt hB 0 (by decide) hn) (fa_s0 hB) rfl dX3_find_4 ?_
      rw [show v b 1 = nI (n0) from h1]
      refine lv_icmp_ge (tgt := 36) hx hb dX3_find_7 (by decide) (fun c_7 => ?_) (fun c_7 => ?_)
      · have he : j = n0 := by
          have := fa_leN (by omega) (by omega) c_7
          omega
        refine lv_null hx hb dX3_find_36 ?_
        exact RET none _ _ _ _ _ _ _ HX877 dX3_find_37 rfl (⟨rfl, ⟨(fun q hq => by cases hq), (fun _ k hk => hi_2.2 k (by rw [he, en0]; exact hk))⟩⟩)
      · have hj := fa_ltN (by omega) (by omega) c_7
        refine lv_aload_n hx hb dX3_find_10 rfl (lv_at hl 0 rfl) ?_
        refine fa_getr (k := b) (j := b + 1) CX HX877 fl_X3_11 (fa_lt hB 0 (by decide) hn) (fa_s0 hB) rfl hr.1 dX3_find_11 ?_
        refine lv_iload_n hx hb dX3_find_14 rfl (lv_at hl 2 rfl) ?_
        refine fa_aald (k := b + 1) (j := j) (q := fa_pf r b j) CX HX877 (fa_lt hB 1 (by decide) hn) (fa_s1 hB) rfl (by decide) (by omega) (by first | decide | assumption) (fa_pf_at hr (by omega)) dX3_find_15 ?_
        refine fa_geti (k := fa_pf r b j) CX HX877 fl_X3_177 (fa_isF_lt hB (fa_pf_isF hr (by omega)) hn) (fa_isF_sh hB (fa_pf_isF hr (by omega))) rfl dX3_find_16 ?_
        refine lv_iload_n hx hb dX3_find_19 rfl (lv_at hl 1 rfl) ?_
        refine lv_icmp_ne (tgt := 30) hx hb dX3_find_20 (by decide) (fun c_20 => ?_) (fun c_20 => ?_)
        · refine lv_iinc (v := nI (j + 1)) (lv' := [(2, .int (nI (j + 1))), (0, .ref (fa_B G + (b))), (1, .int (a1))]) hx hb dX3_find_30 hl (k := 2) rfl (nI_add (j) 1) (by decide) rfl (fun ls hl => ?_)
          refine lv_goto (tgt := 2) hx hb dX3_find_33 (by decide) ?_
          exact ih_2 (j + 1)  _ _ _ (by omega) (⟨by omega, lt_s hi_2.2 c_20⟩) (lv_sub hl [1, 2, 0] rfl) HX877
        · refine lv_aload_n hx hb dX3_find_23 rfl (lv_at hl 0 rfl) ?_
          refine fa_getr (k := b) (j := b + 1) CX HX877 fl_X3_11 (fa_lt hB 0 (by decide) hn) (fa_s0 hB) rfl hr.1 dX3_find_24 ?_
          refine lv_iload_n hx hb dX3_find_27 rfl (lv_at hl 2 rfl) ?_
          refine fa_aald (k := b + 1) (j := j) (q := fa_pf r b j) CX HX877 (fa_lt hB 1 (by decide) hn) (fa_s1 hB) rfl (by decide) (by omega) (by first | decide | assumption) (fa_pf_at hr (by omega)) dX3_find_28 ?_
          exact RET (some (fa_pf r b j)) _ _ _ _ _ _ _ HX877 dX3_find_29 rfl (⟨rfl, ⟨(fun q hq => by (cases hq; exact ⟨fa_pf_isF hr (by omega), j, (by rw [← en0]; exact hj), rfl, c_20, hi_2.2⟩)), (fun h => by cases h)⟩⟩)
  exact LOOP_2 (n0 - 0 + 1) (0)  _ _ _ (Nat.lt_succ_self _) (⟨Nat.zero_le _, fun k hk => absurd hk (Nat.not_lt_zero _)⟩) (lv_sub hl [1, 2, 0] rfl) HX
set_option maxHeartbeats 4000000 in
set_option maxRecDepth 100000 in
theorem g_storedPages (l : Launch) (G : fa_G) (n : Nat) (hn : 397 ≤ n) (v : fa_V) (r : fa_R) (b : Nat) (hB : b ∈ fa_bs) (hr : fa_RS r b) (hI : fa_IS v b) : fa_MI l G n yX3_storedPages cX3_storedPages 3 (some .int) 1 [.ref (fa_B G + (b))] v r (fun x w => w = (v, r) ∧ (x = fa_sum (fun p => v (fa_pf r b p) 2) (fa_N (v b 1)))) := by
  refine fa_startI (by decide +kernel) (Nat.le_of_ble_eq_true rfl) (fun p e s m args below meth c ls Q CX hl HX RET => ?_)
  have hl : lv_has ls 3 [(0, .ref (fa_B G + (b)))] := hl
  have hx := CX.1.1
  have hb := CX.1.2.1
  obtain ⟨n0, en0⟩ : ∃ n0, n0 = fa_N (v b 1) := ⟨_, rfl⟩
  obtain ⟨hn0, h1⟩ := hI.n1 en0
  refine lv_iconst (v := nI (0)) hx hb dX3_storedPages_0 (by decide) ?_
  refine lv_istore_n (lv' := [(1, .int (nI (0))), (0, .ref (fa_B G + (b)))]) hx hb dX3_storedPages_1 rfl hl (by decide) rfl (fun ls hl => ?_)
  refine lv_iconst (v := nI (0)) hx hb dX3_storedPages_2 (by decide) ?_
  refine lv_istore_n (lv' := [(2, .int (nI (0))), (1, .int (nI (0))), (0, .ref (fa_B G + (b)))]) hx hb dX3_storedPages_3 rfl hl (by decide) rfl (fun ls hl => ?_)
  have LOOP_4 : ∀ (fu : Nat) (j : Nat) (acc : Int32) (H : Heap) (locs : List Loc) (ls : Array Slot), n0 - j < fu → (j ≤ n0 ∧ acc = fa_sum (fun p => v (fa_pf r b p) 2) j) → lv_has ls 3 [(0, .ref (fa_B G + (b))), (1, .int (acc)), (2, .int (nI (j)))] → fa_HX G (n) v r s H locs → W p l e (fa_rm 1) s m args below meth c H locs (0) (0) Q (F0 m 4 ls []) := by
    intro fu
    induction fu with
    | zero => intro j acc H locs ls hk; exact absurd hk (Nat.not_lt_zero _)
    | succ fu ih_4 =>
      intro j acc H locs ls hk_4 hi_4 hl HX878
      refine lv_iload_n hx hb dX3_storedPages_4 rfl (lv_at hl 2 rfl) ?_
      refine lv_aload_n hx hb dX3_storedPages_5 rfl (lv_at hl 0 rfl) ?_
      refine fa_geti (k := b) CX HX878 fl_X3_49 (fa_lt hB 0 (by decide) hn) (fa_s0 hB) rfl dX3_storedPages_6 ?_
      rw [show v b 1 = nI (n0) from h1]
      refine lv_icmp_ge (tgt := 30) hx hb dX3_storedPages_9 (by decide) (fun c_9 => ?_) (fun c_9 => ?_)
      · have he : j = n0 := by
          have := fa_leN (by omega) (by omega) c_9
          omega
        refine lv_iload_n hx hb dX3_storedPages_30 rfl (lv_at hl 1 rfl) ?_
        exact RET _ _ _ _ _ _ _ HX878 dX3_storedPages_31 (⟨rfl, (by rw [hi_4.2, he, en0])⟩)
      · have hj := fa_ltN (by omega) (by omega) c_9
        refine lv_iload_n hx hb dX3_storedPages_12 rfl (lv_at hl 1 rfl) ?_
        refine lv_aload_n hx hb dX3_storedPages_13 rfl (lv_at hl 0 rfl) ?_
        refine fa_getr (k := b) (j := b + 1) CX HX878 fl_X3_11 (fa_lt hB 0 (by decide) hn) (fa_s0 hB) rfl hr.1 dX3_storedPages_14 ?_
        refine lv_iload_n hx hb dX3_storedPages_17 rfl (lv_at hl 2 rfl) ?_
        refine fa_aald (k := b + 1) (j := j) (q := fa_pf r b j) CX HX878 (fa_lt hB 1 (by decide) hn) (fa_s1 hB) rfl (by decide) (by omega) (by first | decide | assumption) (fa_pf_at hr (by omega)) dX3_storedPages_18 ?_
        refine fa_geti (k := fa_pf r b j) CX HX878 fl_X3_183 (fa_isF_lt hB (fa_pf_isF hr (by omega)) hn) (fa_isF_sh hB (fa_pf_isF hr (by omega))) rfl dX3_storedPages_19 ?_
        refine lv_iadd hx hb dX3_storedPages_22 ?_
        refine lv_istore_n (lv' := [(1, .int ((acc) + (v (fa_pf r b j) 2))), (0, .ref (fa_B G + (b))), (2, .int (nI (j)))]) hx hb dX3_storedPages_23 rfl hl (by decide) rfl (fun ls hl => ?_)
        refine lv_iinc (v := nI (j + 1)) (lv' := [(2, .int (nI (j + 1))), (1, .int ((acc) + (v (fa_pf r b j) 2))), (0, .ref (fa_B G + (b)))]) hx hb dX3_storedPages_24 hl (k := 2) rfl (nI_add (j) 1) (by decide) rfl (fun ls hl => ?_)
        refine lv_goto (tgt := 4) hx hb dX3_storedPages_27 (by decide) ?_
        exact ih_4 (j + 1) ((acc) + (v (fa_pf r b j) 2))  _ _ _ (by omega) (⟨by omega, by rw [hi_4.2]; rfl⟩) (lv_sub hl [2, 1, 0] rfl) HX878
  exact LOOP_4 (n0 - 0 + 1) (0) (nI (0))  _ _ _ (Nat.lt_succ_self _) (⟨Nat.zero_le _, rfl⟩) (lv_sub hl [2, 1, 0] rfl) HX
set_option maxHeartbeats 4000000 in
set_option maxRecDepth 100000 in
theorem g_sumOfAges (l : Launch) (G : fa_G) (n : Nat) (hn : 397 ≤ n) (v : fa_V) (r : fa_R) (b : Nat) (hB : b ∈ fa_bs) (hr : fa_RS r b) (hI : fa_IS v b) : fa_MI l G n yX3_sumOfAges cX3_sumOfAges 3 (some .int) 1 [.ref (fa_B G + (b))] v r (fun x w => w = (v, r) ∧ (x = fa_sum (fun p => v b 0 - v (fa_pf r b p) 3) (fa_N (v b 1)))) := by
  refine fa_startI (by decide +kernel) (Nat.le_of_ble_eq_true rfl) (fun p e s m args below meth c ls Q CX hl HX RET => ?_)
  have hl : lv_has ls 3 [(0, .ref (fa_B G + (b)))] := hl
  have hx := CX.1.1
  have hb := CX.1.2.1
  obtain ⟨n0, en0⟩ : ∃ n0, n0 = fa_N (v b 1) := ⟨_, rfl⟩
  obtain ⟨hn0, h1⟩ := hI.n1 en0
  refine lv_iconst (v := nI (0)) hx hb dX3_sumOfAges_0 (by decide) ?_
  refine lv_istore_n (lv' := [(1, .int (nI (0))), (0, .ref (fa_B G + (b)))]) hx hb dX3_sumOfAges_1 rfl hl (by decide) rfl (fun ls hl => ?_)
  refine lv_iconst (v := nI (0)) hx hb dX3_sumOfAges_2 (by decide) ?_
  refine lv_istore_n (lv' := [(2, .int (nI (0))), (1, .int (nI (0))), (0, .ref (fa_B G + (b)))]) hx hb dX3_sumOfAges_3 rfl hl (by decide) rfl (fun ls hl => ?_)
  have LOOP_4 : ∀ (fu : Nat) (j : Nat) (acc : Int32) (H : Heap) (locs : List Loc) (ls : Array Slot), n0 - j < fu → (j ≤ n0 ∧ acc = fa_sum (fun p => v b 0 - v (fa_pf r b p) 3) j) → lv_has ls 3 [(0, .ref (fa_B G + (b))), (1, .int (acc)), (2, .int (nI (j)))] → fa_HX G (n) v r s H locs → W p l e (fa_rm 1) s m args below meth c H locs (0) (0) Q (F0 m 4 ls []) := by
    intro fu
    induction fu with
    | zero => intro j acc H locs ls hk; exact absurd hk (Nat.not_lt_zero _)
    | succ fu ih_4 =>
      intro j acc H locs ls hk_4 hi_4 hl HX879
      refine lv_iload_n hx hb dX3_sumOfAges_4 rfl (lv_at hl 2 rfl) ?_
      refine lv_aload_n hx hb dX3_sumOfAges_5 rfl (lv_at hl 0 rfl) ?_
      refine fa_geti (k := b) CX HX879 fl_X3_49 (fa_lt hB 0 (by decide) hn) (fa_s0 hB) rfl dX3_sumOfAges_6 ?_
      rw [show v b 1 = nI (n0) from h1]
      refine lv_icmp_ge (tgt := 35) hx hb dX3_sumOfAges_9 (by decide) (fun c_9 => ?_) (fun c_9 => ?_)
      · have he : j = n0 := by
          have := fa_leN (by omega) (by omega) c_9
          omega
        refine lv_iload_n hx hb dX3_sumOfAges_35 rfl (lv_at hl 1 rfl) ?_
        exact RET _ _ _ _ _ _ _ HX879 dX3_sumOfAges_36 (⟨rfl, (by rw [hi_4.2, he, en0])⟩)
      · have hj := fa_ltN (by omega) (by omega) c_9
        refine lv_iload_n hx hb dX3_sumOfAges_12 rfl (lv_at hl 1 rfl) ?_
        refine lv_aload_n hx hb dX3_sumOfAges_13 rfl (lv_at hl 0 rfl) ?_
        refine fa_geti (k := b) CX HX879 fl_X3_45 (fa_lt hB 0 (by decide) hn) (fa_s0 hB) rfl dX3_sumOfAges_14 ?_
        refine lv_aload_n hx hb dX3_sumOfAges_17 rfl (lv_at hl 0 rfl) ?_
        refine fa_getr (k := b) (j := b + 1) CX HX879 fl_X3_11 (fa_lt hB 0 (by decide) hn) (fa_s0 hB) rfl hr.1 dX3_sumOfAges_18 ?_
        refine lv_iload_n hx hb dX3_sumOfAges_21 rfl (lv_at hl 2 rfl) ?_
        refine fa_aald (k := b + 1) (j := j) (q := fa_pf r b j) CX HX879 (fa_lt hB 1 (by decide) hn) (fa_s1 hB) rfl (by decide) (by omega) (by first | decide | assumption) (fa_pf_at hr (by omega)) dX3_sumOfAges_22 ?_
        refine fa_geti (k := fa_pf r b j) CX HX879 fl_X3_190 (fa_isF_lt hB (fa_pf_isF hr (by omega)) hn) (fa_isF_sh hB (fa_pf_isF hr (by omega))) rfl dX3_sumOfAges_23 ?_
        refine lv_isub hx hb dX3_sumOfAges_26 ?_
        refine lv_iadd hx hb dX3_sumOfAges_27 ?_
        refine lv_istore_n (lv' := [(1, .int ((acc) + ((v b 0) - (v (fa_pf r b j) 3)))), (0, .ref (fa_B G + (b))), (2, .int (nI (j)))]) hx hb dX3_sumOfAges_28 rfl hl (by decide) rfl (fun ls hl => ?_)
        refine lv_iinc (v := nI (j + 1)) (lv' := [(2, .int (nI (j + 1))), (1, .int ((acc) + ((v b 0) - (v (fa_pf r b j) 3)))), (0, .ref (fa_B G + (b)))]) hx hb dX3_sumOfAges_29 hl (k := 2) rfl (nI_add (j) 1) (by decide) rfl (fun ls hl => ?_)
        refine lv_goto (tgt := 4) hx hb dX3_sumOfAges_32 (by decide) ?_
        exact ih_4 (j + 1) ((acc) + ((v b 0) - (v (fa_pf r b j) 3)))  _ _ _ (by omega) (⟨by omega, by rw [hi_4.2]; rfl⟩) (lv_sub hl [2, 1, 0] rfl) HX879
  exact LOOP_4 (n0 - 0 + 1) (0) (nI (0))  _ _ _ (Nat.lt_succ_self _) (⟨Nat.zero_le _, rfl⟩) (lv_sub hl [2, 1, 0] rfl) HX
set_option maxHeartbeats 4000000 in
set_option maxRecDepth 100000 in
theorem g_referrersOf (l : Launch) (G : fa_G) (n : Nat) (hn : 397 ≤ n) (v : fa_V) (r : fa_R) (b : Nat) (hB : b ∈ fa_bs) (hr : fa_RS r b) (hI : fa_IS v b) (a1 : Int32) : fa_MI l G n yX3_referrersOf cX3_referrersOf 4 (some .int) 1 [.ref (fa_B G + (b)), .int (a1)] v r (fun x w => w = (v, r) ∧ (x = fa_sum (fun p => if v (fa_pf r b p) 6 = a1 then 1 else 0) (fa_N (v b 1)))) := by
  refine fa_startI (by decide +kernel) (Nat.le_of_ble_eq_true rfl) (fun p e s m args below meth c ls Q CX hl HX RET => ?_)
  have hl : lv_has ls 4 [(0, .ref (fa_B G + (b))), (1, .int (a1))] := hl
  have hx := CX.1.1
  have hb := CX.1.2.1
  obtain ⟨n0, en0⟩ : ∃ n0, n0 = fa_N (v b 1) := ⟨_, rfl⟩
  obtain ⟨hn0, h1⟩ := hI.n1 en0
  refine lv_iconst (v := nI (0)) hx hb dX3_referrersOf_0 (by decide) ?_
  refine lv_istore_n (lv' := [(2, .int (nI (0))), (0, .ref (fa_B G + (b))), (1, .int (a1))]) hx hb dX3_referrersOf_1 rfl hl (by decide) rfl (fun ls hl => ?_)
  refine lv_iconst (v := nI (0)) hx hb dX3_referrersOf_2 (by decide) ?_
  refine lv_istore_n (lv' := [(3, .int (nI (0))), (2, .int (nI (0))), (0, .ref (fa_B G + (b))), (1, .int (a1))]) hx hb dX3_referrersOf_3 rfl hl (by decide) rfl (fun ls hl => ?_)
  have LOOP_4 : ∀ (fu : Nat) (j : Nat) (acc : Int32) (H : Heap) (locs : List Loc) (ls : Array Slot), n0 - j < fu → (j ≤ n0 ∧ acc = fa_sum (fun p => if v (fa_pf r b p) 6 = a1 then 1 else 0) j) → lv_has ls 4 [(0, .ref (fa_B G + (b))), (1, .int (a1)), (2, .int (acc)), (3, .int (nI (j)))] → fa_HX G (n) v r s H locs → W p l e (fa_rm 1) s m args below meth c H locs (0) (0) Q (F0 m 4 ls []) := by
    intro fu
    induction fu with
    | zero => intro j acc H locs ls hk; exact absurd hk (Nat.not_lt_zero _)
    | succ fu ih_4 =>
      intro j acc H locs ls hk_4 hi_4 hl HX880
      refine lv_iload_n hx hb dX3_referrersOf_4 rfl (lv_at hl 3 rfl) ?_
      refine lv_aload_n hx hb dX3_referrersOf_5 rfl (lv_at hl 0 rfl) ?_
      refine fa_geti (k := b) CX HX880 fl_X3_49 (fa_lt hB 0 (by decide) hn) (fa_s0 hB) rfl dX3_referrersOf_6 ?_
      rw [show v b 1 = nI (n0) from h1]
      refine lv_icmp_ge (tgt := 34) hx hb dX3_referrersOf_9 (by decide) (fun c_9 => ?_) (fun c_9 => ?_)
      · have he : j = n0 := by
          have := fa_leN (by omega) (by omega) c_9
          omega
        refine lv_iload_n hx hb dX3_referrersOf_34 rfl (lv_at hl 2 rfl) ?_
        exact RET _ _ _ _ _ _ _ HX880 dX3_referrersOf_35 (⟨rfl, (by rw [hi_4.2, he, en0])⟩)
      · have hj := fa_ltN (by omega) (by omega) c_9
        refine lv_aload_n hx hb dX3_referrersOf_12 rfl (lv_at hl 0 rfl) ?_
        refine fa_getr (k := b) (j := b + 1) CX HX880 fl_X3_11 (fa_lt hB 0 (by decide) hn) (fa_s0 hB) rfl hr.1 dX3_referrersOf_13 ?_
        refine lv_iload_n hx hb dX3_referrersOf_16 rfl (lv_at hl 3 rfl) ?_
        refine fa_aald (k := b + 1) (j := j) (q := fa_pf r b j) CX HX880 (fa_lt hB 1 (by decide) hn) (fa_s1 hB) rfl (by decide) (by omega) (by first | decide | assumption) (fa_pf_at hr (by omega)) dX3_referrersOf_17 ?_
        refine fa_geti (k := fa_pf r b j) CX HX880 fl_X3_114 (fa_isF_lt hB (fa_pf_isF hr (by omega)) hn) (fa_isF_sh hB (fa_pf_isF hr (by omega))) rfl dX3_referrersOf_18 ?_
        refine lv_iload_n hx hb dX3_referrersOf_21 rfl (lv_at hl 1 rfl) ?_
        refine lv_icmp_ne (tgt := 28) hx hb dX3_referrersOf_22 (by decide) (fun c_22 => ?_) (fun c_22 => ?_)
        · refine lv_iinc (v := nI (j + 1)) (lv' := [(3, .int (nI (j + 1))), (0, .ref (fa_B G + (b))), (1, .int (a1)), (2, .int (acc))]) hx hb dX3_referrersOf_28 hl (k := 3) rfl (nI_add (j) 1) (by decide) rfl (fun ls hl => ?_)
          refine lv_goto (tgt := 4) hx hb dX3_referrersOf_31 (by decide) ?_
          exact ih_4 (j + 1) (acc)  _ _ _ (by omega) (⟨by omega, by rw [hi_4.2]; exact fa_sum_f c_22⟩) (lv_sub hl [1, 2, 3, 0] rfl) HX880
        · refine lv_iinc (v := acc + (1)) (lv' := [(2, .int (acc + (1))), (0, .ref (fa_B G + (b))), (1, .int (a1)), (3, .int (nI (j)))]) hx hb dX3_referrersOf_25 hl (k := 2) rfl rfl (by decide) rfl (fun ls hl => ?_)
          refine lv_iinc (v := nI (j + 1)) (lv' := [(3, .int (nI (j + 1))), (2, .int (acc + (1))), (0, .ref (fa_B G + (b))), (1, .int (a1))]) hx hb dX3_referrersOf_28 hl (k := 3) rfl (nI_add (j) 1) (by decide) rfl (fun ls hl => ?_)
          refine lv_goto (tgt := 4) hx hb dX3_referrersOf_31 (by decide) ?_
          exact ih_4 (j + 1) (acc + (1))  _ _ _ (by omega) (⟨by omega, by rw [hi_4.2]; exact fa_sum_t c_22⟩) (lv_sub hl [2, 3, 1, 0] rfl) HX880
  exact LOOP_4 (n0 - 0 + 1) (0) (nI (0))  _ _ _ (Nat.lt_succ_self _) (⟨Nat.zero_le _, rfl⟩) (lv_sub hl [2, 3, 1, 0] rfl) HX
set_option maxHeartbeats 4000000 in
set_option maxRecDepth 100000 in
theorem g_numberFor (l : Launch) (G : fa_G) (n : Nat) (hn : 397 ≤ n) (v : fa_V) (r : fa_R) (b : Nat) (hB : b ∈ fa_bs) (hr : fa_RS r b) (hI : fa_IS v b) (a1 : Int32) : fa_MI l G n yX2_numberFor cX2_numberFor 4 (some .int) 1 [.ref (fa_B G + (b + 2)), .int (a1)] v r (fun x w => w = (v, r) ∧ (x = fa_sum (fun p => if v (b + 3) p = a1 then 1 else 0) (fa_N (v (b + 2) 0)))) := by
  refine fa_startI (by decide +kernel) (Nat.le_of_ble_eq_true rfl) (fun p e s m args below meth c ls Q CX hl HX RET => ?_)
  have hl : lv_has ls 4 [(0, .ref (fa_B G + (b + 2))), (1, .int (a1))] := hl
  have hx := CX.1.1
  have hb := CX.1.2.1
  obtain ⟨n2, en2⟩ : ∃ n2, n2 = fa_N (v (b + 2) 0) := ⟨_, rfl⟩
  obtain ⟨hn2, h2⟩ := hI.n2 en2
  refine lv_iconst (v := nI (0)) hx hb dX2_numberFor_0 (by decide) ?_
  refine lv_istore_n (lv' := [(2, .int (nI (0))), (0, .ref (fa_B G + (b + 2))), (1, .int (a1))]) hx hb dX2_numberFor_1 rfl hl (by decide) rfl (fun ls hl => ?_)
  refine lv_iconst (v := nI (0)) hx hb dX2_numberFor_2 (by decide) ?_
  refine lv_istore_n (lv' := [(3, .int (nI (0))), (2, .int (nI (0))), (0, .ref (fa_B G + (b + 2))), (1, .int (a1))]) hx hb dX2_numberFor_3 rfl hl (by decide) rfl (fun ls hl => ?_)
  have LOOP_4 : ∀ (fu : Nat) (j : Nat) (acc : Int32) (H : Heap) (locs : List Loc) (ls : Array Slot), n2 - j < fu → (j ≤ n2 ∧ acc = fa_sum (fun p => if v (b + 3) p = a1 then 1 else 0) j) → lv_has ls 4 [(0, .ref (fa_B G + (b + 2))), (1, .int (a1)), (2, .int (acc)), (3, .int (nI (j)))] → fa_HX G (n) v r s H locs → W p l e (fa_rm 1) s m args below meth c H locs (0) (0) Q (F0 m 4 ls []) := by
    intro fu
    induction fu with
    | zero => intro j acc H locs ls hk; exact absurd hk (Nat.not_lt_zero _)
    | succ fu ih_4 =>
      intro j acc H locs ls hk_4 hi_4 hl HX881
      refine lv_iload_n hx hb dX2_numberFor_4 rfl (lv_at hl 3 rfl) ?_
      refine lv_aload_n hx hb dX2_numberFor_5 rfl (lv_at hl 0 rfl) ?_
      refine fa_geti (k := b + 2) CX HX881 fl_X2_18 (fa_lt hB 2 (by decide) hn) (fa_s2 hB) rfl dX2_numberFor_6 ?_
      rw [show v (b + 2) 0 = nI (n2) from h2]
      refine lv_icmp_ge (tgt := 31) hx hb dX2_numberFor_9 (by decide) (fun c_9 => ?_) (fun c_9 => ?_)
      · have he : j = n2 := by
          have := fa_leN (by omega) (by omega) c_9
          omega
        refine lv_iload_n hx hb dX2_numberFor_31 rfl (lv_at hl 2 rfl) ?_
        exact RET _ _ _ _ _ _ _ HX881 dX2_numberFor_32 (⟨rfl, (by rw [hi_4.2, he, en2])⟩)
      · have hj := fa_ltN (by omega) (by omega) c_9
        refine lv_aload_n hx hb dX2_numberFor_12 rfl (lv_at hl 0 rfl) ?_
        refine fa_getr (k := b + 2) (j := b + 3) CX HX881 fl_X2_9 (fa_lt hB 2 (by decide) hn) (fa_s2 hB) rfl hr.2.2.2.2.1 dX2_numberFor_13 ?_
        refine lv_iload_n hx hb dX2_numberFor_16 rfl (lv_at hl 3 rfl) ?_
        refine fa_iald (k := b + 3) (j := j) CX HX881 (fa_lt hB 3 (by decide) hn) (fa_s3 hB) (by omega) (by first | decide | assumption) dX2_numberFor_17 ?_
        refine lv_iload_n hx hb dX2_numberFor_18 rfl (lv_at hl 1 rfl) ?_
        refine lv_icmp_ne (tgt := 25) hx hb dX2_numberFor_19 (by decide) (fun c_19 => ?_) (fun c_19 => ?_)
        · refine lv_iinc (v := nI (j + 1)) (lv' := [(3, .int (nI (j + 1))), (0, .ref (fa_B G + (b + 2))), (1, .int (a1)), (2, .int (acc))]) hx hb dX2_numberFor_25 hl (k := 3) rfl (nI_add (j) 1) (by decide) rfl (fun ls hl => ?_)
          refine lv_goto (tgt := 4) hx hb dX2_numberFor_28 (by decide) ?_
          exact ih_4 (j + 1) (acc)  _ _ _ (by omega) (⟨by omega, by rw [hi_4.2]; exact fa_sum_f c_19⟩) (lv_sub hl [1, 2, 3, 0] rfl) HX881
        · refine lv_iinc (v := acc + (1)) (lv' := [(2, .int (acc + (1))), (0, .ref (fa_B G + (b + 2))), (1, .int (a1)), (3, .int (nI (j)))]) hx hb dX2_numberFor_22 hl (k := 2) rfl rfl (by decide) rfl (fun ls hl => ?_)
          refine lv_iinc (v := nI (j + 1)) (lv' := [(3, .int (nI (j + 1))), (2, .int (acc + (1))), (0, .ref (fa_B G + (b + 2))), (1, .int (a1))]) hx hb dX2_numberFor_25 hl (k := 3) rfl (nI_add (j) 1) (by decide) rfl (fun ls hl => ?_)
          refine lv_goto (tgt := 4) hx hb dX2_numberFor_28 (by decide) ?_
          exact ih_4 (j + 1) (acc + (1))  _ _ _ (by omega) (⟨by omega, by rw [hi_4.2]; exact fa_sum_t c_19⟩) (lv_sub hl [2, 3, 1, 0] rfl) HX881
  exact LOOP_4 (n2 - 0 + 1) (0) (nI (0))  _ _ _ (Nat.lt_succ_self _) (⟨Nat.zero_le _, rfl⟩) (lv_sub hl [2, 3, 1, 0] rfl) HX
set_option maxHeartbeats 4000000 in
set_option maxRecDepth 100000 in
theorem g_lowestKeeperOf (l : Launch) (G : fa_G) (n : Nat) (hn : 397 ≤ n) (v : fa_V) (r : fa_R) (b : Nat) (hB : b ∈ fa_bs) (hr : fa_RS r b) (hI : fa_IS v b) (a1 : Int32) : fa_MI l G n yX3_lowestKeeperOf cX3_lowestKeeperOf 3 (some .int) 1 [.ref (fa_B G + (b)), .int (a1)] v r (fun x w => w = (v, r) ∧ ((∃ p, p < fa_N (v b 1) ∧ (v (fa_pf r b p) 6 = a1 ∧ ¬ v (fa_pf r b p) 8 = 0) ∧ x = v (fa_pf r b p) 0 ∧ ∀ k, k < p → ¬ (v (fa_pf r b k) 6 = a1 ∧ ¬ v (fa_pf r b k) 8 = 0)) ∨ (x = (-6 : Int32) ∧ ∀ k, k < fa_N (v b 1) → ¬ (v (fa_pf r b k) 6 = a1 ∧ ¬ v (fa_pf r b k) 8 = 0)))) := by
  refine fa_startI (by decide +kernel) (Nat.le_of_ble_eq_true rfl) (fun p e s m args below meth c ls Q CX hl HX RET => ?_)
  have hl : lv_has ls 3 [(0, .ref (fa_B G + (b))), (1, .int (a1))] := hl
  have hx := CX.1.1
  have hb := CX.1.2.1
  obtain ⟨n0, en0⟩ : ∃ n0, n0 = fa_N (v b 1) := ⟨_, rfl⟩
  obtain ⟨hn0, h1⟩ := hI.n1 en0
  refine lv_iconst (v := nI (0)) hx hb dX3_lowestKeeperOf_0 (by decide) ?_
  refine lv_istore_n (lv' := [(2, .int (nI (0))), (0, .ref (fa_B G + (b))), (1, .int (a1))]) hx hb dX3_lowestKeeperOf_1 rfl hl (by decide) rfl (fun ls hl => ?_)
  have LOOP_2 : ∀ (fu : Nat) (j : Nat) (H : Heap) (locs : List Loc) (ls : Array Slot), n0 - j < fu → (j ≤ n0 ∧ ∀ k, k < j → ¬ (v (fa_pf r b k) 6 = a1 ∧ ¬ v (fa_pf r b k) 8 = 0)) → lv_has ls 3 [(0, .ref (fa_B G + (b))), (1, .int (a1)), (2, .int (nI (j)))] → fa_HX G (n) v r s H locs → W p l e (fa_rm 1) s m args below meth c H locs (0) (0) Q (F0 m 2 ls []) := by
    intro fu
    induction fu with
    | zero => intro j H locs ls hk; exact absurd hk (Nat.not_lt_zero _)
    | succ fu ih_2 =>
      intro j H locs ls hk_2 hi_2 hl HX882
      refine lv_iload_n hx hb dX3_lowestKeeperOf_2 rfl (lv_at hl 2 rfl) ?_
      refine lv_aload_n hx hb dX3_lowestKeeperOf_3 rfl (lv_at hl 0 rfl) ?_
      refine fa_geti (k := b) CX HX882 fl_X3_49 (fa_lt hB 0 (by decide) hn) (fa_s0 hB) rfl dX3_lowestKeeperOf_4 ?_
      rw [show v b 1 = nI (n0) from h1]
      refine lv_icmp_ge (tgt := 51) hx hb dX3_lowestKeeperOf_7 (by decide) (fun c_7 => ?_) (fun c_7 => ?_)
      · have he : j = n0 := by
          have := fa_leN (by omega) (by omega) c_7
          omega
        refine lv_bipush (v := (-6 : Int32)) hx hb dX3_lowestKeeperOf_51 (by decide) ?_
        exact RET _ _ _ _ _ _ _ HX882 dX3_lowestKeeperOf_53 (⟨rfl, (Or.inr ⟨rfl, fun k hk => hi_2.2 k (by rw [he, en0]; exact hk)⟩)⟩)
      · have hj := fa_ltN (by omega) (by omega) c_7
        refine lv_aload_n hx hb dX3_lowestKeeperOf_10 rfl (lv_at hl 0 rfl) ?_
        refine fa_getr (k := b) (j := b + 1) CX HX882 fl_X3_11 (fa_lt hB 0 (by decide) hn) (fa_s0 hB) rfl hr.1 dX3_lowestKeeperOf_11 ?_
        refine lv_iload_n hx hb dX3_lowestKeeperOf_14 rfl (lv_at hl 2 rfl) ?_
        refine fa_aald (k := b + 1) (j := j) (q := fa_pf r b j) CX HX882 (fa_lt hB 1 (by decide) hn) (fa_s1 hB) rfl (by decide) (by omega) (by first | decide | assumption) (fa_pf_at hr (by omega)) dX3_lowestKeeperOf_15 ?_
        refine fa_geti (k := fa_pf r b j) CX HX882 fl_X3_114 (fa_isF_lt hB (fa_pf_isF hr (by omega)) hn) (fa_isF_sh hB (fa_pf_isF hr (by omega))) rfl dX3_lowestKeeperOf_16 ?_
        refine lv_iload_n hx hb dX3_lowestKeeperOf_19 rfl (lv_at hl 1 rfl) ?_
        refine lv_icmp_ne (tgt := 45) hx hb dX3_lowestKeeperOf_20 (by decide) (fun c_20 => ?_) (fun c_20 => ?_)
        · refine lv_iinc (v := nI (j + 1)) (lv' := [(2, .int (nI (j + 1))), (0, .ref (fa_B G + (b))), (1, .int (a1))]) hx hb dX3_lowestKeeperOf_45 hl (k := 2) rfl (nI_add (j) 1) (by decide) rfl (fun ls hl => ?_)
          refine lv_goto (tgt := 2) hx hb dX3_lowestKeeperOf_48 (by decide) ?_
          exact ih_2 (j + 1)  _ _ _ (by omega) (⟨by omega, lt_s hi_2.2 (fun z => c_20 z.1)⟩) (lv_sub hl [1, 2, 0] rfl) HX882
        · refine lv_aload_n hx hb dX3_lowestKeeperOf_23 rfl (lv_at hl 0 rfl) ?_
          refine fa_getr (k := b) (j := b + 1) CX HX882 fl_X3_11 (fa_lt hB 0 (by decide) hn) (fa_s0 hB) rfl hr.1 dX3_lowestKeeperOf_24 ?_
          refine lv_iload_n hx hb dX3_lowestKeeperOf_27 rfl (lv_at hl 2 rfl) ?_
          refine fa_aald (k := b + 1) (j := j) (q := fa_pf r b j) CX HX882 (fa_lt hB 1 (by decide) hn) (fa_s1 hB) rfl (by decide) (by omega) (by first | decide | assumption) (fa_pf_at hr (by omega)) dX3_lowestKeeperOf_28 ?_
          refine fa_geti (k := fa_pf r b j) CX HX882 fl_X3_168 (fa_isF_lt hB (fa_pf_isF hr (by omega)) hn) (fa_isF_sh hB (fa_pf_isF hr (by omega))) rfl dX3_lowestKeeperOf_29 ?_
          refine lv_if_eq (tgt := 45) hx hb dX3_lowestKeeperOf_32 (by decide) (fun c_32 => ?_) (fun c_32 => ?_)
          · refine lv_iinc (v := nI (j + 1)) (lv' := [(2, .int (nI (j + 1))), (0, .ref (fa_B G + (b))), (1, .int (a1))]) hx hb dX3_lowestKeeperOf_45 hl (k := 2) rfl (nI_add (j) 1) (by decide) rfl (fun ls hl => ?_)
            refine lv_goto (tgt := 2) hx hb dX3_lowestKeeperOf_48 (by decide) ?_
            exact ih_2 (j + 1)  _ _ _ (by omega) (⟨by omega, lt_s hi_2.2 (fun z => z.2 c_32)⟩) (lv_sub hl [1, 2, 0] rfl) HX882
          · refine lv_aload_n hx hb dX3_lowestKeeperOf_35 rfl (lv_at hl 0 rfl) ?_
            refine fa_getr (k := b) (j := b + 1) CX HX882 fl_X3_11 (fa_lt hB 0 (by decide) hn) (fa_s0 hB) rfl hr.1 dX3_lowestKeeperOf_36 ?_
            refine lv_iload_n hx hb dX3_lowestKeeperOf_39 rfl (lv_at hl 2 rfl) ?_
            refine fa_aald (k := b + 1) (j := j) (q := fa_pf r b j) CX HX882 (fa_lt hB 1 (by decide) hn) (fa_s1 hB) rfl (by decide) (by omega) (by first | decide | assumption) (fa_pf_at hr (by omega)) dX3_lowestKeeperOf_40 ?_
            refine fa_geti (k := fa_pf r b j) CX HX882 fl_X3_177 (fa_isF_lt hB (fa_pf_isF hr (by omega)) hn) (fa_isF_sh hB (fa_pf_isF hr (by omega))) rfl dX3_lowestKeeperOf_41 ?_
            exact RET _ _ _ _ _ _ _ HX882 dX3_lowestKeeperOf_44 (⟨rfl, (Or.inl ⟨j, (by rw [← en0]; exact hj), ⟨(by first | exact c_20 | exact Decidable.not_not.mp c_20), c_32⟩, rfl, hi_2.2⟩)⟩)
  exact LOOP_2 (n0 - 0 + 1) (0)  _ _ _ (Nat.lt_succ_self _) (⟨Nat.zero_le _, fun k hk => absurd hk (Nat.not_lt_zero _)⟩) (lv_sub hl [1, 2, 0] rfl) HX
set_option maxHeartbeats 4000000 in
set_option maxRecDepth 100000 in
theorem g_placeOf (l : Launch) (G : fa_G) (n : Nat) (hn : 397 ≤ n) (v : fa_V) (r : fa_R) (b : Nat) (hB : b ∈ fa_bs) (hr : fa_RS r b) (hI : fa_IS v b) (a1 : Int32) (a2 : Int32) : fa_MI l G n yX2_placeOf cX2_placeOf 4 (some .int) 1 [.ref (fa_B G + (b + 2)), .int (a1), .int (a2)] v r (fun x w => w = (v, r) ∧ ((x = -1 ∧ ∀ k, k < fa_N (v (b + 2) 0) → ¬ (v (b + 3) k = a1 ∧ v (b + 4) k = a2)) ∨ ∃ k, k < fa_N (v (b + 2) 0) ∧ x = nI k ∧ v (b + 3) k = a1 ∧ v (b + 4) k = a2)) := by
  refine fa_startI (by decide +kernel) (Nat.le_of_ble_eq_true rfl) (fun p e s m args below meth c ls Q CX hl HX RET => ?_)
  have hl : lv_has ls 4 [(0, .ref (fa_B G + (b + 2))), (1, .int (a1)), (2, .int (a2))] := hl
  have hx := CX.1.1
  have hb := CX.1.2.1
  obtain ⟨n2, en2⟩ : ∃ n2, n2 = fa_N (v (b + 2) 0) := ⟨_, rfl⟩
  obtain ⟨hn2, h2⟩ := hI.n2 en2
  refine lv_iconst (v := nI (0)) hx hb dX2_placeOf_0 (by decide) ?_
  refine lv_istore_n (lv' := [(3, .int (nI (0))), (0, .ref (fa_B G + (b + 2))), (1, .int (a1)), (2, .int (a2))]) hx hb dX2_placeOf_1 rfl hl (by decide) rfl (fun ls hl => ?_)
  have LOOP_2 : ∀ (fu : Nat) (j : Nat) (H : Heap) (locs : List Loc) (ls : Array Slot), n2 - j < fu → (j ≤ n2 ∧ ∀ k, k < j → ¬ (v (b + 3) k = a1 ∧ v (b + 4) k = a2)) → lv_has ls 4 [(0, .ref (fa_B G + (b + 2))), (1, .int (a1)), (2, .int (a2)), (3, .int (nI (j)))] → fa_HX G (n) v r s H locs → W p l e (fa_rm 1) s m args below meth c H locs (0) (0) Q (F0 m 2 ls []) := by
    intro fu
    induction fu with
    | zero => intro j H locs ls hk; exact absurd hk (Nat.not_lt_zero _)
    | succ fu ih_2 =>
      intro j H locs ls hk_2 hi_2 hl HX883
      refine lv_iload_n hx hb dX2_placeOf_2 rfl (lv_at hl 3 rfl) ?_
      refine lv_aload_n hx hb dX2_placeOf_3 rfl (lv_at hl 0 rfl) ?_
      refine fa_geti (k := b + 2) CX HX883 fl_X2_18 (fa_lt hB 2 (by decide) hn) (fa_s2 hB) rfl dX2_placeOf_4 ?_
      rw [show v (b + 2) 0 = nI (n2) from h2]
      refine lv_icmp_ge (tgt := 38) hx hb dX2_placeOf_7 (by decide) (fun c_7 => ?_) (fun c_7 => ?_)
      · have he : j = n2 := by
          have := fa_leN (by omega) (by omega) c_7
          omega
        refine lv_iconst (v := (-1 : Int32)) hx hb dX2_placeOf_38 (by decide) ?_
        exact RET _ _ _ _ _ _ _ HX883 dX2_placeOf_39 (⟨rfl, Or.inl ⟨rfl, fun k hk => hi_2.2 k (by rw [he, en2]; exact hk)⟩⟩)
      · have hj := fa_ltN (by omega) (by omega) c_7
        refine lv_aload_n hx hb dX2_placeOf_10 rfl (lv_at hl 0 rfl) ?_
        refine fa_getr (k := b + 2) (j := b + 3) CX HX883 fl_X2_9 (fa_lt hB 2 (by decide) hn) (fa_s2 hB) rfl hr.2.2.2.2.1 dX2_placeOf_11 ?_
        refine lv_iload_n hx hb dX2_placeOf_14 rfl (lv_at hl 3 rfl) ?_
        refine fa_iald (k := b + 3) (j := j) CX HX883 (fa_lt hB 3 (by decide) hn) (fa_s3 hB) (by omega) (by first | decide | assumption) dX2_placeOf_15 ?_
        refine lv_iload_n hx hb dX2_placeOf_16 rfl (lv_at hl 1 rfl) ?_
        refine lv_icmp_ne (tgt := 32) hx hb dX2_placeOf_17 (by decide) (fun c_17 => ?_) (fun c_17 => ?_)
        · refine lv_iinc (v := nI (j + 1)) (lv' := [(3, .int (nI (j + 1))), (0, .ref (fa_B G + (b + 2))), (1, .int (a1)), (2, .int (a2))]) hx hb dX2_placeOf_32 hl (k := 3) rfl (nI_add (j) 1) (by decide) rfl (fun ls hl => ?_)
          refine lv_goto (tgt := 2) hx hb dX2_placeOf_35 (by decide) ?_
          exact ih_2 (j + 1)  _ _ _ (by omega) (⟨by omega, lt_s hi_2.2 (fun z => c_17 z.1)⟩) (lv_sub hl [1, 2, 3, 0] rfl) HX883
        · refine lv_aload_n hx hb dX2_placeOf_20 rfl (lv_at hl 0 rfl) ?_
          refine fa_getr (k := b + 2) (j := b + 4) CX HX883 fl_X2_15 (fa_lt hB 2 (by decide) hn) (fa_s2 hB) rfl hr.2.2.2.2.2.1 dX2_placeOf_21 ?_
          refine lv_iload_n hx hb dX2_placeOf_24 rfl (lv_at hl 3 rfl) ?_
          refine fa_iald (k := b + 4) (j := j) CX HX883 (fa_lt hB 4 (by decide) hn) (fa_s4 hB) (by omega) (by first | decide | assumption) dX2_placeOf_25 ?_
          refine lv_iload_n hx hb dX2_placeOf_26 rfl (lv_at hl 2 rfl) ?_
          refine lv_icmp_ne (tgt := 32) hx hb dX2_placeOf_27 (by decide) (fun c_27 => ?_) (fun c_27 => ?_)
          · refine lv_iinc (v := nI (j + 1)) (lv' := [(3, .int (nI (j + 1))), (0, .ref (fa_B G + (b + 2))), (1, .int (a1)), (2, .int (a2))]) hx hb dX2_placeOf_32 hl (k := 3) rfl (nI_add (j) 1) (by decide) rfl (fun ls hl => ?_)
            refine lv_goto (tgt := 2) hx hb dX2_placeOf_35 (by decide) ?_
            exact ih_2 (j + 1)  _ _ _ (by omega) (⟨by omega, lt_s hi_2.2 (fun z => c_27 z.2)⟩) (lv_sub hl [1, 2, 3, 0] rfl) HX883
          · refine lv_iload_n hx hb dX2_placeOf_30 rfl (lv_at hl 3 rfl) ?_
            exact RET _ _ _ _ _ _ _ HX883 dX2_placeOf_31 (⟨rfl, Or.inr ⟨j, (by rw [← en2]; exact hj), rfl, c_17, c_27⟩⟩)
  exact LOOP_2 (n2 - 0 + 1) (0)  _ _ _ (Nat.lt_succ_self _) (⟨Nat.zero_le _, fun k hk => absurd hk (Nat.not_lt_zero _)⟩) (lv_sub hl [1, 2, 3, 0] rfl) HX
set_option maxHeartbeats 4000000 in
set_option maxRecDepth 100000 in
theorem g_comesBefore (l : Launch) (G : fa_G) (n : Nat) (hn : 397 ≤ n) (v : fa_V) (r : fa_R) (b : Nat) (hB : b ∈ fa_bs) (hr : fa_RS r b) (hI : fa_IS v b) (a1 : Int32) (a2 : Int32) (k : Nat) (hk : k < 8) : fa_MI l G n yX2_comesBefore cX2_comesBefore 4 (some .boolean) 1 [.ref (fa_B G + (b + 2)), .int (a1), .int (a2), .int (nI (k))] v r (fun x w => w = (v, r) ∧ (x = if a2 < v (b + 4) k ∨ (a2 = v (b + 4) k ∧ ¬ v (b + 3) k ≤ a1) then nI 1 else nI 0)) := by
  refine fa_startZ (by decide +kernel) (Nat.le_of_ble_eq_true rfl) (fun p e s m args below meth c ls Q CX hl HX RET => ?_)
  have hl : lv_has ls 4 [(0, .ref (fa_B G + (b + 2))), (1, .int (a1)), (2, .int (a2)), (3, .int (nI (k)))] := hl
  have hx := CX.1.1
  have hb := CX.1.2.1
  refine lv_iload_n hx hb dX2_comesBefore_0 rfl (lv_at hl 2 rfl) ?_
  refine lv_aload_n hx hb dX2_comesBefore_1 rfl (lv_at hl 0 rfl) ?_
  refine fa_getr (k := b + 2) (j := b + 4) CX HX fl_X2_15 (fa_lt hB 2 (by decide) hn) (fa_s2 hB) rfl hr.2.2.2.2.2.1 dX2_comesBefore_2 ?_
  refine lv_iload_n hx hb dX2_comesBefore_5 rfl (lv_at hl 3 rfl) ?_
  refine fa_iald (k := b + 4) (j := k) CX HX (fa_lt hB 4 (by decide) hn) (fa_s4 hB) (by omega) (by first | decide | assumption) dX2_comesBefore_6 ?_
  refine lv_icmp_lt (tgt := 30) hx hb dX2_comesBefore_7 (by decide) (fun c_7 => ?_) (fun c_7 => ?_)
  · refine lv_iconst (v := nI (1)) hx hb dX2_comesBefore_30 (by decide) ?_
    refine lv_goto (tgt := 35) hx hb dX2_comesBefore_31 (by decide) ?_
    exact RET _ _ _ _ _ _ _ HX dX2_comesBefore_35 (by decide) (⟨rfl, (by rw [if_pos (Or.inl c_7)])⟩)
  · refine lv_iload_n hx hb dX2_comesBefore_10 rfl (lv_at hl 2 rfl) ?_
    refine lv_aload_n hx hb dX2_comesBefore_11 rfl (lv_at hl 0 rfl) ?_
    refine fa_getr (k := b + 2) (j := b + 4) CX HX fl_X2_15 (fa_lt hB 2 (by decide) hn) (fa_s2 hB) rfl hr.2.2.2.2.2.1 dX2_comesBefore_12 ?_
    refine lv_iload_n hx hb dX2_comesBefore_15 rfl (lv_at hl 3 rfl) ?_
    refine fa_iald (k := b + 4) (j := k) CX HX (fa_lt hB 4 (by decide) hn) (fa_s4 hB) (by omega) (by first | decide | assumption) dX2_comesBefore_16 ?_
    refine lv_icmp_ne (tgt := 34) hx hb dX2_comesBefore_17 (by decide) (fun c_17 => ?_) (fun c_17 => ?_)
    · refine lv_iconst (v := nI (0)) hx hb dX2_comesBefore_34 (by decide) ?_
      exact RET _ _ _ _ _ _ _ HX dX2_comesBefore_35 (by decide) (⟨rfl, (by rw [if_neg (fun z => z.elim c_7 (fun z => c_17 z.1))])⟩)
    · refine lv_iload_n hx hb dX2_comesBefore_20 rfl (lv_at hl 1 rfl) ?_
      refine lv_aload_n hx hb dX2_comesBefore_21 rfl (lv_at hl 0 rfl) ?_
      refine fa_getr (k := b + 2) (j := b + 3) CX HX fl_X2_9 (fa_lt hB 2 (by decide) hn) (fa_s2 hB) rfl hr.2.2.2.2.1 dX2_comesBefore_22 ?_
      refine lv_iload_n hx hb dX2_comesBefore_25 rfl (lv_at hl 3 rfl) ?_
      refine fa_iald (k := b + 3) (j := k) CX HX (fa_lt hB 3 (by decide) hn) (fa_s3 hB) (by omega) (by first | decide | assumption) dX2_comesBefore_26 ?_
      refine lv_icmp_ge (tgt := 34) hx hb dX2_comesBefore_27 (by decide) (fun c_27 => ?_) (fun c_27 => ?_)
      · refine lv_iconst (v := nI (0)) hx hb dX2_comesBefore_34 (by decide) ?_
        exact RET _ _ _ _ _ _ _ HX dX2_comesBefore_35 (by decide) (⟨rfl, (by rw [if_neg (fun z => z.elim c_7 (fun z => z.2 c_27))])⟩)
      · refine lv_iconst (v := nI (1)) hx hb dX2_comesBefore_30 (by decide) ?_
        refine lv_goto (tgt := 35) hx hb dX2_comesBefore_31 (by decide) ?_
        exact RET _ _ _ _ _ _ _ HX dX2_comesBefore_35 (by decide) (⟨rfl, (by rw [if_pos (Or.inr ⟨c_17, c_27⟩)])⟩)
