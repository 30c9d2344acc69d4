set_option maxHeartbeats 4000000 in
set_option maxRecDepth 100000 in
theorem g_find (l : Launch) (G : fa_G) (n : Nat) (hn : 397 ≤ n) (v : fa_V) (r : fa_R) (b : Nat) (hB : b ∈ fa_bs) (hr : fa_RS r b) (hI : fa_IS v b) (a1 : Int32) : fa_MR l G n yX3_find cX3_find 3 (some (.object RX4)) 1 [.ref (fa_B G + (b)), .int (a1)] v r (fun x w => w = (v, r) ∧ ((∀ q, x = some q → fa_isF b q ∧ ∃ p, p < fa_N (v b 1) ∧ q = fa_pf r b p ∧ v q 0 = a1 ∧ ∀ k, k < p → ¬ v (fa_pf r b k) 0 = a1) ∧ (x = none → ∀ k, k < fa_N (v b 1) → ¬ v (fa_pf r b k) 0 = a1))) := by
  refine fa_startR (by decide +kernel) (Nat.le_of_ble_eq_true rfl) (fun p e s m args below meth c ls Q CX hl HX RET => ?_)
  have hl : lv_has ls 3 [(0, .ref (fa_B G + (b))), (1, .int (a1))] := hl
  have hx := CX.1.1
  have hb := CX.1.2.1
  obtain ⟨n0, en0⟩ : ∃ n0, n0 = fa_N (v b 1) := ⟨_, rfl⟩
  obtain ⟨hn0, h1⟩ := hI.n1 en0
  refine lv_iconst (v := nI (0)) hx hb dX3_find_0 (by decide) ?_
  refine lv_istore_n (lv' := [(2, .int (nI (0))), (0, .ref (fa_B G + (b))), (1, .int (a1))]) hx hb dX3_find_1 rfl hl (by decide) rfl (fun ls hl => ?_)
  have LOOP_2 : ∀ (fu : Nat) (j : Nat) (H : Heap) (locs : List Loc) (ls : Array Slot), n0 - j < fu → (j ≤ n0 ∧ ∀ k, k < j → ¬ v (fa_pf r b k) 0 = a1) → lv_has ls 3 [(0, .ref (fa_B G + (b))), (1, .int (a1)), (2, .int (nI (j)))] → fa_HX G (n) v r s H locs → W p l e (fa_rm 1) s m args below meth c H locs (0) (0) Q (F0 m 2 ls []) := by
    intro fu
    induction fu with
    | zero => intro j H locs ls hk; exact absurd hk (Nat.not_lt_zero _)
    | succ fu ih_2 =>
      intro j H locs ls hk_2 hi_2 hl HX877
      refine lv_iload_n hx hb dX3_find_2 rfl (lv_at hl 2 rfl) ?_
      refine lv_aload_n hx hb dX3_find_3 rfl (lv_at hl 0 rfl) ?_
      refine fa_geti (k := b) CX HX877 fl_X3_49 (fa_lt hB 0 (by decide) hn) (fa_s0 hB) rfl dX3_find_4 ?_
      rw [show v b 1 = nI (n0) from h1]
      refine lv_icmp_ge (tgt := 36) hx hb dX3_find_7 (by decide) (fun c_7 => ?_) (fun c_7 => ?_)
      · have he : j = n0 := by
          have := fa_leN (by omega) (by omega) c_7
          omega
        refine lv_null hx hb dX3_find_36 ?_
        exact RET none _ _ _ _ _ _ _ HX877 dX3_find_37 rfl (⟨rfl, ⟨(fun q hq => by cases hq), (fun _ k hk => hi_2.2 k (by rw [he, en0]; exact hk))⟩⟩)
      · have hj := fa_ltN (by omega) (by omega) c_7
        refine lv_aload_n hx hb dX3_find_10 rfl (lv_at hl 0 rfl) ?_
        refine fa_getr (k := b) (j := b + 1) CX HX877 fl_X3_11 (fa_lt hB 0 (by decide) hn) (fa_s0 hB) rfl hr.1 dX3_find_11 ?_
        refine lv_iload_n hx hb dX3_find_14 rfl (lv_at hl 2 rfl) ?_
        refine fa_aald (k := b + 1) (j := j) (q := fa_pf r b j) CX HX877 (fa_lt hB 1 (by decide) hn) (fa_s1 hB) rfl (by decide) (by omega) (by first | decide | assumption) (fa_pf_at hr (by omega)) dX3_find_15 ?_
        refine fa_geti (k := fa_pf r b j) CX HX877 fl_X3_177 (fa_isF_lt hB (fa_pf_isF hr (by omega)) hn) (fa_isF_sh hB (fa_pf_isF hr (by omega))) rfl dX3_find_16 ?_
        refine lv_iload_n hx hb dX3_find_19 rfl (lv_at hl 1 rfl) ?_
        refine lv_icmp_ne (tgt := 30) hx hb dX3_find_20 (by decide) (fun c_20 => ?_) (fun c_20 => ?_)
        · refine lv_iinc (v := nI (j + 1)) (lv' := [(2, .int (nI (j + 1))), (0, .ref (fa_B G + (b))), (1, .int (a1))]) hx hb dX3_find_30 hl (k := 2) rfl (nI_add (j) 1) (by decide) rfl (fun ls hl => ?_)
          refine lv_goto (tgt := 2) hx hb dX3_find_33 (by decide) ?_
          exact ih_2 (j + 1)  _ _ _ (by omega) (⟨by omega, lt_s hi_2.2 c_20⟩) (lv_sub hl [1, 2, 0] rfl) HX877
        · refine lv_aload_n hx hb dX3_find_23 rfl (lv_at hl 0 rfl) ?_
          refine fa_getr (k := b) (j := b + 1) CX HX877 fl_X3_11 (fa_lt hB 0 (by decide) hn) (fa_s0 hB) rfl hr.1 dX3_find_24 ?_
          refine lv_iload_n hx hb dX3_find_27 rfl (lv_at hl 2 rfl) ?_
          refine fa_aald (k := b + 1) (j := j) (q := fa_pf r b j) CX HX877 (fa_lt hB 1 (by decide) hn) (fa_s1 hB) rfl (by decide) (by omega) (by first | decide | assumption) (fa_pf_at hr (by omega)) dX3_find_28 ?_
          exact RET (some (fa_pf r b j)) _ _ _ _ _ _ _ HX877 dX3_find_29 rfl (⟨rfl, ⟨(fun q hq => by (cases hq; exact ⟨fa_pf_isF hr (by omega), j, (by rw [← en0]; exact hj), rfl, c_20, hi_2.2⟩)), (fun h => by cases h)⟩⟩)
  exact LOOP_2 (n0 - 0 + 1) (0)  _ _ _ (Nat.lt_succ_self _) (⟨Nat.zero_le _, fun k hk => absurd hk (Nat.not_lt_zero _)⟩) (lv_sub hl [1, 2, 0] rfl) HX
set_option maxHeartbeats 4000000 in
set_option maxRecDepth 100000 in
theorem g_storedPages (l : Launch) (G : fa_G) (n : Nat) (hn : 397 ≤ n) (v : fa_V) (r : fa_R) (b : Nat) (hB : b ∈ fa_bs) (hr : fa_RS r b) (hI : fa_IS v b) : fa_MI l G n yX3_storedPages cX3_storedPages 3 (some .int) 1 [.ref (fa_B G + (b))] v r (fun x w => w = (v, r) ∧ (x = fa_sum (fun p => v (fa_pf r b p) 2) (fa_N (v b 1)))) := by
  refine fa_startI (by decide +kernel) (Nat.le_of_ble_eq_true rfl) (fun p e s m args below meth c ls Q CX hl HX RET => ?_)
  have hl : lv_has ls 3 [(0, .ref (fa_B G + (b)))] := hl
  have hx := CX.1.1
  have hb := CX.1.2.1
  obtain ⟨n0, en0⟩ : ∃ n0, n0 = fa_N (v b 1) := ⟨_, rfl⟩
  obtain ⟨hn0, h1⟩ := hI.n1 en0
  refine lv_iconst (v := nI (0)) hx hb dX3_storedPages_0 (by decide) ?_
  refine lv_istore_n (lv' := [(1, .int (nI (0))), (0, .ref (fa_B G + (b)))]) hx hb dX3_storedPages_1 rfl hl (by decide) rfl (fun ls hl => ?_)
  refine lv_iconst (v := nI (0)) hx hb dX3_storedPages_2 (by decide) ?_
  refine lv_istore_n (lv' := [(2, .int (nI (0))), (1, .int (nI (0))), (0, .ref (fa_B G + (b)))]) hx hb dX3_storedPages_3 rfl hl (by decide) rfl (fun ls hl => ?_)
  have LOOP_4 : ∀ (fu : Nat) (j : Nat) (acc : Int32) (H : Heap) (locs : List Loc) (ls : Array Slot), n0 - j < fu → (j ≤ n0 ∧ acc = fa_sum (fun p => v (fa_pf r b p) 2) j) → lv_has ls 3 [(0, .ref (fa_B G + (b))), (1, .int (acc)), (2, .int (nI (j)))] → fa_HX G (n) v r s H locs → W p l e (fa_rm 1) s m args below meth c H locs (0) (0) Q (F0 m 4 ls []) := by
    intro fu
    induction fu with
    | zero => intro j acc H locs ls hk; exact absurd hk (Nat.not_lt_zero _)
    | succ fu ih_4 =>
      intro j acc H locs ls hk_4 hi_4 hl HX878
      refine lv_iload_n hx hb dX3_storedPages_4 rfl (lv_at hl 2 rfl) ?_
      refine lv_aload_n hx hb dX3_storedPages_5 rfl (lv_at hl 0 rfl) ?_
      refine fa_geti (k := b) CX HX878 fl_X3_49 (fa_lt hB 0 (by decide) hn) (fa_s0 hB) rfl dX3_storedPages_6 ?_
      rw [show v b 1 = nI (n0) from h1]
      refine lv_icmp_ge (tgt := 30) hx hb dX3_storedPages_9 (by decide) (fun c_9 => ?_) (fun c_9 => ?_)
      · have he : j = n0 := by
          have := fa_leN (by omega) (by omega) c_9
          omega
        refine lv_iload_n hx hb dX3_storedPages_30 rfl (lv_at hl 1 rfl) ?_
        exact RET _ _ _ _ _ _ _ HX878 dX3_storedPages_31 (⟨rfl, (by rw [hi_4.2, he, en0])⟩)
      · have hj := fa_ltN (by omega) (by omega) c_9
        refine lv_iload_n hx hb dX3_storedPages_12 rfl (lv_at hl 1 rfl) ?_
        refine lv_aload_n hx hb dX3_storedPages_13 rfl (lv_at hl 0 rfl) ?_
        refine fa_getr (k := b) (j := b + 1) CX HX878 fl_X3_11 (fa_lt hB 0 (by decide) hn) (fa_s0 hB) rfl hr.1 dX3_storedPages_14 ?_
        refine lv_iload_n hx hb dX3_storedPages_17 rfl (lv_at hl 2 rfl) ?_
        refine fa_aald (k := b + 1) (j := j) (q := fa_pf r b j) CX HX878 (fa_lt hB 1 (by decide) hn) (fa_s1 hB) rfl (by decide) (by omega) (by first | decide | assumption) (fa_pf_at hr (by omega)) dX3_storedPages_18 ?_
        refine fa_geti (k := fa_pf r b j) CX HX878 fl_X3_183 (fa_isF_lt hB (fa_pf_isF hr (by omega)) hn) (fa_isF_sh hB (fa_pf_isF hr (by omega))) rfl dX3_storedPages_19 ?_
        refine lv_iadd hx hb dX3_storedPages_22 ?_
        refine lv_istore_n (lv' := [(1, .int ((acc) + (v (fa_pf r b j) 2))), (0, .ref (fa_B G + (b))), (2, .int (nI (j)))]) hx hb dX3_storedPages_23 rfl hl (by decide) rfl (fun ls hl => ?_)
        refine lv_iinc (v := nI (j + 1)) (lv' := [(2, .int (nI (j + 1))), (1, .int ((acc) + (v (fa_pf r b j) 2))), (0, .ref (fa_B G + (b)))]) hx hb dX3_storedPages_24 hl (k := 2) rfl (nI_add (j) 1) (by decide) rfl (fun ls hl => ?_)
        refine lv_goto (tgt := 4) hx hb dX3_storedPages_27 (by decide) ?_
        exact ih_4 (j + 1) ((acc) + (v (fa_pf r b j) 2))  _ _ _ (by omega) (⟨by omega, by rw [hi_4.2]; rfl⟩) (lv_sub hl [2, 1, 0] rfl) HX878
  exact LOOP_4 (n0 - 0 + 1) (0) (nI (0))  _ _ _ (Nat.lt_succ_self _) (⟨Nat.zero_le _, rfl⟩) (lv_sub hl [2, 1, 0] rfl) HX
set_option maxHeartbeats 4000000 in
set_option maxRecDepth 100000 in
theorem g_sumOfAges (l : Launch) (G : fa_G) (n : Nat) (hn : 397 ≤ n) (v : fa_V) (r : fa_R) (b : Nat) (hB : b ∈ fa_bs) (hr : fa_RS r b) (hI : fa_IS v b) : fa_MI l G n yX3_sumOfAges cX3_sumOfAges 3 (some .int) 1 [.ref (fa_B G + (b))] v r (fun x w => w = (v, r) ∧ (x = fa_sum (fun p => v b 0 - v (fa_pf r b p) 3) (fa_N (v b 1)))) := by
  refine fa_startI (by decide +kernel) (Nat.le_of_ble_eq_true rfl) (fun p e s m args below meth c ls Q CX hl HX RET => ?_)
  have hl : lv_has ls 3 [(0, .ref (fa_B G + (b)))] := hl
  have hx := CX.1.1
  have hb := CX.1.2.1
  obtain ⟨n0, en0⟩ : ∃ n0, n0 = fa_N (v b 1) := ⟨_, rfl⟩
  obtain ⟨hn0, h1⟩ := hI.n1 en0
  refine lv_iconst (v := nI (0)) hx hb dX3_sumOfAges_0 (by decide) ?_
  refine lv_istore_n (lv' := [(1, .int (nI (0))), (0, .ref (fa_B G + (b)))]) hx hb dX3_sumOfAges_1 rfl hl (by decide) rfl (fun ls hl => ?_)
  refine lv_iconst (v := nI (0)) hx hb dX3_sumOfAges_2 (by decide) ?_
  refine lv_istore_n (lv' := [(2, .int (nI (0))), (1, .int (nI (0))), (0, .ref (fa_B G + (b)))]) hx hb dX3_sumOfAges_3 rfl hl (by decide) rfl (fun ls hl => ?_)
  have LOOP_4 : ∀ (fu : Nat) (j : Nat) (acc : Int32) (H : Heap) (locs : List Loc) (ls : Array Slot), n0 - j < fu → (j ≤ n0 ∧ acc = fa_sum (fun p => v b 0 - v (fa_pf r b p) 3) j) → lv_has ls 3 [(0, .ref (fa_B G + (b))), (1, .int (acc)), (2, .int (nI (j)))] → fa_HX G (n) v r s H locs → W p l e (fa_rm 1) s m args below meth c H locs (0) (0) Q (F0 m 4 ls []) := by
    intro fu
    induction fu with
    | zero => intro j acc H locs ls hk; exact absurd hk (Nat.not_lt_zero _)
    | succ fu ih_4 =>
      intro j acc H locs ls hk_4 hi_4 hl HX879
      refine lv_iload_n hx hb dX3_sumOfAges_4 rfl (lv_at hl 2 rfl) ?_
      refine lv_aload_n hx hb dX3_sumOfAges_5 rfl (lv_at hl 0 rfl) ?_
      refine fa_geti (k := b) CX HX879 fl_X3_49 (fa_lt hB 0 (by decide) hn) (fa_s0 hB) rfl dX3_sumOfAges_6 ?_
      rw [show v b 1 = nI (n0) from h1]
      refine lv_icmp_ge (tgt := 35) hx hb dX3_sumOfAges_9 (by decide) (fun c_9 => ?_) (fun c_9 => ?_)
      · have he : j = n0 := by
          have := fa_leN (by omega) (by omega) c_9
          omega
        refine lv_iload_n hx hb dX3_sumOfAges_35 rfl (lv_at hl 1 rfl) ?_
        exact RET _ _ _ _ _ _ _ HX879 dX3_sumOfAges_36 (⟨rfl, (by rw [hi_4.2, he, en0])⟩)
      · have hj := fa_ltN (by omega) (by omega) c_9
        refine lv_iload_n hx hb dX3_sumOfAges_12 rfl (lv_at hl 1 rfl) ?_
        refine lv_aload_n hx hb dX3_sumOfAges_13 rfl (lv_at hl 0 rfl) ?_
        refine fa_geti (k := b) CX HX879 fl_X3_45 (fa_lt hB 0 (by decide) hn) (fa_s0 hB) rfl dX3_sumOfAges_14 ?_
        refine lv_aload_n hx hb dX3_sumOfAges_17 rfl (lv_at hl 0 rfl) ?_
        refine fa_getr (k := b) (j := b + 1) CX HX879 fl_X3_11 (fa_lt hB 0 (by decide) hn) (fa_s0 hB) rfl hr.1 dX3_sumOfAges_18 ?_
        refine lv_iload_n hx hb dX3_sumOfAges_21 rfl (lv_at hl 2 rfl) ?_
        refine fa_aald (k := b + 1) (j := j) (q := fa_pf r b j) CX HX879 (fa_lt hB 1 (by decide) hn) (fa_s1 hB) rfl (by decide) (by omega) (by first | decide | assumption) (fa_pf_at hr (by omega)) dX3_sumOfAges_22 ?_
        refine fa_geti (k := fa_pf r b j) CX HX879 fl_X3_190 (fa_isF_lt hB (fa_pf_isF hr (by omega)) hn) (fa_isF_sh hB (fa_pf_isF hr (by omega))) rfl dX3_sumOfAges_23 ?_
        refine lv_isub hx hb dX3_sumOfAges_26 ?_
        refine lv_iadd hx hb dX3_sumOfAges_27 ?_
        refine lv_istore_n (lv' := [(1, .int ((acc) + ((v b 0) - (v (fa_pf r b j) 3)))), (0, .ref (fa_B G + (b))), (2, .int (nI (j)))]) hx hb dX3_sumOfAges_28 rfl hl (by decide) rfl (fun ls hl => ?_)
        refine lv_iinc (v := nI (j + 1)) (lv' := [(2, .int (nI (j + 1))), (1, .int ((acc) + ((v b 0) - (v (fa_pf r b j) 3)))), (0, .ref (fa_B G + (b)))]) hx hb dX3_sumOfAges_29 hl (k := 2) rfl (nI_add (j) 1) (by decide) rfl (fun ls hl => ?_)
        refine lv_goto (tgt := 4) hx hb dX3_sumOfAges_32 (by decide) ?_
        exact ih_4 (j + 1) ((acc) + ((v b 0) - (v (fa_pf r b j) 3)))  _ _ _ (by omega) (⟨by omega, by rw [hi_4.2]; rfl⟩) (lv_sub hl [2, 1, 0] rfl) HX879
  exact LOOP_4 (n0 - 0 + 1) (0) (nI (0))  _ _ _ (Nat.lt_succ_self _) (⟨Nat.zero_le _, rfl⟩) (lv_sub hl [2, 1, 0] rfl) HX
set_option maxHeartbeats 4000000 in
set_option maxRecDepth 100000 in
theorem g_referrersOf (l : Launch) (G : fa_G) (n : Nat) (hn : 397 ≤ n) (v : fa_V) (r : fa_R) (b : Nat) (hB : b ∈ fa_bs) (hr : fa_RS r b) (hI : fa_IS v b) (a1 : Int32) : fa_MI l G n yX3_referrersOf cX3_referrersOf 4 (some .int) 1 [.ref (fa_B G + (b)), .int (a1)] v r (fun x w => w = (v, r) ∧ (x = fa_sum (fun p => if v (fa_pf r b p) 6 = a1 then 1 else 0) (fa_N (v b 1)))) := by
  refine fa_startI (by decide +kernel) (Nat.le_of_ble_eq_true rfl) (fun p e s m args below meth c ls Q CX hl HX RET => ?_)
  have hl : lv_has ls 4 [(0, .ref (fa_B G + (b))), (1, .int (a1))] := hl
  have hx := CX.1.1
  have hb := CX.1.2.1
  obtain ⟨n0, en0⟩ : ∃ n0, n0 = fa_N (v b 1) := ⟨_, rfl⟩
  obtain ⟨hn0, h1⟩ := hI.n1 en0
  refine lv_iconst (v := nI (0)) hx hb dX3_referrersOf_0 (by decide) ?_
  refine lv_istore_n (lv' := [(2, .int (nI (0))), (0, .ref (fa_B G + (b))), (1, .int (a1))]) hx hb dX3_referrersOf_1 rfl hl (by decide) rfl (fun ls hl => ?_)
  refine lv_iconst (v := nI (0)) hx hb dX3_referrersOf_2 (by decide) ?_
  refine lv_istore_n (lv' := [(3, .int (nI (0))), (2, .int (nI (0))), (0, .ref (fa_B G + (b))), (1, .int (a1))]) hx hb dX3_referrersOf_3 rfl hl (by decide) rfl (fun ls hl => ?_)
  have LOOP_4 : ∀ (fu : Nat) (j : Nat) (acc : Int32) (H : Heap) (locs : List Loc) (ls : Array Slot), n0 - j < fu → (j ≤ n0 ∧ acc = fa_sum (fun p => if v (fa_pf r b p) 6 = a1 then 1 else 0) j) → lv_has ls 4 [(0, .ref (fa_B G + (b))), (1, .int (a1)), (2, .int (acc)), (3, .int (nI (j)))] → fa_HX G (n) v r s H locs → W p l e (fa_rm 1) s m args below meth c H locs (0) (0) Q (F0 m 4 ls []) := by
    intro fu
    induction fu with
    | zero => intro j acc H locs ls hk; exact absurd hk (Nat.not_lt_zero _)
    | succ fu ih_4 =>
      intro j acc H locs ls hk_4 hi_4 hl HX880
      refine lv_iload_n hx hb dX3_referrersOf_4 rfl (lv_at hl 3 rfl) ?_
      refine lv_aload_n hx hb dX3_referrersOf_5 rfl (lv_at hl 0 rfl) ?_
      refine fa_geti (k := b) CX HX880 fl_X3_49 (fa_lt hB 0 (by decide) hn) (fa_s0 hB) rfl dX3_referrersOf_6 ?_
      rw [show v b 1 = nI (n0) from h1]
      refine lv_icmp_ge (tgt := 34) hx hb dX3_referrersOf_9 (by decide) (fun c_9 => ?_) (fun c_9 => ?_)
      · have he : j = n0 := by
          have := fa_leN (by omega) (by omega) c_9
          omega
        refine lv_iload_n hx hb dX3_referrersOf_34 rfl (lv_at hl 2 rfl) ?_
        exact RET _ _ _ _ _ _ _ HX880 dX3_referrersOf_35 (⟨rfl, (by rw [hi_4.2, he, en0])⟩)
      · have hj := fa_ltN (by omega) (by omega) c_9
        refine lv_aload_n hx hb dX3_referrersOf_12 rfl (lv_at hl 0 rfl) ?_
        refine fa_getr (k := b) (j := b + 1) CX HX880 fl_X3_11 (fa_lt hB 0 (by decide) hn) (fa_s0 hB) rfl hr.1 dX3_referrersOf_13 ?_
        refine lv_iload_n hx hb dX3_referrersOf_16 rfl (lv_at hl 3 rfl) ?_
        refine fa_aald (k := b + 1) (j := j) (q := fa_pf r b j) CX HX880 (fa_lt hB 1 (by decide) hn) (fa_s1 hB) rfl (by decide) (by omega) (by first | decide | assumption) (fa_pf_at hr (by omega)) dX3_referrersOf_17 ?_
        refine fa_geti (k := fa_pf r b j) CX HX880 fl_X3_114 (fa_isF_lt hB (fa_pf_isF hr (by omega)) hn) (fa_isF_sh hB (fa_pf_isF hr (by omega))) rfl dX3_referrersOf_18 ?_
        refine lv_iload_n hx hb dX3_referrersOf_21 rfl (lv_at hl 1 rfl) ?_
        refine lv_icmp_ne (tgt := 28) hx hb dX3_referrersOf_22 (by decide) (fun c_22 => ?_) (fun c_22 => ?_)
        · refine lv_iinc (v := nI (j + 1)) (lv' := [(3, .int (nI (j + 1))), (0, .ref (fa_B G + (b))), (1, .int (a1)), (2, .int (acc))]) hx hb dX3_referrersOf_28 hl (k := 3) rfl (nI_add (j) 1) (by decide) rfl (fun ls hl => ?_)
          refine lv_goto (tgt := 4) hx hb dX3_referrersOf_31 (by decide) ?_
          exact ih_4 (j + 1) (acc)  _ _ _ (by omega) (⟨by omega, by rw [hi_4.2]; exact fa_sum_f c_22⟩) (lv_sub hl [1, 2, 3, 0] rfl) HX880
        · refine lv_iinc (v := acc + (1)) (lv' := [(2, .int (acc + (1))), (0, .ref (fa_B G + (b))), (1, .int (a1)), (3, .int (nI (j)))]) hx hb dX3_referrersOf_25 hl (k := 2) rfl rfl (by decide) rfl (fun ls hl => ?_)
          refine lv_iinc (v := nI (j + 1)) (lv' := [(3, .int (nI (j + 1))), (2, .int (acc + (1))), (0, .ref (fa_B G + (b))), (1, .int (a1))]) hx hb dX3_referrersOf_28 hl (k := 3) rfl (nI_add (j) 1) (by decide) rfl (fun ls hl => ?_)
          refine lv_goto (tgt := 4) hx hb dX3_referrersOf_31 (by decide) ?_
          exact ih_4 (j + 1) (acc + (1))  _ _ _ (by omega) (⟨by omega, by rw [hi_4.2]; exact fa_sum_t c_22⟩) (lv_sub hl [2, 3, 1, 0] rfl) HX880
  exact LOOP_4 (n0 - 0 + 1) (0) (nI (0))  _ _ _ (Nat.lt_succ_self _) (⟨Nat.zero_le _, rfl⟩) (lv_sub hl [2, 3, 1, 0] rfl) HX
set_option maxHeartbeats 4000000 in
set_option maxRecDepth 100000 in
theorem g_numberFor (l : Launch) (G : fa_G) (n : Nat) (hn : 397 ≤ n) (v : fa_V) (r : fa_R) (b : Nat) (hB : b ∈ fa_bs) (hr : fa_RS r b) (hI : fa_IS v b) (a1 : Int32) : fa_MI l G n yX2_numberFor cX2_numberFor 4 (some .int) 1 [.ref (fa_B G + (b + 2)), .int (a1)] v r (fun x w => w = (v, r) ∧ (x = fa_sum (fun p => if v (b + 3) p = a1 then 1 else 0) (fa_N (v (b + 2) 0)))) := by
  refine fa_startI (by decide +kernel) (Nat.le_of_ble_eq_true rfl) (fun p e s m args below meth c ls Q CX hl HX RET => ?_)
  have hl : lv_has ls 4 [(0, .ref (fa_B G + (b + 2))), (1, .int (a1))] := hl
  have hx := CX.1.1
  have hb := CX.1.2.1
  obtain ⟨n2, en2⟩ : ∃ n2, n2 = fa_N (v (b + 2) 0) := ⟨_, rfl⟩
  obtain ⟨hn2, h2⟩ := hI.n2 en2
  refine lv_iconst (v := nI (0)) hx hb dX2_numberFor_0 (by decide) ?_
  refine lv_istore_n (lv' := [(2, .int (nI (0))), (0, .ref (fa_B G + (b + 2))), (1, .int (a1))]) hx hb dX2_numberFor_1 rfl hl (by decide) rfl (fun ls hl => ?_)
  refine lv_iconst (v := nI (0)) hx hb dX2_numberFor_2 (by decide) ?_
  refine lv_istore_n (lv' := [(3, .int (nI (0))), (2, .int (nI (0))), (0, .ref (fa_B G + (b + 2))), (1, .int (a1))]) hx hb dX2_numberFor_3 rfl hl (by decide) rfl (fun ls hl => ?_)
  have LOOP_4 : ∀ (fu : Nat) (j : Nat) (acc : Int32) (H : Heap) (locs : List Loc) (ls : Array Slot), n2 - j < fu → (j ≤ n2 ∧ acc = fa_sum (fun p => if v (b + 3) p = a1 then 1 else 0) j) → lv_has ls 4 [(0, .ref (fa_B G + (b + 2))), (1, .int (a1)), (2, .int (acc)), (3, .int (nI (j)))] → fa_HX G (n) v r s H locs → W p l e (fa_rm 1) s m args below meth c H locs (0) (0) Q (F0 m 4 ls []) := by
    intro fu
    induction fu with
    | zero => intro j acc H locs ls hk; exact absurd hk (Nat.not_lt_zero _)
    | succ fu ih_4 =>
      intro j acc H locs ls hk_4 hi_4 hl HX881
      refine lv_iload_n hx hb dX2_numberFor_4 rfl (lv_at hl 3 rfl) ?_
      refine lv_aload_n hx hb dX2_numberFor_5 rfl (lv_at hl 0 rfl) ?_
      refine fa_geti (k := b + 2) CX HX881 fl_X2_18 (fa_lt hB 2 (by decide) hn) (fa_s2 hB) rfl dX2_numberFor_6 ?_
      rw [show v (b + 2) 0 = nI (n2) from h2]
      refine lv_icmp_ge (tgt := 31) hx hb dX2_numberFor_9 (by decide) (fun c_9 => ?_) (fun c_9 => ?_)
      · have he : j = n2 := by
          have := fa_leN (by omega) (by omega) c_9
          omega
        refine lv_iload_n hx hb dX2_numberFor_31 rfl (lv_at hl 2 rfl) ?_
        exact RET _ _ _ _ _ _ _ HX881 dX2_numberFor_32 (⟨rfl, (by rw [hi_4.2, he, en2])⟩)
      · have hj := fa_ltN (by omega) (by omega) c_9
        refine lv_aload_n hx hb dX2_numberFor_12 rfl (lv_at hl 0 rfl) ?_
        refine fa_getr (k := b + 2) (j := b + 3) CX HX881 fl_X2_9 (fa_lt hB 2 (by decide) hn) (fa_s2 hB) rfl hr.2.2.2.2.1 dX2_numberFor_13 ?_
        refine lv_iload_n hx hb dX2_numberFor_16 rfl (lv_at hl 3 rfl) ?_
        refine fa_iald (k := b + 3) (j := j) CX HX881 (fa_lt hB 3 (by decide) hn) (fa_s3 hB) (by omega) (by first | decide | assumption) dX2_numberFor_17 ?_
        refine lv_iload_n hx hb dX2_numberFor_18 rfl (lv_at hl 1 rfl) ?_
        refine lv_icmp_ne (tgt := 25) hx hb dX2_numberFor_19 (by decide) (fun c_19 => ?_) (fun c_19 => ?_)
        · refine lv_iinc (v := nI (j + 1)) (lv' := [(3, .int (nI (j + 1))), (0, .ref (fa_B G + (b + 2))), (1, .int (a1)), (2, .int (acc))]) hx hb dX2_numberFor_25 hl (k := 3) rfl (nI_add (j) 1) (by decide) rfl (fun ls hl => ?_)
          refine lv_goto (tgt := 4) hx hb dX2_numberFor_28 (by decide) ?_
          exact ih_4 (j + 1) (acc)  _ _ _ (by omega) (⟨by omega, by rw [hi_4.2]; exact fa_sum_f c_19⟩) (lv_sub hl [1, 2, 3, 0] rfl) HX881
        · refine lv_iinc (v := acc + (1)) (lv' := [(2, .int (acc + (1))), (0, .ref (fa_B G + (b + 2))), (1, .int (a1)), (3, .int (nI (j)))]) hx hb dX2_numberFor_22 hl (k := 2) rfl rfl (by decide) rfl (fun ls hl => ?_)
          refine lv_iinc (v := nI (j + 1)) (lv' := [(3, .int (nI (j + 1))), (2, .int (acc + (1))), (0, .ref (fa_B G + (b + 2))), (1, .int (a1))]) hx hb dX2_numberFor_25 hl (k := 3) rfl (nI_add (j) 1) (by decide) rfl (fun ls hl => ?_)
          refine lv_goto (tgt := 4) hx hb dX2_numberFor_28 (by decide) ?_
          exact ih_4 (j + 1) (acc + (1))  _ _ _ (by omega) (⟨by omega, by rw [hi_4.2]; exact fa_sum_t c_19⟩) (lv_sub hl [2, 3, 1, 0] rfl) HX881
  exact LOOP_4 (n2 - 0 + 1) (0) (nI (0))  _ _ _ (Nat.lt_succ_self _) (⟨Nat.zero_le _, rfl⟩) (lv_sub hl [2, 3, 1, 0] rfl) HX
set_option maxHeartbeats 4000000 in
set_option maxRecDepth 100000 in
theorem g_lowestKeeperOf (l : Launch) (G : fa_G) (n : Nat) (hn : 397 ≤ n) (v : fa_V) (r : fa_R) (b : Nat) (hB : b ∈ fa_bs) (hr : fa_RS r b) (hI : fa_IS v b) (a1 : Int32) : fa_MI l G n yX3_lowestKeeperOf cX3_lowestKeeperOf 3 (some .int) 1 [.ref (fa_B G + (b)), .int (a1)] v r (fun x w => w = (v, r) ∧ ((∃ p, p < fa_N (v b 1) ∧ (v (fa_pf r b p) 6 = a1 ∧ ¬ v (fa_pf r b p) 8 = 0) ∧ x = v (fa_pf r b p) 0 ∧ ∀ k, k < p → ¬ (v (fa_pf r b k) 6 = a1 ∧ ¬ v (fa_pf r b k) 8 = 0)) ∨ (x = (-6 : Int32) ∧ ∀ k, k < fa_N (v b 1) → ¬ (v (fa_pf r b k) 6 = a1 ∧ ¬ v (fa_pf r b k) 8 = 0)))) := by
  refine fa_startI (by decide +kernel) (Nat.le_of_ble_eq_true rfl) (fun p e s m args below meth c ls Q CX hl HX RET => ?_)
  have hl : lv_has ls 3 [(0, .ref (fa_B G + (b))), (1, .int (a1))] := hl
  have hx := CX.1.1
  have hb := CX.1.2.1
  obtain ⟨n0, en0⟩ : ∃ n0, n0 = fa_N (v b 1) := ⟨_, rfl⟩
  obtain ⟨hn0, h1⟩ := hI.n1 en0
  refine lv_iconst (v := nI (0)) hx hb dX3_lowestKeeperOf_0 (by decide) ?_
  refine lv_istore_n (lv' := [(2, .int (nI (0))), (0, .ref (fa_B G + (b))), (1, .int (a1))]) hx hb dX3_lowestKeeperOf_1 rfl hl (by decide) rfl (fun ls hl => ?_)
  have LOOP_2 : ∀ (fu : Nat) (j : Nat) (H : Heap) (locs : List Loc) (ls : Array Slot), n0 - j < fu → (j ≤ n0 ∧ ∀ k, k < j → ¬ (v (fa_pf r b k) 6 = a1 ∧ ¬ v (fa_pf r b k) 8 = 0)) → lv_has ls 3 [(0, .ref (fa_B G + (b))), (1, .int (a1)), (2, .int (nI (j)))] → fa_HX G (n) v r s H locs → W p l e (fa_rm 1) s m args below meth c H locs (0) (0) Q (F0 m 2 ls []) := by
    intro fu
    induction fu with
    | zero => intro j H locs ls hk; exact absurd hk (Nat.not_lt_zero _)
    | succ fu ih_2 =>
      intro j H locs ls hk_2 hi_2 hl HX882
      refine lv_iload_n hx hb dX3_lowestKeeperOf_2 rfl (lv_at hl 2 rfl) ?_
      refine lv_aload_n hx hb dX3_lowestKeeperOf_3 rfl (lv_at hl 0 rfl) ?_
      refine fa_geti (k := b) CX HX882 fl_X3_49 (fa_lt hB 0 (by decide) hn) (fa_s0 hB) rfl dX3_lowestKeeperOf_4 ?_
      rw [show v b 1 = nI (n0) from h1]
      refine lv_icmp_ge (tgt := 51) hx hb dX3_lowestKeeperOf_7 (by decide) (fun c_7 => ?_) (fun c_7 => ?_)
      · have he : j = n0 := by
          have := fa_leN (by omega) (by omega) c_7
          omega
        refine lv_bipush (v := (-6 : Int32)) hx hb dX3_lowestKeeperOf_51 (by decide) ?_
        exact RET _ _ _ _ _ _ _ HX882 dX3_lowestKeeperOf_53 (⟨rfl, (Or.inr ⟨rfl, fun k hk => hi_2.2 k (by rw [he, en0]; exact hk)⟩)⟩)
      · have hj := fa_ltN (by omega) (by omega) c_7
        refine lv_aload_n hx hb dX3_lowestKeeperOf_10 rfl (lv_at hl 0 rfl) ?_
        refine fa_getr (k := b) (j := b + 1) CX HX882 fl_X3_11 (fa_lt hB 0 (by decide) hn) (fa_s0 hB) rfl hr.1 dX3_lowestKeeperOf_11 ?_
        refine lv_iload_n hx hb dX3_lowestKeeperOf_14 rfl (lv_at hl 2 rfl) ?_
        refine fa_aald (k := b + 1) (j := j) (q := fa_pf r b j) CX HX882 (fa_lt hB 1 (by decide) hn) (fa_s1 hB) rfl (by decide) (by omega) (by first | decide | assumption) (fa_pf_at hr (by omega)) dX3_lowestKeeperOf_15 ?_
        refine fa_geti (k := fa_pf r b j) CX HX882 fl_X3_114 (fa_isF_lt hB (fa_pf_isF hr (by omega)) hn) (fa_isF_sh hB (fa_pf_isF hr (by omega))) rfl dX3_lowestKeeperOf_16 ?_
        refine lv_iload_n hx hb dX3_lowestKeeperOf_19 rfl (lv_at hl 1 rfl) ?_
        refine lv_icmp_ne (tgt := 45) hx hb dX3_lowestKeeperOf_20 (by decide) (fun c_20 => ?_) (fun c_20 => ?_)
        · refine lv_iinc (v := nI (j + 1)) (lv' := [(2, .int (nI (j + 1))), (0, .ref (fa_B G + (b))), (1, .int (a1))]) hx hb dX3_lowestKeeperOf_45 hl (k := 2) rfl (nI_add (j) 1) (by decide) rfl (fun ls hl => ?_)
          refine lv_goto (tgt := 2) hx hb dX3_lowestKeeperOf_48 (by decide) ?_
          exact ih_2 (j + 1)  _ _ _ (by omega) (⟨by omega, lt_s hi_2.2 (fun z => c_20 z.1)⟩) (lv_sub hl [1, 2, 0] rfl) HX882
        · refine lv_aload_n hx hb dX3_lowestKeeperOf_23 rfl (lv_at hl 0 rfl) ?_
          refine fa_getr (k := b) (j := b + 1) CX HX882 fl_X3_11 (fa_lt hB 0 (by decide) hn) (fa_s0 hB) rfl hr.1 dX3_lowestKeeperOf_24 ?_
          refine lv_iload_n hx hb dX3_lowestKeeperOf_27 rfl (lv_at hl 2 rfl) ?_
          refine fa_aald (k := b + 1) (j := j) (q := fa_pf r b j) CX HX882 (fa_lt hB 1 (by decide) hn) (fa_s1 hB) rfl (by decide) (by omega) (by first | decide | assumption) (fa_pf_at hr (by omega)) dX3_lowestKeeperOf_28 ?_
          refine fa_geti (k := fa_pf r b j) CX HX882 fl_X3_168 (fa_isF_lt hB (fa_pf_isF hr (by omega)) hn) (fa_isF_sh hB (fa_pf_isF hr (by omega))) rfl dX3_lowestKeeperOf_29 ?_
          refine lv_if_eq (tgt := 45) hx hb dX3_lowestKeeperOf_32 (by decide) (fun c_32 => ?_) (fun c_32 => ?_)
          · refine lv_iinc (v := nI (j + 1)) (lv' := [(2, .int (nI (j + 1))), (0, .ref (fa_B G + (b))), (1, .int (a1))]) hx hb dX3_lowestKeeperOf_45 hl (k := 2) rfl (nI_add (j) 1) (by decide) rfl (fun ls hl => ?_)
            refine lv_goto (tgt := 2) hx hb dX3_lowestKeeperOf_48 (by decide) ?_
            exact ih_2 (j + 1)  _ _ _ (by omega) (⟨by omega, lt_s hi_2.2 (fun z => z.2 c_32)⟩) (lv_sub hl [1, 2, 0] rfl) HX882
          · refine lv_aload_n hx hb dX3_lowestKeeperOf_35 rfl (lv_at hl 0 rfl) ?_
            refine fa_getr (k := b) (j := b + 1) CX HX882 fl_X3_11 (fa_lt hB 0 (by decide) hn) (fa_s0 hB) rfl hr.1 dX3_lowestKeeperOf_36 ?_
            refine lv_iload_n hx hb dX3_lowestKeeperOf_39 rfl (lv_at hl 2 rfl) ?_
            refine fa_aald (k := b + 1) (j := j) (q := fa_pf r b j) CX HX882 (fa_lt hB 1 (by decide) hn) (fa_s1 hB) rfl (by decide) (by omega) (by first | decide | assumption) (fa_pf_at hr (by omega)) dX3_lowestKeeperOf_40 ?_
            refine fa_geti (k := fa_pf r b j) CX HX882 fl_X3_177 (fa_isF_lt hB (fa_pf_isF hr (by omega)) hn) (fa_isF_sh hB (fa_pf_isF hr (by omega))) rfl dX3_lowestKeeperOf_41 ?_
            exact RET _ _ _ _ _ _ _ HX882 dX3_lowestKeeperOf_44 (⟨rfl, (Or.inl ⟨j, (by rw [← en0]; exact hj), ⟨(by first | exact c_20 | exact Decidable.not_not.mp c_20), c_32⟩, rfl, hi_2.2⟩)⟩)
  exact LOOP_2 (n0 - 0 + 1) (0)  _ _ _ (Nat.lt_succ_self _) (⟨Nat.zero_le _, fun k hk => absurd hk (Nat.not_lt_zero _)⟩) (lv_sub hl [1, 2, 0] rfl) HX
set_option maxHeartbeats 4000000 in
set_option maxRecDepth 100000 in
theorem g_placeOf (l : Launch) (G : fa_G) (n : Nat) (hn : 397 ≤ n) (v : fa_V) (r : fa_R) (b : Nat) (hB : b ∈ fa_bs) (hr : fa_RS r b) (hI : fa_IS v b) (a1 : Int32) (a2 : Int32) : fa_MI l G n yX2_placeOf cX2_placeOf 4 (some .int) 1 [.ref (fa_B G + (b + 2)), .int (a1), .int (a2)] v r (fun x w => w = (v, r) ∧ ((x = -1 ∧ ∀ k, k < fa_N (v (b + 2) 0) → ¬ (v (b + 3) k = a1 ∧ v (b + 4) k = a2)) ∨ ∃ k, k < fa_N (v (b + 2) 0) ∧ x = nI k ∧ v (b + 3) k = a1 ∧ v (b + 4) k = a2)) := by
  refine fa_startI (by decide +kernel) (Nat.le_of_ble_eq_true rfl) (fun p e s m args below meth c ls Q CX hl HX RET => ?_)
  have hl : lv_has ls 4 [(0, .ref (fa_B G + (b + 2))), (1, .int (a1)), (2, .int (a2))] := hl
  have hx := CX.1.1
  have hb := CX.1.2.1
  obtain ⟨n2, en2⟩ : ∃ n2, n2 = fa_N (v (b + 2) 0) := ⟨_, rfl⟩
  obtain ⟨hn2, h2⟩ := hI.n2 en2
  refine lv_iconst (v := nI (0)) hx hb dX2_placeOf_0 (by decide) ?_
  refine lv_istore_n (lv' := [(3, .int (nI (0))), (0, .ref (fa_B G + (b + 2))), (1, .int (a1)), (2, .int (a2))]) hx hb dX2_placeOf_1 rfl hl (by decide) rfl (fun ls hl => ?_)
  have LOOP_2 : ∀ (fu : Nat) (j : Nat) (H : Heap) (locs : List Loc) (ls : Array Slot), n2 - j < fu → (j ≤ n2 ∧ ∀ k, k < j → ¬ (v (b + 3) k = a1 ∧ v (b + 4) k = a2)) → lv_has ls 4 [(0, .ref (fa_B G + (b + 2))), (1, .int (a1)), (2, .int (a2)), (3, .int (nI (j)))] → fa_HX G (n) v r s H locs → W p l e (fa_rm 1) s m args below meth c H locs (0) (0) Q (F0 m 2 ls []) := by
    intro fu
    induction fu with
    | zero => intro j H locs ls hk; exact absurd hk (Nat.not_lt_zero _)
    | succ fu ih_2 =>
      intro j H locs ls hk_2 hi_2 hl HX883
      refine lv_iload_n hx hb dX2_placeOf_2 rfl (lv_at hl 3 rfl) ?_
      refine lv_aload_n hx hb dX2_placeOf_3 rfl (lv_at hl 0 rfl) ?_
      refine fa_geti (k := b + 2) CX HX883 fl_X2_18 (fa_lt hB 2 (by decide) hn) (fa_s2 hB) rfl dX2_placeOf_4 ?_
      rw [show v (b + 2) 0 = nI (n2) from h2]
      refine lv_icmp_ge (tgt := 38) hx hb dX2_placeOf_7 (by decide) (fun c_7 => ?_) (fun c_7 => ?_)
      · have he : j = n2 := by
          have := fa_leN (by omega) (by omega) c_7
          omega
        refine lv_iconst (v := (-1 : Int32)) hx hb dX2_placeOf_38 (by decide) ?_
        exact RET _ _ _ _ _ _ _ HX883 dX2_placeOf_39 (⟨rfl, Or.inl ⟨rfl, fun k hk => hi_2.2 k (by rw [he, en2]; exact hk)⟩⟩)
      · have hj := fa_ltN (by omega) (by omega) c_7
        refine lv_aload_n hx hb dX2_placeOf_10 rfl (lv_at hl 0 rfl) ?_
        refine fa_getr (k := b + 2) (j := b + 3) CX HX883 fl_X2_9 (fa_lt hB 2 (by decide) hn) (fa_s2 hB) rfl hr.2.2.2.2.1 dX2_placeOf_11 ?_
        refine lv_iload_n hx hb dX2_placeOf_14 rfl (lv_at hl 3 rfl) ?_
        refine fa_iald (k := b + 3) (j := j) CX HX883 (fa_lt hB 3 (by decide) hn) (fa_s3 hB) (by omega) (by first | decide | assumption) dX2_placeOf_15 ?_
        refine lv_iload_n hx hb dX2_placeOf_16 rfl (lv_at hl 1 rfl) ?_
        refine lv_icmp_ne (tgt := 32) hx hb dX2_placeOf_17 (by decide) (fun c_17 => ?_) (fun c_17 => ?_)
        · refine lv_iinc (v := nI (j + 1)) (lv' := [(3, .int (nI (j + 1))), (0, .ref (fa_B G + (b + 2))), (1, .int (a1)), (2, .int (a2))]) hx hb dX2_placeOf_32 hl (k := 3) rfl (nI_add (j) 1) (by decide) rfl (fun ls hl => ?_)
          refine lv_goto (tgt := 2) hx hb dX2_placeOf_35 (by decide) ?_
          exact ih_2 (j + 1)  _ _ _ (by omega) (⟨by omega, lt_s hi_2.2 (fun z => c_17 z.1)⟩) (lv_sub hl [1, 2, 3, 0] rfl) HX883
        · refine lv_aload_n hx hb dX2_placeOf_20 rfl (lv_at hl 0 rfl) ?_
          refine fa_getr (k := b + 2) (j := b + 4) CX HX883 fl_X2_15 (fa_lt hB 2 (by decide) hn) (fa_s2 hB) rfl hr.2.2.2.2.2.1 dX2_placeOf_21 ?_
          refine lv_iload_n hx hb dX2_placeOf_24 rfl (lv_at hl 3 rfl) ?_
          refine fa_iald (k := b + 4) (j := j) CX HX883 (fa_lt hB 4 (by decide) hn) (fa_s4 hB) (by omega) (by first | decide | assumption) dX2_placeOf_25 ?_
          refine lv_iload_n hx hb dX2_placeOf_26 rfl (lv_at hl 2 rfl) ?_
          refine lv_icmp_ne (tgt := 32) hx hb dX2_placeOf_27 (by decide) (fun c_27 => ?_) (fun c_27 => ?_)
          · refine lv_iinc (v := nI (j + 1)) (lv' := [(3, .int (nI (j + 1))), (0, .ref (fa_B G + (b + 2))), (1, .int (a1)), (2, .int (a2))]) hx hb dX2_placeOf_32 hl (k := 3) rfl (nI_add (j) 1) (by decide) rfl (fun ls hl => ?_)
            refine lv_goto (tgt := 2) hx hb dX2_placeOf_35 (by decide) ?_
            exact ih_2 (j + 1)  _ _ _ (by omega) (⟨by omega, lt_s hi_2.2 (fun z => c_27 z.2)⟩) (lv_sub hl [1, 2, 3, 0] rfl) HX883
          · refine lv_iload_n hx hb dX2_placeOf_30 rfl (lv_at hl 3 rfl) ?_
            exact RET _ _ _ _ _ _ _ HX883 dX2_placeOf_31 (⟨rfl, Or.inr ⟨j, (by rw [← en2]; exact hj), rfl, c_17, c_27⟩⟩)
  exact LOOP_2 (n2 - 0 + 1) (0)  _ _ _ (Nat.lt_succ_self _) (⟨Nat.zero_le _, fun k hk => absurd hk (Nat.not_lt_zero _)⟩) (lv_sub hl [1, 2, 3, 0] rfl) HX
set_option maxHeartbeats 4000000 in
set_option maxRecDepth 100000 in
theorem g_comesBefore (l : Launch) (G : fa_G) (n : Nat) (hn : 397 ≤ n) (v : fa_V) (r : fa_R) (b : Nat) (hB : b ∈ fa_bs) (hr : fa_RS r b) (hI : fa_IS v b) (a1 : Int32) (a2 : Int32) (k : Nat) (hk : k < 8) : fa_MI l G n yX2_comesBefore cX2_comesBefore 4 (some .boolean) 1 [.ref (fa_B G + (b + 2)), .int (a1), .int (a2), .int (nI (k))] v r (fun x w => w = (v, r) ∧ (x = if a2 < v (b + 4) k ∨ (a2 = v (b + 4) k ∧ ¬ v (b + 3) k ≤ a1) then nI 1 else nI 0)) := by
  refine fa_startZ (by decide +kernel) (Nat.le_of_ble_eq_true rfl) (fun p e s m args below meth c ls Q CX hl HX RET => ?_)
  have hl : lv_has ls 4 [(0, .ref (fa_B G + (b + 2))), (1, .int (a1)), (2, .int (a2)), (3, .int (nI (k)))] := hl
  have hx := CX.1.1
  have hb := CX.1.2.1
  refine lv_iload_n hx hb dX2_comesBefore_0 rfl (lv_at hl 2 rfl) ?_
  refine lv_aload_n hx hb dX2_comesBefore_1 rfl (lv_at hl 0 rfl) ?_
  refine fa_getr (k := b + 2) (j := b + 4) CX HX fl_X2_15 (fa_lt hB 2 (by decide) hn) (fa_s2 hB) rfl hr.2.2.2.2.2.1 dX2_comesBefore_2 ?_
  refine lv_iload_n hx hb dX2_comesBefore_5 rfl (lv_at hl 3 rfl) ?_
  refine fa_iald (k := b + 4) (j := k) CX HX (fa_lt hB 4 (by decide) hn) (fa_s4 hB) (by omega) (by first | decide | assumption) dX2_comesBefore_6 ?_
  refine lv_icmp_lt (tgt := 30) hx hb dX2_comesBefore_7 (by decide) (fun c_7 => ?_) (fun c_7 => ?_)
  · refine lv_iconst (v := nI (1)) hx hb dX2_comesBefore_30 (by decide) ?_
    refine lv_goto (tgt := 35) hx hb dX2_comesBefore_31 (by decide) ?_
    exact RET _ _ _ _ _ _ _ HX dX2_comesBefore_35 (by decide) (⟨rfl, (by rw [if_pos (Or.inl c_7)])⟩)
  · refine lv_iload_n hx hb dX2_comesBefore_10 rfl (lv_at hl 2 rfl) ?_
    refine lv_aload_n hx hb dX2_comesBefore_11 rfl (lv_at hl 0 rfl) ?_
    refine fa_getr (k := b + 2) (j := b + 4) CX HX fl_X2_15 (fa_lt hB 2 (by decide) hn) (fa_s2 hB) rfl hr.2.2.2.2.2.1 dX2_comesBefore_12 ?_
    refine lv_iload_n hx hb dX2_comesBefore_15 rfl (lv_at hl 3 rfl) ?_
    refine fa_iald (k := b + 4) (j := k) CX HX (fa_lt hB 4 (by decide) hn) (fa_s4 hB) (by omega) (by first | decide | assumption) dX2_comesBefore_16 ?_
    refine lv_icmp_ne (tgt := 34) hx hb dX2_comesBefore_17 (by decide) (fun c_17 => ?_) (fun c_17 => ?_)
    · refine lv_iconst (v := nI (0)) hx hb dX2_comesBefore_34 (by decide) ?_
      exact RET _ _ _ _ _ _ _ HX dX2_comesBefore_35 (by decide) (⟨rfl, (by rw [if_neg (fun z => z.elim c_7 (fun z => c_17 z.1))])⟩)
    · refine lv_iload_n hx hb dX2_comesBefore_20 rfl (lv_at hl 1 rfl) ?_
      refine lv_aload_n hx hb dX2_comesBefore_21 rfl (lv_at hl 0 rfl) ?_
      refine fa_getr (k := b + 2) (j := b + 3) CX HX fl_X2_9 (fa_lt hB 2 (by decide) hn) (fa_s2 hB) rfl hr.2.2.2.2.1 dX2_comesBefore_22 ?_
      refine lv_iload_n hx hb dX2_comesBefore_25 rfl (lv_at hl 3 rfl) ?_
      refine fa_iald (k := b + 3) (j := k) CX HX (fa_lt hB 3 (by decide) hn) (fa_s3 hB) (by omega) (by first | decide | assumption) dX2_comesBefore_26 ?_
      refine lv_icmp_ge (tgt := 34) hx hb dX2_comesBefore_27 (by decide) (fun c_27 => ?_) (fun c_27 => ?_)
      · refine lv_iconst (v := nI (0)) hx hb dX2_comesBefore_34 (by decide) ?_
        exact RET _ _ _ _ _ _ _ HX dX2_comesBefore_35 (by decide) (⟨rfl, (by rw [if_neg (fun z => z.elim c_7 (fun z => z.2 c_27))])⟩)
      · refine lv_iconst (v := nI (1)) hx hb dX2_comesBefore_30 (by decide) ?_
        refine lv_goto (tgt := 35) hx hb dX2_comesBefore_31 (by decide) ?_
        exact RET _ _ _ _ _ _ _ HX dX2_comesBefore_35 (by decide) (⟨rfl, (by rw [if_pos (Or.inr ⟨c_17, c_27⟩)])⟩)
set_option maxHeartbeats 4000000 in
set_option maxRecDepth 100000 in
theorem g_holdersOn (l : Launch) (G : fa_G) (n : Nat) (hn : 397 ≤ n) (v : fa_V) (r : fa_R) (b : Nat) (hB : b ∈ fa_bs) (hr : fa_RS r b) (hI : fa_IS v b) (q : Nat) (a1 : Int32) (hq : fa_isF b q) : fa_MI l G n yX4_holdersOn cX4_holdersOn 5 (some .int) 1 [.ref (fa_B G + (q)), .int (a1)] v r (fun x w => w = (v, r) ∧ (x = fa_hold v q a1)) := by
  refine fa_startI (by decide +kernel) (Nat.le_of_ble_eq_true rfl) (fun p e s m args below meth c ls Q CX hl HX RET => ?_)
  have hl : lv_has ls 5 [(0, .ref (fa_B G + (q))), (1, .int (a1))] := hl
  have hx := CX.1.1
  have hb := CX.1.2.1
  refine lv_iconst (v := nI (0)) hx hb dX4_holdersOn_0 (by decide) ?_
  refine lv_istore_n (lv' := [(2, .int (nI (0))), (0, .ref (fa_B G + (q))), (1, .int (a1))]) hx hb dX4_holdersOn_1 rfl hl (by decide) rfl (fun ls hl => ?_)
  refine lv_iconst (v := nI (0)) hx hb dX4_holdersOn_2 (by decide) ?_
  refine lv_istore_n (lv' := [(3, .int (nI (0))), (2, .int (nI (0))), (0, .ref (fa_B G + (q))), (1, .int (a1))]) hx hb dX4_holdersOn_3 rfl hl (by decide) rfl (fun ls hl => ?_)
  have LOOP_4 : ∀ (fu : Nat) (j : Nat) (mk : Int32) (H : Heap) (locs : List Loc) (ls : Array Slot), 8 - j < fu → (j ≤ 8 ∧ mk = fa_mask (fun h => decide (v (q + 1) h = nI 10000 ∨ ¬ v (q + 1) h < a1)) j) → lv_has ls 5 [(0, .ref (fa_B G + (q))), (1, .int (a1)), (2, .int (mk)), (3, .int (nI (j)))] → fa_HX G (n) v r s H locs → W p l e (fa_rm 1) s m args below meth c H locs (0) (0) Q (F0 m 4 ls []) := by
    intro fu
    induction fu with
    | zero => intro j mk H locs ls hk; exact absurd hk (Nat.not_lt_zero _)
    | succ fu ih_4 =>
      intro j mk H locs ls hk_4 hi_4 hl HX884
      refine lv_iload_n hx hb dX4_holdersOn_4 rfl (lv_at hl 3 rfl) ?_
      refine lv_bipush (v := nI (8)) hx hb dX4_holdersOn_5 (by decide) ?_
      refine lv_icmp_ge (tgt := 44) hx hb dX4_holdersOn_7 (by decide) (fun c_7 => ?_) (fun c_7 => ?_)
      · have he : j = 8 := by
          have := fa_leN (by omega) (by omega) c_7
          omega
        refine lv_iload_n hx hb dX4_holdersOn_44 rfl (lv_at hl 2 rfl) ?_
        exact RET _ _ _ _ _ _ _ HX884 dX4_holdersOn_45 (⟨rfl, (by rw [hi_4.2, he]; rfl)⟩)
      · have hj := fa_ltN (by omega) (by omega) c_7
        refine lv_aload_n hx hb dX4_holdersOn_10 rfl (lv_at hl 0 rfl) ?_
        refine fa_getr (k := q) (j := q + 1) CX HX884 fl_X4_9 (fa_isF_lt hB hq hn) (fa_isF_sh hB hq) rfl (fa_isF_ref hr hq) dX4_holdersOn_11 ?_
        refine lv_iload_n hx hb dX4_holdersOn_14 rfl (lv_at hl 3 rfl) ?_
        refine fa_iald (k := q + 1) (j := j) CX HX884 (fa_isF_lt1 hB hq hn) (fa_isF_sh1 hB hq) (by omega) (by first | decide | assumption) dX4_holdersOn_15 ?_
        refine lv_istore (lv' := [(4, .int (v (q + 1) j)), (0, .ref (fa_B G + (q))), (1, .int (a1)), (2, .int (mk)), (3, .int (nI (j)))]) hx hb dX4_holdersOn_16 hl (by decide) rfl (fun ls hl => ?_)
        refine lv_iload hx hb dX4_holdersOn_18 (lv_at hl 0 rfl) ?_
        refine lv_sipush (v := nI (10000)) hx hb dX4_holdersOn_20 (by decide) ?_
        refine lv_icmp_eq (tgt := 32) hx hb dX4_holdersOn_23 (by decide) (fun c_23 => ?_) (fun c_23 => ?_)
        · refine lv_iload_n hx hb dX4_holdersOn_32 rfl (lv_at hl 3 rfl) ?_
          refine lv_iconst (v := nI (1)) hx hb dX4_holdersOn_33 (by decide) ?_
          refine lv_iload_n hx hb dX4_holdersOn_34 rfl (lv_at hl 4 rfl) ?_
          refine lv_ishl hx hb dX4_holdersOn_35 ?_
          refine lv_ior hx hb dX4_holdersOn_36 ?_
          refine lv_istore_n (lv' := [(2, .int ((mk) ||| ((nI (1)) <<< ((nI (j)) &&& 31)))), (4, .int (v (q + 1) j)), (0, .ref (fa_B G + (q))), (1, .int (a1)), (3, .int (nI (j)))]) hx hb dX4_holdersOn_37 rfl hl (by decide) rfl (fun ls hl => ?_)
          refine lv_iinc (v := nI (j + 1)) (lv' := [(3, .int (nI (j + 1))), (2, .int ((mk) ||| ((nI (1)) <<< ((nI (j)) &&& 31)))), (4, .int (v (q + 1) j)), (0, .ref (fa_B G + (q))), (1, .int (a1))]) hx hb dX4_holdersOn_38 hl (k := 4) rfl (nI_add (j) 1) (by decide) rfl (fun ls hl => ?_)
          refine lv_goto (tgt := 4) hx hb dX4_holdersOn_41 (by decide) ?_
          exact ih_4 (j + 1) ((mk) ||| ((nI (1)) <<< ((nI (j)) &&& 31)))  _ _ _ (by omega) (⟨by omega, by rw [hi_4.2]; exact fa_mask_t (by simp only [decide_eq_true_eq]; exact Or.inl c_23)⟩) (lv_sub hl [3, 4, 1, 0] rfl) HX884
        · refine lv_iload hx hb dX4_holdersOn_26 (lv_at hl 0 rfl) ?_
          refine lv_iload_n hx hb dX4_holdersOn_28 rfl (lv_at hl 2 rfl) ?_
          refine lv_icmp_lt (tgt := 38) hx hb dX4_holdersOn_29 (by decide) (fun c_29 => ?_) (fun c_29 => ?_)
          · refine lv_iinc (v := nI (j + 1)) (lv' := [(3, .int (nI (j + 1))), (4, .int (v (q + 1) j)), (0, .ref (fa_B G + (q))), (1, .int (a1)), (2, .int (mk))]) hx hb dX4_holdersOn_38 hl (k := 4) rfl (nI_add (j) 1) (by decide) rfl (fun ls hl => ?_)
            refine lv_goto (tgt := 4) hx hb dX4_holdersOn_41 (by decide) ?_
            exact ih_4 (j + 1) (mk)  _ _ _ (by omega) (⟨by omega, by rw [hi_4.2]; exact fa_mask_f (by simp only [decide_eq_true_eq]; exact fun z => z.elim c_23 (fun z => z c_29))⟩) (lv_sub hl [2, 3, 4, 0] rfl) HX884
          · refine lv_iload_n hx hb dX4_holdersOn_32 rfl (lv_at hl 3 rfl) ?_
            refine lv_iconst (v := nI (1)) hx hb dX4_holdersOn_33 (by decide) ?_
            refine lv_iload_n hx hb dX4_holdersOn_34 rfl (lv_at hl 4 rfl) ?_
            refine lv_ishl hx hb dX4_holdersOn_35 ?_
            refine lv_ior hx hb dX4_holdersOn_36 ?_
            refine lv_istore_n (lv' := [(2, .int ((mk) ||| ((nI (1)) <<< ((nI (j)) &&& 31)))), (4, .int (v (q + 1) j)), (0, .ref (fa_B G + (q))), (1, .int (a1)), (3, .int (nI (j)))]) hx hb dX4_holdersOn_37 rfl hl (by decide) rfl (fun ls hl => ?_)
            refine lv_iinc (v := nI (j + 1)) (lv' := [(3, .int (nI (j + 1))), (2, .int ((mk) ||| ((nI (1)) <<< ((nI (j)) &&& 31)))), (4, .int (v (q + 1) j)), (0, .ref (fa_B G + (q))), (1, .int (a1))]) hx hb dX4_holdersOn_38 hl (k := 4) rfl (nI_add (j) 1) (by decide) rfl (fun ls hl => ?_)
            refine lv_goto (tgt := 4) hx hb dX4_holdersOn_41 (by decide) ?_
            exact ih_4 (j + 1) ((mk) ||| ((nI (1)) <<< ((nI (j)) &&& 31)))  _ _ _ (by omega) (⟨by omega, by rw [hi_4.2]; exact fa_mask_t (by simp only [decide_eq_true_eq]; exact Or.inr c_29)⟩) (lv_sub hl [3, 4, 1, 0] rfl) HX884
  exact LOOP_4 (8 - 0 + 1) (0) (nI (0))  _ _ _ (Nat.lt_succ_self _) (⟨Nat.zero_le _, rfl⟩) (lv_sub hl [2, 3, 1, 0] rfl) HX
set_option maxHeartbeats 4000000 in
set_option maxRecDepth 100000 in
theorem g_dueDay (l : Launch) (G : fa_G) (n : Nat) (hn : 397 ≤ n) (v : fa_V) (r : fa_R) (b : Nat) (hB : b ∈ fa_bs) (hr : fa_RS r b) (hI : fa_IS v b) (qa : Nat) (hqa : fa_isF b qa) : fa_MI l G n yX3_dueDay cX3_dueDay 4 (some .int) 1 [.ref (fa_B G + (b)), .ref (fa_B G + (qa))] v r (fun x w => w = (v, r) ∧ (x = fa_due v b qa)) := by
  refine fa_startI (by decide +kernel) (Nat.le_of_ble_eq_true rfl) (fun p e s m args below meth c ls Q CX hl HX RET => ?_)
  have hl : lv_has ls 4 [(0, .ref (fa_B G + (b))), (1, .ref (fa_B G + (qa)))] := hl
  have hx := CX.1.1
  have hb := CX.1.2.1
  obtain ⟨kd, hkd, ekd⟩ := hI.kind hqa
  refine lv_aload_n hx hb dX3_dueDay_0 rfl (lv_at hl 0 rfl) ?_
  refine fa_getr (k := b) (j := b + 7) CX HX fl_X3_31 (fa_lt hB 0 (by decide) hn) (fa_s0 hB) rfl hr.2.2.2.1 dX3_dueDay_1 ?_
  refine lv_iconst (v := nI (0)) hx hb dX3_dueDay_4 (by decide) ?_
  refine lv_aload_n hx hb dX3_dueDay_5 rfl (lv_at hl 1 rfl) ?_
  refine fa_geti (k := qa) CX HX fl_X3_193 (fa_isF_lt hB hqa hn) (fa_isF_sh hB hqa) rfl dX3_dueDay_6 ?_
  rw [show v qa 1 = nI (kd) from ekd]
  refine fa_iaddN hx hb dX3_dueDay_9 ?_
  refine fa_iald (k := b + 7) (j := 0 + kd) CX HX (fa_lt hB 7 (by decide) hn) (fa_s7 hB) (by omega) (by first | decide | assumption) dX3_dueDay_10 ?_
  refine lv_istore_n (lv' := [(2, .int (v (b + 7) (0 + kd))), (0, .ref (fa_B G + (b))), (1, .ref (fa_B G + (qa)))]) hx hb dX3_dueDay_11 rfl hl (by decide) rfl (fun ls hl => ?_)
  refine lv_aload_n hx hb dX3_dueDay_12 rfl (lv_at hl 2 rfl) ?_
  refine fa_geti (k := qa) CX HX fl_X3_161 (fa_isF_lt hB hqa hn) (fa_isF_sh hB hqa) rfl dX3_dueDay_13 ?_
  refine lv_bipush (v := (-6 : Int32)) hx hb dX3_dueDay_16 (by decide) ?_
  refine lv_icmp_ne (tgt := 28) hx hb dX3_dueDay_18 (by decide) (fun c_18 => ?_) (fun c_18 => ?_)
  · refine lv_aload_n hx hb dX3_dueDay_28 rfl (lv_at hl 2 rfl) ?_
    refine fa_geti (k := qa) CX HX fl_X3_161 (fa_isF_lt hB hqa hn) (fa_isF_sh hB hqa) rfl dX3_dueDay_29 ?_
    refine lv_istore_n (lv' := [(3, .int (v qa 4)), (2, .int (v (b + 7) (0 + kd))), (0, .ref (fa_B G + (b))), (1, .ref (fa_B G + (qa)))]) hx hb dX3_dueDay_32 rfl hl (by decide) rfl (fun ls hl => ?_)
    refine lv_aload_n hx hb dX3_dueDay_33 rfl (lv_at hl 3 rfl) ?_
    refine fa_geti (k := qa) CX HX fl_X3_95 (fa_isF_lt hB hqa hn) (fa_isF_sh hB hqa) rfl dX3_dueDay_34 ?_
    refine lv_aload_n hx hb dX3_dueDay_37 rfl (lv_at hl 2 rfl) ?_
    refine fa_getr (k := b) (j := b + 7) CX HX fl_X3_31 (fa_lt hB 0 (by decide) hn) (fa_s0 hB) rfl hr.2.2.2.1 dX3_dueDay_38 ?_
    refine lv_iconst (v := nI (5)) hx hb dX3_dueDay_41 (by decide) ?_
    refine fa_iald (k := b + 7) (j := 5) CX HX (fa_lt hB 7 (by decide) hn) (fa_s7 hB) (by omega) (by first | decide | assumption) dX3_dueDay_42 ?_
    refine lv_icmp_lt (tgt := 54) hx hb dX3_dueDay_43 (by decide) (fun c_43 => ?_) (fun c_43 => ?_)
    · refine lv_iload_n hx hb dX3_dueDay_54 rfl (lv_at hl 0 rfl) ?_
      refine lv_iload_n hx hb dX3_dueDay_55 rfl (lv_at hl 1 rfl) ?_
      refine lv_iadd hx hb dX3_dueDay_56 ?_
      exact RET _ _ _ _ _ _ _ HX dX3_dueDay_57 (⟨rfl, (by unfold fa_due; rw [show fa_N (v qa 1) = 0 + kd by (rw [ekd, fa_N_nI (by omega)]; omega), if_pos c_43, if_neg c_18])⟩)
    · refine lv_iload_n hx hb dX3_dueDay_46 rfl (lv_at hl 0 rfl) ?_
      refine lv_iconst (v := nI (2)) hx hb dX3_dueDay_47 (by decide) ?_
      refine lv_iload_n hx hb dX3_dueDay_48 rfl (lv_at hl 1 rfl) ?_
      refine lv_imul hx hb dX3_dueDay_49 ?_
      refine lv_iadd hx hb dX3_dueDay_50 ?_
      refine lv_goto (tgt := 57) hx hb dX3_dueDay_51 (by decide) ?_
      exact RET _ _ _ _ _ _ _ HX dX3_dueDay_57 (⟨rfl, (by unfold fa_due; rw [show fa_N (v qa 1) = 0 + kd by (rw [ekd, fa_N_nI (by omega)]; omega), if_neg c_43, if_neg c_18])⟩)
  · refine lv_aload_n hx hb dX3_dueDay_21 rfl (lv_at hl 2 rfl) ?_
    refine fa_geti (k := qa) CX HX fl_X3_190 (fa_isF_lt hB hqa hn) (fa_isF_sh hB hqa) rfl dX3_dueDay_22 ?_
    refine lv_goto (tgt := 32) hx hb dX3_dueDay_25 (by decide) ?_
    refine lv_istore_n (lv' := [(3, .int (v qa 3)), (2, .int (v (b + 7) (0 + kd))), (0, .ref (fa_B G + (b))), (1, .ref (fa_B G + (qa)))]) hx hb dX3_dueDay_32 rfl hl (by decide) rfl (fun ls hl => ?_)
    refine lv_aload_n hx hb dX3_dueDay_33 rfl (lv_at hl 3 rfl) ?_
    refine fa_geti (k := qa) CX HX fl_X3_95 (fa_isF_lt hB hqa hn) (fa_isF_sh hB hqa) rfl dX3_dueDay_34 ?_
    refine lv_aload_n hx hb dX3_dueDay_37 rfl (lv_at hl 2 rfl) ?_
    refine fa_getr (k := b) (j := b + 7) CX HX fl_X3_31 (fa_lt hB 0 (by decide) hn) (fa_s0 hB) rfl hr.2.2.2.1 dX3_dueDay_38 ?_
    refine lv_iconst (v := nI (5)) hx hb dX3_dueDay_41 (by decide) ?_
    refine fa_iald (k := b + 7) (j := 5) CX HX (fa_lt hB 7 (by decide) hn) (fa_s7 hB) (by omega) (by first | decide | assumption) dX3_dueDay_42 ?_
    refine lv_icmp_lt (tgt := 54) hx hb dX3_dueDay_43 (by decide) (fun c_43 => ?_) (fun c_43 => ?_)
    · refine lv_iload_n hx hb dX3_dueDay_54 rfl (lv_at hl 0 rfl) ?_
      refine lv_iload_n hx hb dX3_dueDay_55 rfl (lv_at hl 1 rfl) ?_
      refine lv_iadd hx hb dX3_dueDay_56 ?_
      exact RET _ _ _ _ _ _ _ HX dX3_dueDay_57 (⟨rfl, (by unfold fa_due; rw [show fa_N (v qa 1) = 0 + kd by (rw [ekd, fa_N_nI (by omega)]; omega), if_pos c_43, if_pos c_18])⟩)
    · refine lv_iload_n hx hb dX3_dueDay_46 rfl (lv_at hl 0 rfl) ?_
      refine lv_iconst (v := nI (2)) hx hb dX3_dueDay_47 (by decide) ?_
      refine lv_iload_n hx hb dX3_dueDay_48 rfl (lv_at hl 1 rfl) ?_
      refine lv_imul hx hb dX3_dueDay_49 ?_
      refine lv_iadd hx hb dX3_dueDay_50 ?_
      refine lv_goto (tgt := 57) hx hb dX3_dueDay_51 (by decide) ?_
      exact RET _ _ _ _ _ _ _ HX dX3_dueDay_57 (⟨rfl, (by unfold fa_due; rw [show fa_N (v qa 1) = 0 + kd by (rw [ekd, fa_N_nI (by omega)]; omega), if_neg c_43, if_pos c_18])⟩)
set_option maxHeartbeats 4000000 in
set_option maxRecDepth 100000 in
theorem g_ownReason (l : Launch) (G : fa_G) (n : Nat) (hn : 397 ≤ n) (v : fa_V) (r : fa_R) (b : Nat) (hB : b ∈ fa_bs) (hr : fa_RS r b) (hI : fa_IS v b) (qa : Nat) (hqa : fa_isF b qa) : fa_MI l G n yX3_ownReason cX3_ownReason 2 (some .int) 3 [.ref (fa_B G + (b)), .ref (fa_B G + (qa))] v r (fun x w => w = (v, r) ∧ (x = fa_own v b qa)) := by
  refine fa_startI (by decide +kernel) (Nat.le_of_ble_eq_true rfl) (fun p e s m args below meth c ls Q CX hl HX RET => ?_)
  have hl : lv_has ls 2 [(0, .ref (fa_B G + (b))), (1, .ref (fa_B G + (qa)))] := hl
  have hx := CX.1.1
  have hb := CX.1.2.1
  refine lv_aload_n hx hb dX3_ownReason_0 rfl (lv_at hl 0 rfl) ?_
  refine lv_aload_n hx hb dX3_ownReason_1 rfl (lv_at hl 1 rfl) ?_
  refine fa_callVip (As := [.ref (fa_B G + (qa))]) (rest := []) CX HX (g_dueDay l G n hn v r b hB hr hI (qa) hqa) ln_X3_174 (fa_lt hB 0 (by decide) hn) (fa_s0 hB) rfl rfl rfl (Nat.le_of_ble_eq_true rfl) hl.1 ⟨Nat.le_of_ble_eq_true rfl, Nat.le_of_ble_eq_true rfl⟩ ⟨Nat.le_refl _, Nat.le_refl _⟩ dX3_ownReason_2 (fun x886 H locs h885 HX887 => ?_)
  have h_dueDay := h885
  refine lv_aload_n hx hb dX3_ownReason_5 rfl (lv_at hl 0 rfl) ?_
  refine fa_geti (k := b) CX HX887 fl_X3_45 (fa_lt hB 0 (by decide) hn) (fa_s0 hB) rfl dX3_ownReason_6 ?_
  refine lv_icmp_le (tgt := 14) hx hb dX3_ownReason_9 (by decide) (fun c_9 => ?_) (fun c_9 => ?_)
  · refine lv_aload_n hx hb dX3_ownReason_14 rfl (lv_at hl 1 rfl) ?_
    refine lv_aload_n hx hb dX3_ownReason_15 rfl (lv_at hl 0 rfl) ?_
    refine fa_geti (k := b) CX HX887 fl_X3_45 (fa_lt hB 0 (by decide) hn) (fa_s0 hB) rfl dX3_ownReason_16 ?_
    refine fa_callVip (As := [.int (v b 0)]) (rest := []) CX HX887 (g_holdersOn l G n hn v r b hB hr hI qa (v b 0) hqa ) ln_X3_105 (fa_isF_lt hB hqa hn) (fa_isF_sh hB hqa) rfl rfl rfl (Nat.le_of_ble_eq_true rfl) hl.1 ⟨Nat.le_of_ble_eq_true rfl, Nat.le_of_ble_eq_true rfl⟩ ⟨Nat.le_refl _, Nat.le_refl _⟩ dX3_ownReason_19 (fun x889 H locs h888 HX890 => ?_)
    have h_holdersOn := h888
    refine lv_if_eq (tgt := 27) hx hb dX3_ownReason_22 (by decide) (fun c_22 => ?_) (fun c_22 => ?_)
    · refine lv_aload_n hx hb dX3_ownReason_27 rfl (lv_at hl 0 rfl) ?_
      refine fa_getr (k := b) (j := b + 2) CX HX890 fl_X3_20 (fa_lt hB 0 (by decide) hn) (fa_s0 hB) rfl hr.2.1 dX3_ownReason_28 ?_
      refine lv_aload_n hx hb dX3_ownReason_31 rfl (lv_at hl 1 rfl) ?_
      refine fa_geti (k := qa) CX HX890 fl_X3_177 (fa_isF_lt hB hqa hn) (fa_isF_sh hB hqa) rfl dX3_ownReason_32 ?_
      refine fa_callVip (As := [.int (v qa 0)]) (rest := []) CX HX890 (g_numberFor l G n hn v r b hB hr hI (v qa 0) ) ln_X3_180 (fa_lt hB 2 (by decide) hn) (fa_s2 hB) rfl rfl rfl (Nat.le_of_ble_eq_true rfl) hl.1 ⟨Nat.le_of_ble_eq_true rfl, Nat.le_of_ble_eq_true rfl⟩ ⟨Nat.le_refl _, Nat.le_refl _⟩ dX3_ownReason_35 (fun x892 H locs h891 HX893 => ?_)
      have h_numberFor := h891
      refine lv_if_le (tgt := 45) hx hb dX3_ownReason_38 (by decide) (fun c_38 => ?_) (fun c_38 => ?_)
      · refine lv_iconst (v := nI (0)) hx hb dX3_ownReason_45 (by decide) ?_
        exact RET _ _ _ _ _ _ _ HX893 dX3_ownReason_46 (⟨rfl, (by have z : x892 = fa_resv v b (v qa 0) := h_numberFor; unfold fa_own; rw [← h_dueDay, if_pos c_9, ← h_holdersOn, if_pos c_22, ← z, if_pos c_38]; rfl)⟩)
      · refine lv_iconst (v := nI (3)) hx hb dX3_ownReason_41 (by decide) ?_
        refine lv_goto (tgt := 46) hx hb dX3_ownReason_42 (by decide) ?_
        exact RET _ _ _ _ _ _ _ HX893 dX3_ownReason_46 (⟨rfl, (by have z : x892 = fa_resv v b (v qa 0) := h_numberFor; unfold fa_own; rw [← h_dueDay, if_pos c_9, ← h_holdersOn, if_pos c_22, ← z, if_neg c_38])⟩)
    · refine lv_iconst (v := nI (2)) hx hb dX3_ownReason_25 (by decide) ?_
      exact RET _ _ _ _ _ _ _ HX890 dX3_ownReason_26 (⟨rfl, (by unfold fa_own; rw [← h_dueDay, if_pos c_9, ← h_holdersOn, if_neg c_22])⟩)
  · refine lv_iconst (v := nI (1)) hx hb dX3_ownReason_12 (by decide) ?_
    exact RET _ _ _ _ _ _ _ HX887 dX3_ownReason_13 (⟨rfl, (by unfold fa_own; rw [← h_dueDay, if_neg c_9])⟩)
set_option maxHeartbeats 4000000 in
set_option maxRecDepth 100000 in
theorem g_askStored (l : Launch) (G : fa_G) (n : Nat) (hn : 397 ≤ n) (v : fa_V) (r : fa_R) (b : Nat) (hB : b ∈ fa_bs) (hr : fa_RS r b) (hI : fa_IS v b) (qa : Nat) (hqa : fa_isF b qa) : fa_MV l G n yX3_askStored cX3_askStored 2 1 [.ref (fa_B G + (b)), .ref (fa_B G + (qa))] v r (fa_vo r (fun v1 => (v1 = fa_ask v b qa) ∧ (fa_fr (b) (b + 56) v v1))) := by
  refine fa_startV (by decide +kernel) (Nat.le_of_ble_eq_true rfl) (fun p e s m args below meth c ls Q CX hl HX RET => ?_)
  have hl : lv_has ls 2 [(0, .ref (fa_B G + (b))), (1, .ref (fa_B G + (qa)))] := hl
  have hx := CX.1.1
  have hb := CX.1.2.1
  have hqi := fa_isF_in hqa
  refine lv_aload_n hx hb dX3_askStored_0 rfl (lv_at hl 1 rfl) ?_
  refine lv_aload_n hx hb dX3_askStored_1 rfl (lv_at hl 0 rfl) ?_
  refine fa_geti (k := b) CX HX fl_X3_45 (fa_lt hB 0 (by decide) hn) (fa_s0 hB) rfl dX3_askStored_2 ?_
  refine fa_puti (k := qa) CX HX fl_X3_161 (fa_isF_lt hB hqa hn) (fa_isF_sh hB hqa) rfl rfl rfl dX3_askStored_5 (fun H locs v894 e895 HX896 => ?_)
  refine lv_aload_n hx hb dX3_askStored_8 rfl (lv_at hl 1 rfl) ?_
  refine lv_dup hx hb dX3_askStored_9 rfl ?_
  refine fa_geti (k := qa) CX HX896 fl_X3_95 (fa_isF_lt hB hqa hn) (fa_isF_sh hB hqa) rfl dX3_askStored_10 ?_
  refine lv_iconst (v := nI (1)) hx hb dX3_askStored_13 (by decide) ?_
  refine lv_iadd hx hb dX3_askStored_14 ?_
  refine fa_puti (k := qa) CX HX896 fl_X3_95 (fa_isF_lt hB hqa hn) (fa_isF_sh hB hqa) rfl rfl rfl dX3_askStored_15 (fun H locs v897 e898 HX899 => ?_)
  refine lv_aload_n hx hb dX3_askStored_18 rfl (lv_at hl 0 rfl) ?_
  refine lv_dup hx hb dX3_askStored_19 rfl ?_
  refine fa_geti (k := b) CX HX899 fl_X3_61 (fa_lt hB 0 (by decide) hn) (fa_s0 hB) rfl dX3_askStored_20 ?_
  refine lv_iconst (v := nI (1)) hx hb dX3_askStored_23 (by decide) ?_
  refine lv_iadd hx hb dX3_askStored_24 ?_
  refine fa_puti (k := b) CX HX899 fl_X3_61 (fa_lt hB 0 (by decide) hn) (fa_s0 hB) rfl rfl rfl dX3_askStored_25 (fun H locs v900 e901 HX902 => ?_)
  exact RET _ _ _ _ _ _ HX902 dX3_askStored_28 (⟨rfl, ⟨(by show v900 = _; rw [e901, e898, e895]; unfold fa_ask; simp only [fa_u_n _ _ (show ¬ (b = qa ∧ (5 : Nat) = 5) by omega), fa_u_n _ _ (show ¬ (b = qa ∧ (5 : Nat) = 4) by omega), fa_u_n _ _ (show ¬ (qa = qa ∧ (5 : Nat) = 4) by omega)]), (by rw [e901]; exact fa_fr.u (by rw [e898]; exact fa_fr.u (by rw [e895]; exact fa_fr.u fa_fr.rf (by omega)) (by omega)) (by omega))⟩⟩)
set_option maxHeartbeats 4000000 in
set_option maxRecDepth 100000 in
theorem g_markReferredFrom (l : Launch) (G : fa_G) (n : Nat) (hn : 397 ≤ n) (v : fa_V) (r : fa_R) (b : Nat) (hB : b ∈ fa_bs) (hr : fa_RS r b) (hI : fa_IS v b) (qa : Nat) (hqa : fa_isF b qa) : fa_MV l G n yX3_markReferredFrom cX3_markReferredFrom 4 2 [.ref (fa_B G + (b)), .ref (fa_B G + (qa))] v r (fa_vo r (fun v1 => ((fa_rsn b v v1) ∧ (∀ A, fb_okA A → fb_cA v r b A → ∀ k, k < A.n → qa = fa_pf r b k → ¬ v qa 8 = 0 → fb_mrP A v v1 r b k)) ∧ (fa_fr (b + 8) (b + 56) v v1))) := by
  refine fa_startV (by decide +kernel) (Nat.le_of_ble_eq_true rfl) (fun p e s m args below meth c ls Q CX hl HX RET => ?_)
  have hl : lv_has ls 4 [(0, .ref (fa_B G + (b))), (1, .ref (fa_B G + (qa)))] := hl
  have hx := CX.1.1
  have hb := CX.1.2.1
  refine lv_aload_n hx hb dX3_markReferredFrom_0 rfl (lv_at hl 1 rfl) ?_
  refine lv_astore_n (lv' := [(2, .ref (fa_B G + (qa))), (0, .ref (fa_B G + (b))), (1, .ref (fa_B G + (qa)))]) hx hb dX3_markReferredFrom_1 rfl hl (by decide) rfl (fun ls hl => ?_)
  refine lv_iconst (v := nI (0)) hx hb dX3_markReferredFrom_2 (by decide) ?_
  refine lv_istore_n (lv' := [(3, .int (nI (0))), (2, .ref (fa_B G + (qa))), (0, .ref (fa_B G + (b))), (1, .ref (fa_B G + (qa)))]) hx hb dX3_markReferredFrom_3 rfl hl (by decide) rfl (fun ls hl => ?_)
  have LOOP_4 : ∀ (fu : Nat) (q2 : Nat) (j : Nat) (v903 : fa_V) (H : Heap) (locs : List Loc) (ls : Array Slot), 24 - j < fu → (j ≤ 24 ∧ fa_isF b q2 ∧ fa_rsn b v v903 ∧ (∀ A, fb_okA A → fb_cA v r b A → ∀ k, k < A.n → qa = fa_pf r b k → ¬ v qa 8 = 0 → ∃ c, q2 = fa_pf r b c ∧ fb_mrI A v v903 r b k c j)) → lv_has ls 4 [(0, .ref (fa_B G + (b))), (1, .ref (fa_B G + (qa))), (2, .ref (fa_B G + (q2))), (3, .int (nI (j)))] → fa_HX G (n) v903 r s H locs → W p l e (fa_rm 2) s m args below meth c H locs (0) (0) Q (F0 m 4 ls []) := by
    intro fu
    induction fu with
    | zero => intro q2 j v903 H locs ls hk; exact absurd hk (Nat.not_lt_zero _)
    | succ fu ih_4 =>
      intro q2 j v903 H locs ls hk_4 hi_4 hl HX904
      have hq2 := hi_4.2.1
      have hI := hi_4.2.2.1.IS hI
      refine lv_iload_n hx hb dX3_markReferredFrom_4 rfl (lv_at hl 3 rfl) ?_
      refine lv_bipush (v := nI (24)) hx hb dX3_markReferredFrom_5 (by decide) ?_
      refine lv_icmp_ge (tgt := 42) hx hb dX3_markReferredFrom_7 (by decide) (fun c_7 => ?_) (fun c_7 => ?_)
      · exact RET _ _ _ _ _ _ HX904 dX3_markReferredFrom_42 (⟨rfl, ⟨⟨hi_4.2.2.1, (fun A hok hc k hk e hv => by (obtain ⟨c, ec, hm⟩ := hi_4.2.2.2 A hok hc k hk e hv; have hw := hc.rsn hi_4.2.2.1; exact (hm.no hok hk (by rw [← e]; exact hv) (fa_leN (by omega) (by omega) c_7)).elim))⟩, (fa_fr.tr fa_fr.rf (fa_fr.wide hi_4.2.2.1.fr (by omega) (by omega)))⟩⟩)
      · have hj := fa_ltN (by omega) (by omega) c_7
        refine lv_aload_n hx hb dX3_markReferredFrom_10 rfl (lv_at hl 0 rfl) ?_
        refine lv_aload_n hx hb dX3_markReferredFrom_11 rfl (lv_at hl 2 rfl) ?_
        refine fa_geti (k := q2) CX HX904 fl_X3_114 (fa_isF_lt hB hq2 hn) (fa_isF_sh hB hq2) rfl dX3_markReferredFrom_12 ?_
        refine fa_callVrp (As := [.int (v903 q2 6)]) (rest := []) CX HX904 (g_find l G n hn v903 r b hB hr hI (v903 q2 6) ) ln_X3_88 (fa_lt hB 0 (by decide) hn) (fa_s0 hB) rfl rfl rfl (Nat.le_of_ble_eq_true rfl) hl.1 ⟨Nat.le_of_ble_eq_true rfl, Nat.le_of_ble_eq_true rfl⟩ ⟨Nat.le_refl _, Nat.le_refl _⟩ dX3_markReferredFrom_15 (fun H locs h905 HX906 => ?_) (fun q907 H locs h905 HX906 => ?_)
        · have hf_none := h905.2 rfl
          refine lv_astore_nN (lv' := [(2, .null), (0, .ref (fa_B G + (b))), (1, .ref (fa_B G + (qa))), (3, .int (nI (j)))]) hx hb dX3_markReferredFrom_18 rfl hl (by decide) rfl (fun ls hl => ?_)
          refine lv_aload_nN hx hb dX3_markReferredFrom_19 rfl (lv_at hl 0 rfl) ?_
          refine lv_ifnullN (tgt := 30) hx hb dX3_markReferredFrom_20 (by decide) ?_
          exact RET _ _ _ _ _ _ HX906 dX3_markReferredFrom_30 (⟨rfl, ⟨⟨hi_4.2.2.1, (fun A hok hc k hk e hv => by (obtain ⟨c, ec, hm⟩ := hi_4.2.2.2 A hok hc k hk e hv; have hw := hc.rsn hi_4.2.2.1; exact hm.e (fun i hi e2 => absurd (by rw [hw.f hi (i := 0) (by decide) (by decide), ec]; exact fb_tgt0 hok hw hm.2.2.1 hi e2) (hf_none i (by rw [hw.n]; exact hi)))))⟩, (fa_fr.tr fa_fr.rf (fa_fr.wide hi_4.2.2.1.fr (by omega) (by omega)))⟩⟩)
        · have hf_q907 := h905.1 q907 rfl
          have hq907 := hf_q907.1
          have hiq907 := fa_isF_in hq907
          refine lv_astore_n (lv' := [(2, .ref (fa_B G + (q907))), (0, .ref (fa_B G + (b))), (1, .ref (fa_B G + (qa))), (3, .int (nI (j)))]) hx hb dX3_markReferredFrom_18 rfl hl (by decide) rfl (fun ls hl => ?_)
          refine lv_aload_n hx hb dX3_markReferredFrom_19 rfl (lv_at hl 0 rfl) ?_
          refine lv_ifnull hx hb dX3_markReferredFrom_20 ?_
          refine lv_aload_n hx hb dX3_markReferredFrom_23 rfl (lv_at hl 0 rfl) ?_
          refine fa_geti (k := q907) CX HX906 fl_X3_168 (fa_isF_lt hB hq907 hn) (fa_isF_sh hB hq907) rfl dX3_markReferredFrom_24 ?_
          refine lv_if_eq (tgt := 31) hx hb dX3_markReferredFrom_27 (by decide) (fun c_27 => ?_) (fun c_27 => ?_)
          · refine lv_aload_n hx hb dX3_markReferredFrom_31 rfl (lv_at hl 0 rfl) ?_
            refine lv_iconst (v := nI (4)) hx hb dX3_markReferredFrom_32 (by decide) ?_
            refine fa_puti (k := q907) CX HX906 fl_X3_168 (fa_isF_lt hB hq907 hn) (fa_isF_sh hB hq907) rfl rfl rfl dX3_markReferredFrom_33 (fun H locs v908 e909 HX910 => ?_)
            refine lv_iinc (v := nI (j + 1)) (lv' := [(3, .int (nI (j + 1))), (2, .ref (fa_B G + (q907))), (0, .ref (fa_B G + (b))), (1, .ref (fa_B G + (qa)))]) hx hb dX3_markReferredFrom_36 hl (k := 3) rfl (nI_add (j) 1) (by decide) rfl (fun ls hl => ?_)
            refine lv_goto (tgt := 4) hx hb dX3_markReferredFrom_39 (by decide) ?_
            exact ih_4 (q907) (j + 1) v908 _ _ _ (by omega) (⟨by omega, hq907, by rw [e909]; exact fa_rsn.u hi_4.2.2.1 hq907, (fun A hok hc k hk e hv => by (obtain ⟨c, ec, hm⟩ := hi_4.2.2.2 A hok hc k hk e hv; have hw := hc.rsn hi_4.2.2.1; obtain ⟨i, hi, ei, -, en⟩ := hw.find1 hf_q907; exact ⟨i, ei, hm.s hok hw hi (by rw [← ec]; exact en) (by rw [← ei]; exact c_27) (by rw [← ei]; exact e909)⟩))⟩) (lv_sub hl [2, 3, 1, 0] rfl) HX910
          · exact RET _ _ _ _ _ _ HX906 dX3_markReferredFrom_30 (⟨rfl, ⟨⟨hi_4.2.2.1, (fun A hok hc k hk e hv => by (obtain ⟨c, ec, hm⟩ := hi_4.2.2.2 A hok hc k hk e hv; have hw := hc.rsn hi_4.2.2.1; obtain ⟨i, hi, ei, -, en⟩ := hw.find1 hf_q907; exact hm.e (fun i2 hi2 e2 => by (have z : i2 = i := hok.num hi2 hi (e2.trans (fb_tgt1 hok hw hm.2.2.1 hi (by rw [← ec]; exact en)).symm); rw [z, ← ei]; exact c_27))))⟩, (fa_fr.tr fa_fr.rf (fa_fr.wide hi_4.2.2.1.fr (by omega) (by omega)))⟩⟩)
  exact LOOP_4 (24 - 0 + 1) (qa) (0) v _ _ _ (Nat.lt_succ_self _) (⟨Nat.zero_le _, hqa, fa_rsn.rf, fun A hok hc k hk e hv => ⟨k, e, fb_mrI.rf hk (by rw [← e]; exact hv)⟩⟩) (lv_sub hl [2, 3, 1, 0] rfl) HX
set_option maxHeartbeats 4000000 in
set_option maxRecDepth 100000 in
theorem g_markReasons (l : Launch) (G : fa_G) (n : Nat) (hn : 397 ≤ n) (v : fa_V) (r : fa_R) (b : Nat) (hB : b ∈ fa_bs) (hr : fa_RS r b) (hI : fa_IS v b) : fa_MV l G n yX3_markReasons cX3_markReasons 2 4 [.ref (fa_B G + (b))] v r (fa_vo r (fun v1 => ((fa_rsn b v v1) ∧ (∀ A, fb_okA A → fb_cA v r b A → ∀ p, p < A.n → v1 (fa_pf r b p) 8 = fb_why A p)) ∧ (fa_fr (b + 8) (b + 56) v v1))) := by
  refine fa_startV (by decide +kernel) (Nat.le_of_ble_eq_true rfl) (fun p e s m args below meth c ls Q CX hl HX RET => ?_)
  have hl : lv_has ls 2 [(0, .ref (fa_B G + (b)))] := hl
  have hx := CX.1.1
  have hb := CX.1.2.1
  obtain ⟨n0, en0⟩ : ∃ n0, n0 = fa_N (v b 1) := ⟨_, rfl⟩
  obtain ⟨hn0, h1⟩ := hI.n1 en0
  refine lv_iconst (v := nI (0)) hx hb dX3_markReasons_0 (by decide) ?_
  refine lv_istore_n (lv' := [(1, .int (nI (0))), (0, .ref (fa_B G + (b)))]) hx hb dX3_markReasons_1 rfl hl (by decide) rfl (fun ls hl => ?_)
  have LOOP_2 : ∀ (fu : Nat) (j : Nat) (v911 : fa_V) (H : Heap) (locs : List Loc) (ls : Array Slot), n0 - j < fu → (j ≤ n0 ∧ fa_rsn b v v911 ∧ (∀ A, fb_okA A → fb_cA v r b A → fb_mk1 A v911 r b j)) → lv_has ls 2 [(0, .ref (fa_B G + (b))), (1, .int (nI (j)))] → fa_HX G (n) v911 r s H locs → W p l e (fa_rm 4) s m args below meth c H locs (0) (0) Q (F0 m 2 ls []) := by
    intro fu
    induction fu with
    | zero => intro j v911 H locs ls hk; exact absurd hk (Nat.not_lt_zero _)
    | succ fu ih_2 =>
      intro j v911 H locs ls hk_2 hi_2 hl HX912
      have hI2 := hi_2.2.1.IS hI
      refine lv_iload_n hx hb dX3_markReasons_2 rfl (lv_at hl 1 rfl) ?_
      refine lv_aload_n hx hb dX3_markReasons_3 rfl (lv_at hl 0 rfl) ?_
      refine fa_geti (k := b) CX HX912 fl_X3_49 (fa_lt hB 0 (by decide) hn) (fa_s0 hB) rfl dX3_markReasons_4 ?_
      rw [show v911 b 1 = nI (n0) from ((hi_2.2.1 b 1 (fun z => absurd z.2 (by decide))).trans h1)]
      refine lv_icmp_ge (tgt := 35) hx hb dX3_markReasons_7 (by decide) (fun c_7 => ?_) (fun c_7 => ?_)
      · have hjn : j = n0 := by
          have := fa_leN (by omega) (by omega) c_7
          omega
        refine lv_iconst (v := nI (0)) hx hb dX3_markReasons_35 (by decide) ?_
        refine lv_istore_n (lv' := [(1, .int (nI (0))), (0, .ref (fa_B G + (b)))]) hx hb dX3_markReasons_36 rfl hl (by decide) rfl (fun ls hl => ?_)
        have LOOP_37 : ∀ (fu : Nat) (j : Nat) (v913 : fa_V) (H : Heap) (locs : List Loc) (ls : Array Slot), n0 - j < fu → (j ≤ n0 ∧ fa_rsn b v v913 ∧ (∀ A, fb_okA A → fb_cA v r b A → fb_m2 A v913 r b j)) → lv_has ls 2 [(0, .ref (fa_B G + (b))), (1, .int (nI (j)))] → fa_HX G (n) v913 r s H locs → W p l e (fa_rm 4) s m args below meth c H locs (0) (0) Q (F0 m 37 ls []) := by
          intro fu
          induction fu with
          | zero => intro j v913 H locs ls hk; exact absurd hk (Nat.not_lt_zero _)
          | succ fu ih_37 =>
            intro j v913 H locs ls hk_37 hi_37 hl HX914
            have hI3 := hi_37.2.1.IS hI
            refine lv_iload_n hx hb dX3_markReasons_37 rfl (lv_at hl 1 rfl) ?_
            refine lv_aload_n hx hb dX3_markReasons_38 rfl (lv_at hl 0 rfl) ?_
            refine fa_geti (k := b) CX HX914 fl_X3_49 (fa_lt hB 0 (by decide) hn) (fa_s0 hB) rfl dX3_markReasons_39 ?_
            rw [show v913 b 1 = nI (n0) from ((hi_37.2.1 b 1 (fun z => absurd z.2 (by decide))).trans h1)]
            refine lv_icmp_ge (tgt := 86) hx hb dX3_markReasons_42 (by decide) (fun c_42 => ?_) (fun c_42 => ?_)
            · have hjm : j = n0 := by
                have := fa_leN (by omega) (by omega) c_42
                omega
              exact RET _ _ _ _ _ _ HX914 dX3_markReasons_86 (⟨rfl, ⟨⟨hi_37.2.1, fun A hok hc p hp => by (have z := hi_37.2.2 A hok hc; rw [show j = A.n by rw [← hc.n, ← en0]; exact hjm] at z; exact z.e hp)⟩, (fa_fr.tr fa_fr.rf (fa_fr.wide hi_37.2.1.fr (by omega) (by omega)))⟩⟩)
            · have hj := fa_ltN (by omega) (by omega) c_42
              refine lv_aload_n hx hb dX3_markReasons_45 rfl (lv_at hl 0 rfl) ?_
              refine fa_getr (k := b) (j := b + 1) CX HX914 fl_X3_11 (fa_lt hB 0 (by decide) hn) (fa_s0 hB) rfl hr.1 dX3_markReasons_46 ?_
              refine lv_iload_n hx hb dX3_markReasons_49 rfl (lv_at hl 1 rfl) ?_
              refine fa_aald (k := b + 1) (j := j) (q := fa_pf r b j) CX HX914 (fa_lt hB 1 (by decide) hn) (fa_s1 hB) rfl (by decide) (by omega) (by first | decide | assumption) (fa_pf_at hr (by omega)) dX3_markReasons_50 ?_
              refine fa_geti (k := fa_pf r b j) CX HX914 fl_X3_168 (fa_isF_lt hB (fa_pf_isF hr (by omega)) hn) (fa_isF_sh hB (fa_pf_isF hr (by omega))) rfl dX3_markReasons_51 ?_
              refine lv_if_eq (tgt := 80) hx hb dX3_markReasons_54 (by decide) (fun c_54 => ?_) (fun c_54 => ?_)
              · refine lv_iinc (v := nI (j + 1)) (lv' := [(1, .int (nI (j + 1))), (0, .ref (fa_B G + (b)))]) hx hb dX3_markReasons_80 hl (k := 1) rfl (nI_add (j) 1) (by decide) rfl (fun ls hl => ?_)
                refine lv_goto (tgt := 37) hx hb dX3_markReasons_83 (by decide) ?_
                exact ih_37 (j + 1) v913 _ _ _ (by omega) (⟨by omega, hi_37.2.1, fun A hok hc => (hi_37.2.2 A hok hc).skip (Or.inl c_54)⟩) (lv_sub hl [1, 0] rfl) HX914
              · refine lv_aload_n hx hb dX3_markReasons_57 rfl (lv_at hl 0 rfl) ?_
                refine fa_getr (k := b) (j := b + 1) CX HX914 fl_X3_11 (fa_lt hB 0 (by decide) hn) (fa_s0 hB) rfl hr.1 dX3_markReasons_58 ?_
                refine lv_iload_n hx hb dX3_markReasons_61 rfl (lv_at hl 1 rfl) ?_
                refine fa_aald (k := b + 1) (j := j) (q := fa_pf r b j) CX HX914 (fa_lt hB 1 (by decide) hn) (fa_s1 hB) rfl (by decide) (by omega) (by first | decide | assumption) (fa_pf_at hr (by omega)) dX3_markReasons_62 ?_
                refine fa_geti (k := fa_pf r b j) CX HX914 fl_X3_168 (fa_isF_lt hB (fa_pf_isF hr (by omega)) hn) (fa_isF_sh hB (fa_pf_isF hr (by omega))) rfl dX3_markReasons_63 ?_
                refine lv_iconst (v := nI (4)) hx hb dX3_markReasons_66 (by decide) ?_
                refine lv_icmp_eq (tgt := 80) hx hb dX3_markReasons_67 (by decide) (fun c_67 => ?_) (fun c_67 => ?_)
                · refine lv_iinc (v := nI (j + 1)) (lv' := [(1, .int (nI (j + 1))), (0, .ref (fa_B G + (b)))]) hx hb dX3_markReasons_80 hl (k := 1) rfl (nI_add (j) 1) (by decide) rfl (fun ls hl => ?_)
                  refine lv_goto (tgt := 37) hx hb dX3_markReasons_83 (by decide) ?_
                  exact ih_37 (j + 1) v913 _ _ _ (by omega) (⟨by omega, hi_37.2.1, fun A hok hc => (hi_37.2.2 A hok hc).skip (Or.inr c_67)⟩) (lv_sub hl [1, 0] rfl) HX914
                · refine lv_aload_n hx hb dX3_markReasons_70 rfl (lv_at hl 0 rfl) ?_
                  refine lv_aload_n hx hb dX3_markReasons_71 rfl (lv_at hl 0 rfl) ?_
                  refine fa_getr (k := b) (j := b + 1) CX HX914 fl_X3_11 (fa_lt hB 0 (by decide) hn) (fa_s0 hB) rfl hr.1 dX3_markReasons_72 ?_
                  refine lv_iload_n hx hb dX3_markReasons_75 rfl (lv_at hl 1 rfl) ?_
                  refine fa_aald (k := b + 1) (j := j) (q := fa_pf r b j) CX HX914 (fa_lt hB 1 (by decide) hn) (fa_s1 hB) rfl (by decide) (by omega) (by first | decide | assumption) (fa_pf_at hr (by omega)) dX3_markReasons_76 ?_
                  refine fa_callVvu (As := [.ref (fa_B G + (fa_pf r b j))]) (rest := []) CX HX914 (g_markReferredFrom l G n hn v913 r b hB hr hI3 (fa_pf r b j) (fa_pf_isF hr (by omega))) ln_X3_171 (fa_lt hB 0 (by decide) hn) (fa_s0 hB) rfl rfl rfl (Nat.le_of_ble_eq_true rfl) hl.1 ⟨Nat.le_of_ble_eq_true rfl, Nat.le_of_ble_eq_true rfl⟩ ⟨Nat.le_refl _, Nat.le_refl _⟩ dX3_markReasons_77 (fun v916 H locs h915 HX917 => ?_)
                  have h_markReferredFrom := h915.1
                  refine lv_iinc (v := nI (j + 1)) (lv' := [(1, .int (nI (j + 1))), (0, .ref (fa_B G + (b)))]) hx hb dX3_markReasons_80 hl (k := 1) rfl (nI_add (j) 1) (by decide) rfl (fun ls hl => ?_)
                  refine lv_goto (tgt := 37) hx hb dX3_markReasons_83 (by decide) ?_
                  exact ih_37 (j + 1) v916 _ _ _ (by omega) (⟨by omega, hi_37.2.1.tr h_markReferredFrom.1, fun A hok hc => (hi_37.2.2 A hok hc).call (by rw [← hc.n, ← en0]; exact hj) c_54 (h_markReferredFrom.2 A hok (hc.rsn hi_37.2.1) j (by rw [← hc.n, ← en0]; exact hj) rfl c_54)⟩) (lv_sub hl [1, 0] rfl) HX917
        exact LOOP_37 (n0 - 0 + 1) (0) v911 _ _ _ (Nat.lt_succ_self _) (⟨Nat.zero_le _, hi_2.2.1, fun A hok hc => fb_m2.start (by have z := hi_2.2.2 A hok hc; rw [show j = A.n by rw [← hc.n, ← en0]; exact hjn] at z; exact z)⟩) (lv_sub hl [1, 0] rfl) HX912
      · have hj := fa_ltN (by omega) (by omega) c_7
        refine lv_aload_n hx hb dX3_markReasons_10 rfl (lv_at hl 0 rfl) ?_
        refine fa_getr (k := b) (j := b + 1) CX HX912 fl_X3_11 (fa_lt hB 0 (by decide) hn) (fa_s0 hB) rfl hr.1 dX3_markReasons_11 ?_
        refine lv_iload_n hx hb dX3_markReasons_14 rfl (lv_at hl 1 rfl) ?_
        refine fa_aald (k := b + 1) (j := j) (q := fa_pf r b j) CX HX912 (fa_lt hB 1 (by decide) hn) (fa_s1 hB) rfl (by decide) (by omega) (by first | decide | assumption) (fa_pf_at hr (by omega)) dX3_markReasons_15 ?_
        refine lv_aload_n hx hb dX3_markReasons_16 rfl (lv_at hl 0 rfl) ?_
        refine lv_aload_n hx hb dX3_markReasons_17 rfl (lv_at hl 0 rfl) ?_
        refine fa_getr (k := b) (j := b + 1) CX HX912 fl_X3_11 (fa_lt hB 0 (by decide) hn) (fa_s0 hB) rfl hr.1 dX3_markReasons_18 ?_
        refine lv_iload_n hx hb dX3_markReasons_21 rfl (lv_at hl 1 rfl) ?_
        refine fa_aald (k := b + 1) (j := j) (q := fa_pf r b j) CX HX912 (fa_lt hB 1 (by decide) hn) (fa_s1 hB) rfl (by decide) (by omega) (by first | decide | assumption) (fa_pf_at hr (by omega)) dX3_markReasons_22 ?_
        refine fa_callVip (As := [.ref (fa_B G + (fa_pf r b j))]) (rest := [.ref (fa_B G + (fa_pf r b j))]) CX HX912 (g_ownReason l G n hn v911 r b hB hr hI2 (fa_pf r b j) (fa_pf_isF hr (by omega))) ln_X3_164 (fa_lt hB 0 (by decide) hn) (fa_s0 hB) rfl rfl rfl (Nat.le_of_ble_eq_true rfl) hl.1 ⟨Nat.le_of_ble_eq_true rfl, Nat.le_of_ble_eq_true rfl⟩ ⟨Nat.le_refl _, Nat.le_refl _⟩ dX3_markReasons_23 (fun x919 H locs h918 HX920 => ?_)
        have h_ownReason := h918
        refine fa_puti (k := fa_pf r b j) CX HX920 fl_X3_168 (fa_isF_lt hB (fa_pf_isF hr (by omega)) hn) (fa_isF_sh hB (fa_pf_isF hr (by omega))) rfl rfl rfl dX3_markReasons_26 (fun H locs v921 e922 HX923 => ?_)
        refine lv_iinc (v := nI (j + 1)) (lv' := [(1, .int (nI (j + 1))), (0, .ref (fa_B G + (b)))]) hx hb dX3_markReasons_29 hl (k := 1) rfl (nI_add (j) 1) (by decide) rfl (fun ls hl => ?_)
        refine lv_goto (tgt := 2) hx hb dX3_markReasons_32 (by decide) ?_
        exact ih_2 (j + 1) v921 _ _ _ (by omega) (⟨by omega, by rw [e922]; exact fa_rsn.u hi_2.2.1 (fa_pf_isF hr (by omega)), fun A hok hc => fb_mk1.s hok (hc.rsn hi_2.2.1) (hi_2.2.2 A hok hc) (by rw [← hc.n, ← en0]; exact hj) h_ownReason e922⟩) (lv_sub hl [1, 0] rfl) HX923
  exact LOOP_2 (n0 - 0 + 1) (0) v _ _ _ (Nat.lt_succ_self _) (⟨Nat.zero_le _, fa_rsn.rf, fun _ _ _ p hp => absurd hp (Nat.not_lt_zero _)⟩) (lv_sub hl [1, 0] rfl) HX
set_option maxHeartbeats 4000000 in
set_option maxRecDepth 100000 in
theorem g_insert (l : Launch) (G : fa_G) (n : Nat) (hn : 397 ≤ n) (v : fa_V) (r : fa_R) (b : Nat) (hB : b ∈ fa_bs) (hr : fa_RS r b) (hI : fa_IS v b) (a1 : Int32) (a2 : Int32) : fa_MV l G n yX2_insert cX2_insert 4 2 [.ref (fa_B G + (b + 2)), .int (a1), .int (a2)] v r (fa_vo r (fun v1 => ((fa_N (v (b + 2) 0) < 8 → ∃ pl, fb_insP v v1 b a1 a2 (fa_N (v (b + 2) 0)) pl) ∧ fa_IS v1 b) ∧ (fa_fr (b + 2) (b + 5) v v1))) := by
  refine fa_startV (by decide +kernel) (Nat.le_of_ble_eq_true rfl) (fun p e s m args below meth c ls Q CX hl HX RET => ?_)
  have hl : lv_has ls 4 [(0, .ref (fa_B G + (b + 2))), (1, .int (a1)), (2, .int (a2))] := hl
  have hx := CX.1.1
  have hb := CX.1.2.1
  obtain ⟨n2, en2⟩ : ∃ n2, n2 = fa_N (v (b + 2) 0) := ⟨_, rfl⟩
  obtain ⟨hn2, h2⟩ := hI.n2 en2
  refine lv_aload_n hx hb dX2_insert_0 rfl (lv_at hl 0 rfl) ?_
  refine fa_geti (k := b + 2) CX HX fl_X2_18 (fa_lt hB 2 (by decide) hn) (fa_s2 hB) rfl dX2_insert_1 ?_
  rw [show v (b + 2) 0 = nI (n2) from h2]
  refine lv_bipush (v := nI (8)) hx hb dX2_insert_4 (by decide) ?_
  refine lv_icmp_lt (tgt := 10) hx hb dX2_insert_6 (by decide) (fun c_6 => ?_) (fun c_6 => ?_)
  · have hn8 : n2 < 8 := fa_ltN' (by omega) (by omega) c_6
    refine lv_aload_n hx hb dX2_insert_10 rfl (lv_at hl 0 rfl) ?_
    refine fa_geti (k := b + 2) CX HX fl_X2_18 (fa_lt hB 2 (by decide) hn) (fa_s2 hB) rfl dX2_insert_11 ?_
    rw [show v (b + 2) 0 = nI (n2) from h2]
    refine lv_istore_n (lv' := [(3, .int (nI (n2))), (0, .ref (fa_B G + (b + 2))), (1, .int (a1)), (2, .int (a2))]) hx hb dX2_insert_14 rfl hl (by decide) rfl (fun ls hl => ?_)
    have LOOP_15 : ∀ (fu : Nat) (pl : Nat) (v924 : fa_V) (H : Heap) (locs : List Loc) (ls : Array Slot), pl < fu → (pl ≤ n2 ∧ fa_IS v924 b ∧ v924 (b + 2) 0 = nI n2 ∧ fa_fr (b + 2) (b + 5) v v924 ∧ fb_insI v v924 b a1 a2 n2 pl) → lv_has ls 4 [(0, .ref (fa_B G + (b + 2))), (1, .int (a1)), (2, .int (a2)), (3, .int (nI (pl)))] → fa_HX G (n) v924 r s H locs → W p l e (fa_rm 2) s m args below meth c H locs (0) (0) Q (F0 m 15 ls []) := by
      intro fu
      induction fu with
      | zero => intro pl v924 H locs ls hk; exact absurd hk (Nat.not_lt_zero _)
      | succ fu ih_15 =>
        intro pl v924 H locs ls hk_15 hi_15 hl HX925
        refine lv_iload_n hx hb dX2_insert_15 rfl (lv_at hl 3 rfl) ?_
        refine lv_if_le (tgt := 65) hx hb dX2_insert_16 (by decide) (fun c_16 => ?_) (fun c_16 => ?_)
        · refine lv_aload_n hx hb dX2_insert_65 rfl (lv_at hl 0 rfl) ?_
          refine fa_getr (k := b + 2) (j := b + 3) CX HX925 fl_X2_9 (fa_lt hB 2 (by decide) hn) (fa_s2 hB) rfl hr.2.2.2.2.1 dX2_insert_66 ?_
          refine lv_iload_n hx hb dX2_insert_69 rfl (lv_at hl 3 rfl) ?_
          refine lv_iload_n hx hb dX2_insert_70 rfl (lv_at hl 1 rfl) ?_
          refine fa_iast (k := b + 3) (j := pl) CX HX925 (fa_lt hB 3 (by decide) hn) (fa_s3 hB) (by omega) (by first | decide | assumption) dX2_insert_71 (fun H locs v926 e927 HX928 => ?_)
          refine lv_aload_n hx hb dX2_insert_72 rfl (lv_at hl 0 rfl) ?_
          refine fa_getr (k := b + 2) (j := b + 4) CX HX928 fl_X2_15 (fa_lt hB 2 (by decide) hn) (fa_s2 hB) rfl hr.2.2.2.2.2.1 dX2_insert_73 ?_
          refine lv_iload_n hx hb dX2_insert_76 rfl (lv_at hl 3 rfl) ?_
          refine lv_iload_n hx hb dX2_insert_77 rfl (lv_at hl 2 rfl) ?_
          refine fa_iast (k := b + 4) (j := pl) CX HX928 (fa_lt hB 4 (by decide) hn) (fa_s4 hB) (by omega) (by first | decide | assumption) dX2_insert_78 (fun H locs v929 e930 HX931 => ?_)
          refine lv_aload_n hx hb dX2_insert_79 rfl (lv_at hl 0 rfl) ?_
          refine lv_dup hx hb dX2_insert_80 rfl ?_
          refine fa_geti (k := b + 2) CX HX931 fl_X2_18 (fa_lt hB 2 (by decide) hn) (fa_s2 hB) rfl dX2_insert_81 ?_
          rw [show v929 (b + 2) 0 = nI (n2) from (by rw [e930, fa_u_n _ _ (by omega)]; exact (by rw [e927, fa_u_n _ _ (by omega)]; exact hi_15.2.2.1))]
          refine lv_iconst (v := nI (1)) hx hb dX2_insert_84 (by decide) ?_
          refine fa_iaddN hx hb dX2_insert_85 ?_
          refine fa_puti (k := b + 2) CX HX931 fl_X2_18 (fa_lt hB 2 (by decide) hn) (fa_s2 hB) rfl rfl rfl dX2_insert_86 (fun H locs v932 e933 HX934 => ?_)
          exact RET _ _ _ _ _ _ HX934 dX2_insert_89 (⟨rfl, ⟨⟨(fun _ => ⟨pl, by rw [← en2]; exact hi_15.2.2.2.2.e hi_15.1 e927 e930 e933 (fun z => absurd c_16 (nI_nle z (by omega)))⟩), (by rw [e933]; exact fa_IS.set2 (by rw [e930]; exact fa_IS.u (by rw [e927]; exact fa_IS.u hi_15.2.1 (Or.inr (Or.inr (Or.inr (Or.inr (Or.inl rfl)))))) (Or.inr (Or.inr (Or.inr (Or.inr (Or.inr (Or.inl rfl))))))) (by omega))⟩, (by rw [e933]; exact fa_fr.u (by rw [e930]; exact fa_fr.u (by rw [e927]; exact fa_fr.u (fa_fr.tr fa_fr.rf (fa_fr.wide hi_15.2.2.2.1 (by omega) (by omega))) (by omega)) (by omega)) (by omega))⟩⟩)
        · have hp : 0 < pl := by
            refine Nat.pos_of_ne_zero (fun z => c_16 ?_)
            rw [z]; decide
          refine lv_aload_n hx hb dX2_insert_19 rfl (lv_at hl 0 rfl) ?_
          refine lv_iload_n hx hb dX2_insert_20 rfl (lv_at hl 1 rfl) ?_
          refine lv_iload_n hx hb dX2_insert_21 rfl (lv_at hl 2 rfl) ?_
          refine lv_iload_n hx hb dX2_insert_22 rfl (lv_at hl 3 rfl) ?_
          refine lv_iconst (v := nI (1)) hx hb dX2_insert_23 (by decide) ?_
          refine fa_isubN hx hb dX2_insert_24 (by omega) ?_
          refine fa_callVip (As := [.int (a1), .int (a2), .int (nI (pl - 1))]) (rest := []) CX HX925 (g_comesBefore l G n hn v924 r b hB hr hi_15.2.1 (a1) (a2) (pl - 1) (by omega)) ln_X2_28 (fa_lt hB 2 (by decide) hn) (fa_s2 hB) rfl rfl rfl (Nat.le_of_ble_eq_true rfl) hl.1 ⟨Nat.le_of_ble_eq_true rfl, Nat.le_of_ble_eq_true rfl⟩ ⟨Nat.le_refl _, Nat.le_refl _⟩ dX2_insert_25 (fun x936 H locs h935 HX937 => ?_)
          have h_comesBefore := h935
          refine lv_if_eq (tgt := 65) hx hb dX2_insert_28 (by decide) (fun c_28 => ?_) (fun c_28 => ?_)
          · refine lv_aload_n hx hb dX2_insert_65 rfl (lv_at hl 0 rfl) ?_
            refine fa_getr (k := b + 2) (j := b + 3) CX HX937 fl_X2_9 (fa_lt hB 2 (by decide) hn) (fa_s2 hB) rfl hr.2.2.2.2.1 dX2_insert_66 ?_
            refine lv_iload_n hx hb dX2_insert_69 rfl (lv_at hl 3 rfl) ?_
            refine lv_iload_n hx hb dX2_insert_70 rfl (lv_at hl 1 rfl) ?_
            refine fa_iast (k := b + 3) (j := pl) CX HX937 (fa_lt hB 3 (by decide) hn) (fa_s3 hB) (by omega) (by first | decide | assumption) dX2_insert_71 (fun H locs v938 e939 HX940 => ?_)
            refine lv_aload_n hx hb dX2_insert_72 rfl (lv_at hl 0 rfl) ?_
            refine fa_getr (k := b + 2) (j := b + 4) CX HX940 fl_X2_15 (fa_lt hB 2 (by decide) hn) (fa_s2 hB) rfl hr.2.2.2.2.2.1 dX2_insert_73 ?_
            refine lv_iload_n hx hb dX2_insert_76 rfl (lv_at hl 3 rfl) ?_
            refine lv_iload_n hx hb dX2_insert_77 rfl (lv_at hl 2 rfl) ?_
            refine fa_iast (k := b + 4) (j := pl) CX HX940 (fa_lt hB 4 (by decide) hn) (fa_s4 hB) (by omega) (by first | decide | assumption) dX2_insert_78 (fun H locs v941 e942 HX943 => ?_)
            refine lv_aload_n hx hb dX2_insert_79 rfl (lv_at hl 0 rfl) ?_
            refine lv_dup hx hb dX2_insert_80 rfl ?_
            refine fa_geti (k := b + 2) CX HX943 fl_X2_18 (fa_lt hB 2 (by decide) hn) (fa_s2 hB) rfl dX2_insert_81 ?_
            rw [show v941 (b + 2) 0 = nI (n2) from (by rw [e942, fa_u_n _ _ (by omega)]; exact (by rw [e939, fa_u_n _ _ (by omega)]; exact hi_15.2.2.1))]
            refine lv_iconst (v := nI (1)) hx hb dX2_insert_84 (by decide) ?_
            refine fa_iaddN hx hb dX2_insert_85 ?_
            refine fa_puti (k := b + 2) CX HX943 fl_X2_18 (fa_lt hB 2 (by decide) hn) (fa_s2 hB) rfl rfl rfl dX2_insert_86 (fun H locs v944 e945 HX946 => ?_)
            exact RET _ _ _ _ _ _ HX946 dX2_insert_89 (⟨rfl, ⟨⟨(fun _ => ⟨pl, by rw [← en2]; exact hi_15.2.2.2.2.e hi_15.1 e939 e942 e945 (fun _ => fb_cbn h_comesBefore c_28)⟩), (by rw [e945]; exact fa_IS.set2 (by rw [e942]; exact fa_IS.u (by rw [e939]; exact fa_IS.u hi_15.2.1 (Or.inr (Or.inr (Or.inr (Or.inr (Or.inl rfl)))))) (Or.inr (Or.inr (Or.inr (Or.inr (Or.inr (Or.inl rfl))))))) (by omega))⟩, (by rw [e945]; exact fa_fr.u (by rw [e942]; exact fa_fr.u (by rw [e939]; exact fa_fr.u (fa_fr.tr fa_fr.rf (fa_fr.wide hi_15.2.2.2.1 (by omega) (by omega))) (by omega)) (by omega)) (by omega))⟩⟩)
          · refine lv_aload_n hx hb dX2_insert_31 rfl (lv_at hl 0 rfl) ?_
            refine fa_getr (k := b + 2) (j := b + 3) CX HX937 fl_X2_9 (fa_lt hB 2 (by decide) hn) (fa_s2 hB) rfl hr.2.2.2.2.1 dX2_insert_32 ?_
            refine lv_iload_n hx hb dX2_insert_35 rfl (lv_at hl 3 rfl) ?_
            refine lv_aload_n hx hb dX2_insert_36 rfl (lv_at hl 0 rfl) ?_
            refine fa_getr (k := b + 2) (j := b + 3) CX HX937 fl_X2_9 (fa_lt hB 2 (by decide) hn) (fa_s2 hB) rfl hr.2.2.2.2.1 dX2_insert_37 ?_
            refine lv_iload_n hx hb dX2_insert_40 rfl (lv_at hl 3 rfl) ?_
            refine lv_iconst (v := nI (1)) hx hb dX2_insert_41 (by decide) ?_
            refine fa_isubN hx hb dX2_insert_42 (by omega) ?_
            refine fa_iald (k := b + 3) (j := pl - 1) CX HX937 (fa_lt hB 3 (by decide) hn) (fa_s3 hB) (by omega) (by first | decide | assumption) dX2_insert_43 ?_
            refine fa_iast (k := b + 3) (j := pl) CX HX937 (fa_lt hB 3 (by decide) hn) (fa_s3 hB) (by omega) (by first | decide | assumption) dX2_insert_44 (fun H locs v947 e948 HX949 => ?_)
            refine lv_aload_n hx hb dX2_insert_45 rfl (lv_at hl 0 rfl) ?_
            refine fa_getr (k := b + 2) (j := b + 4) CX HX949 fl_X2_15 (fa_lt hB 2 (by decide) hn) (fa_s2 hB) rfl hr.2.2.2.2.2.1 dX2_insert_46 ?_
            refine lv_iload_n hx hb dX2_insert_49 rfl (lv_at hl 3 rfl) ?_
            refine lv_aload_n hx hb dX2_insert_50 rfl (lv_at hl 0 rfl) ?_
            refine fa_getr (k := b + 2) (j := b + 4) CX HX949 fl_X2_15 (fa_lt hB 2 (by decide) hn) (fa_s2 hB) rfl hr.2.2.2.2.2.1 dX2_insert_51 ?_
            refine lv_iload_n hx hb dX2_insert_54 rfl (lv_at hl 3 rfl) ?_
            refine lv_iconst (v := nI (1)) hx hb dX2_insert_55 (by decide) ?_
            refine fa_isubN hx hb dX2_insert_56 (by omega) ?_
            refine fa_iald (k := b + 4) (j := pl - 1) CX HX949 (fa_lt hB 4 (by decide) hn) (fa_s4 hB) (by omega) (by first | decide | assumption) dX2_insert_57 ?_
            refine fa_iast (k := b + 4) (j := pl) CX HX949 (fa_lt hB 4 (by decide) hn) (fa_s4 hB) (by omega) (by first | decide | assumption) dX2_insert_58 (fun H locs v950 e951 HX952 => ?_)
            refine lv_iinc (v := nI (pl - 1)) (lv' := [(3, .int (nI (pl - 1))), (0, .ref (fa_B G + (b + 2))), (1, .int (a1)), (2, .int (a2))]) hx hb dX2_insert_59 hl (k := 3) rfl (fa_dec (by omega)) (by decide) rfl (fun ls hl => ?_)
            refine lv_goto (tgt := 15) hx hb dX2_insert_62 (by decide) ?_
            exact ih_15 (pl - 1) v950 _ _ _ (by omega) (⟨by omega, (by rw [e951]; exact fa_IS.u (by rw [e948]; exact fa_IS.u hi_15.2.1 (Or.inr (Or.inr (Or.inr (Or.inr (Or.inl rfl)))))) (Or.inr (Or.inr (Or.inr (Or.inr (Or.inr (Or.inl rfl))))))), (by rw [e951, fa_u_n _ _ (by omega)]; exact (by rw [e948, fa_u_n _ _ (by omega)]; exact hi_15.2.2.1)), (by rw [e951]; exact fa_fr.u (by rw [e948]; exact fa_fr.u (fa_fr.tr fa_fr.rf (fa_fr.wide hi_15.2.2.2.1 (by omega) (by omega))) (by omega)) (by omega)), hi_15.2.2.2.2.s hp e948 e951 (fb_cbt h_comesBefore c_28)⟩) (lv_sub hl [1, 2, 3, 0] rfl) HX952
    exact LOOP_15 (n2 + 1) (n2) v _ _ _ (Nat.lt_succ_self _) (⟨Nat.le_refl _, hI, h2, fa_fr.rf, fun k _ => ⟨rfl, rfl⟩, fun k h1 h2 => by omega, fun k h1 h2 => by omega⟩) (lv_sub hl [1, 2, 3, 0] rfl) HX
  · exact RET _ _ _ _ _ _ HX dX2_insert_9 (⟨rfl, ⟨⟨(fun z => absurd ((nI_ltI (by omega) (by decide)).mpr (by rw [← en2] at z; exact z)) c_6), hI⟩, fa_fr.rf⟩⟩)
set_option maxHeartbeats 4000000 in
set_option maxRecDepth 100000 in
theorem g_removeAt (l : Launch) (G : fa_G) (n : Nat) (hn : 397 ≤ n) (v : fa_V) (r : fa_R) (b : Nat) (hB : b ∈ fa_bs) (hr : fa_RS r b) (hI : fa_IS v b) (a1 : Int32) : fa_MV l G n yX2_removeAt cX2_removeAt 3 1 [.ref (fa_B G + (b + 2)), .int (a1)] v r (fa_vo r (fun v1 => ((∀ ja, a1 = nI ja → ja < fa_N (v (b + 2) 0) → fb_remP v v1 b (fa_N (v (b + 2) 0)) ja) ∧ fa_IS v1 b) ∧ (fa_fr (b + 2) (b + 5) v v1))) := by
  refine fa_startV (by decide +kernel) (Nat.le_of_ble_eq_true rfl) (fun p e s m args below meth c ls Q CX hl HX RET => ?_)
  have hl : lv_has ls 3 [(0, .ref (fa_B G + (b + 2))), (1, .int (a1))] := hl
  have hx := CX.1.1
  have hb := CX.1.2.1
  obtain ⟨n2, en2⟩ : ∃ n2, n2 = fa_N (v (b + 2) 0) := ⟨_, rfl⟩
  obtain ⟨hn2, h2⟩ := hI.n2 en2
  refine lv_iload_n hx hb dX2_removeAt_0 rfl (lv_at hl 1 rfl) ?_
  refine lv_if_lt (tgt := 12) hx hb dX2_removeAt_1 (by decide) (fun c_1 => ?_) (fun c_1 => ?_)
  · exact RET _ _ _ _ _ _ HX dX2_removeAt_12 (⟨rfl, ⟨⟨(fun jb hb hb2 => absurd hb2 (by rw [← en2]; intro hb2; exact absurd c_1 (by rw [hb]; exact nI_pos (by omega)))), hI⟩, fa_fr.rf⟩⟩)
  · refine lv_iload_n hx hb dX2_removeAt_4 rfl (lv_at hl 1 rfl) ?_
    refine lv_aload_n hx hb dX2_removeAt_5 rfl (lv_at hl 0 rfl) ?_
    refine fa_geti (k := b + 2) CX HX fl_X2_18 (fa_lt hB 2 (by decide) hn) (fa_s2 hB) rfl dX2_removeAt_6 ?_
    rw [show v (b + 2) 0 = nI (n2) from h2]
    refine lv_icmp_lt (tgt := 13) hx hb dX2_removeAt_9 (by decide) (fun c_9 => ?_) (fun c_9 => ?_)
    · obtain ⟨ja, hja, eja⟩ := fa_ixN (by omega) c_1 c_9
      refine lv_aload_n hx hb dX2_removeAt_13 rfl (lv_at hl 0 rfl) ?_
      refine lv_dup hx hb dX2_removeAt_14 rfl ?_
      refine fa_geti (k := b + 2) CX HX fl_X2_18 (fa_lt hB 2 (by decide) hn) (fa_s2 hB) rfl dX2_removeAt_15 ?_
      rw [show v (b + 2) 0 = nI (n2) from h2]
      refine lv_iconst (v := nI (1)) hx hb dX2_removeAt_18 (by decide) ?_
      refine fa_isubN hx hb dX2_removeAt_19 (by omega) ?_
      refine fa_puti (k := b + 2) CX HX fl_X2_18 (fa_lt hB 2 (by decide) hn) (fa_s2 hB) rfl rfl rfl dX2_removeAt_20 (fun H locs v953 e954 HX955 => ?_)
      refine lv_iload_n hx hb dX2_removeAt_23 rfl (lv_at hl 1 rfl) ?_
      rw [show a1 = nI (ja) from eja]
      refine lv_istore_n (lv' := [(2, .int (nI (ja))), (0, .ref (fa_B G + (b + 2))), (1, .int (a1))]) hx hb dX2_removeAt_24 rfl hl (by decide) rfl (fun ls hl => ?_)
      have LOOP_25 : ∀ (fu : Nat) (j : Nat) (v956 : fa_V) (H : Heap) (locs : List Loc) (ls : Array Slot), n2 - 1 - j < fu → (j ≤ 7 ∧ fa_IS v956 b ∧ v956 (b + 2) 0 = nI (n2 - 1) ∧ fa_fr (b + 2) (b + 5) v v956 ∧ fb_remI v v956 b ja j) → lv_has ls 3 [(0, .ref (fa_B G + (b + 2))), (1, .int (a1)), (2, .int (nI (j)))] → fa_HX G (n) v956 r s H locs → W p l e (fa_rm 1) s m args below meth c H locs (0) (0) Q (F0 m 25 ls []) := by
        intro fu
        induction fu with
        | zero => intro j v956 H locs ls hk; exact absurd hk (Nat.not_lt_zero _)
        | succ fu ih_25 =>
          intro j v956 H locs ls hk_25 hi_25 hl HX957
          refine lv_iload_n hx hb dX2_removeAt_25 rfl (lv_at hl 2 rfl) ?_
          refine lv_aload_n hx hb dX2_removeAt_26 rfl (lv_at hl 0 rfl) ?_
          refine fa_geti (k := b + 2) CX HX957 fl_X2_18 (fa_lt hB 2 (by decide) hn) (fa_s2 hB) rfl dX2_removeAt_27 ?_
          rw [show v956 (b + 2) 0 = nI (n2 - 1) from hi_25.2.2.1]
          refine lv_icmp_ge (tgt := 67) hx hb dX2_removeAt_30 (by decide) (fun c_30 => ?_) (fun c_30 => ?_)
          · exact RET _ _ _ _ _ _ HX957 dX2_removeAt_67 (⟨rfl, ⟨⟨(fun jb hb hb2 => by (have ej : jb = ja := fb_nIinj2 (by omega) (by omega) (hb.symm.trans eja); subst ej; rw [← en2]; exact hi_25.2.2.2.2.e (fa_leN (by omega) (by omega) c_30) hi_25.2.2.1)), hi_25.2.1⟩, (fa_fr.tr fa_fr.rf (fa_fr.wide hi_25.2.2.2.1 (by omega) (by omega)))⟩⟩)
          · have hj := fa_ltN (by omega) (by omega) c_30
            refine lv_aload_n hx hb dX2_removeAt_33 rfl (lv_at hl 0 rfl) ?_
            refine fa_getr (k := b + 2) (j := b + 3) CX HX957 fl_X2_9 (fa_lt hB 2 (by decide) hn) (fa_s2 hB) rfl hr.2.2.2.2.1 dX2_removeAt_34 ?_
            refine lv_iload_n hx hb dX2_removeAt_37 rfl (lv_at hl 2 rfl) ?_
            refine lv_aload_n hx hb dX2_removeAt_38 rfl (lv_at hl 0 rfl) ?_
            refine fa_getr (k := b + 2) (j := b + 3) CX HX957 fl_X2_9 (fa_lt hB 2 (by decide) hn) (fa_s2 hB) rfl hr.2.2.2.2.1 dX2_removeAt_39 ?_
            refine lv_iload_n hx hb dX2_removeAt_42 rfl (lv_at hl 2 rfl) ?_
            refine lv_iconst (v := nI (1)) hx hb dX2_removeAt_43 (by decide) ?_
            refine fa_iaddN hx hb dX2_removeAt_44 ?_
            refine fa_iald (k := b + 3) (j := j + 1) CX HX957 (fa_lt hB 3 (by decide) hn) (fa_s3 hB) (by omega) (by first | decide | assumption) dX2_removeAt_45 ?_
            refine fa_iast (k := b + 3) (j := j) CX HX957 (fa_lt hB 3 (by decide) hn) (fa_s3 hB) (by omega) (by first | decide | assumption) dX2_removeAt_46 (fun H locs v958 e959 HX960 => ?_)
            refine lv_aload_n hx hb dX2_removeAt_47 rfl (lv_at hl 0 rfl) ?_
            refine fa_getr (k := b + 2) (j := b + 4) CX HX960 fl_X2_15 (fa_lt hB 2 (by decide) hn) (fa_s2 hB) rfl hr.2.2.2.2.2.1 dX2_removeAt_48 ?_
            refine lv_iload_n hx hb dX2_removeAt_51 rfl (lv_at hl 2 rfl) ?_
            refine lv_aload_n hx hb dX2_removeAt_52 rfl (lv_at hl 0 rfl) ?_
            refine fa_getr (k := b + 2) (j := b + 4) CX HX960 fl_X2_15 (fa_lt hB 2 (by decide) hn) (fa_s2 hB) rfl hr.2.2.2.2.2.1 dX2_removeAt_53 ?_
            refine lv_iload_n hx hb dX2_removeAt_56 rfl (lv_at hl 2 rfl) ?_
            refine lv_iconst (v := nI (1)) hx hb dX2_removeAt_57 (by decide) ?_
            refine fa_iaddN hx hb dX2_removeAt_58 ?_
            refine fa_iald (k := b + 4) (j := j + 1) CX HX960 (fa_lt hB 4 (by decide) hn) (fa_s4 hB) (by omega) (by first | decide | assumption) dX2_removeAt_59 ?_
            refine fa_iast (k := b + 4) (j := j) CX HX960 (fa_lt hB 4 (by decide) hn) (fa_s4 hB) (by omega) (by first | decide | assumption) dX2_removeAt_60 (fun H locs v961 e962 HX963 => ?_)
            refine lv_iinc (v := nI (j + 1)) (lv' := [(2, .int (nI (j + 1))), (0, .ref (fa_B G + (b + 2))), (1, .int (a1))]) hx hb dX2_removeAt_61 hl (k := 2) rfl (nI_add (j) 1) (by decide) rfl (fun ls hl => ?_)
            refine lv_goto (tgt := 25) hx hb dX2_removeAt_64 (by decide) ?_
            exact ih_25 (j + 1) v961 _ _ _ (by omega) (⟨by omega, (by rw [e962]; exact fa_IS.u (by rw [e959]; exact fa_IS.u hi_25.2.1 (Or.inr (Or.inr (Or.inr (Or.inr (Or.inl rfl)))))) (Or.inr (Or.inr (Or.inr (Or.inr (Or.inr (Or.inl rfl))))))), (by rw [e962, fa_u_n _ _ (by omega)]; exact (by rw [e959, fa_u_n _ _ (by omega)]; exact hi_25.2.2.1)), (by rw [e962]; exact fa_fr.u (by rw [e959]; exact fa_fr.u (fa_fr.tr fa_fr.rf (fa_fr.wide hi_25.2.2.2.1 (by omega) (by omega))) (by omega)) (by omega)), hi_25.2.2.2.2.s e959 e962⟩) (lv_sub hl [1, 2, 0] rfl) HX963
      exact LOOP_25 (n2 - 1 - ja + 1) (ja) v953 _ _ _ (Nat.lt_succ_self _) (⟨by omega, (by rw [e954]; exact fa_IS.set2 hI (by omega)), (by rw [e954, fa_u_s]), (by rw [e954]; exact fa_fr.u fa_fr.rf (by omega)), fb_remI0 e954⟩) (lv_sub hl [1, 2, 0] rfl) HX955
    · exact RET _ _ _ _ _ _ HX dX2_removeAt_12 (⟨rfl, ⟨⟨(fun jb hb hb2 => absurd hb2 (by rw [← en2]; intro hb2; exact c_9 (by rw [hb]; exact (nI_ltI (by omega) (by omega)).mpr hb2))), hI⟩, fa_fr.rf⟩⟩)
set_option maxHeartbeats 4000000 in
set_option maxRecDepth 100000 in
theorem g_leave (l : Launch) (G : fa_G) (n : Nat) (hn : 397 ≤ n) (v : fa_V) (r : fa_R) (b : Nat) (hB : b ∈ fa_bs) (hr : fa_RS r b) (hI : fa_IS v b) (qa : Nat) (a1 : Int32) (hqa : fa_isF b qa) : fa_MV l G n yX5_leave cX5_leave 4 2 [.ref (fa_B G + (b + 5)), .ref (fa_B G + (qa)), .int (a1)] v r (fa_vo r (fun v1 => ((∀ m T, fb_cT v b m T → fb_cT v1 b (fb_lv a1 (v qa) (m, T)).1 (fb_lv a1 (v qa) (m, T)).2) ∧ fa_IS v1 b) ∧ (fa_fr (b + 5) (b + 7) v v1))) := by
  refine fa_startV (by decide +kernel) (Nat.le_of_ble_eq_true rfl) (fun p e s m args below meth c ls Q CX hl HX RET => ?_)
  have hl : lv_has ls 4 [(0, .ref (fa_B G + (b + 5))), (1, .ref (fa_B G + (qa))), (2, .int (a1))] := hl
  have hx := CX.1.1
  have hb := CX.1.2.1
  obtain ⟨n5, en5⟩ : ∃ n5, n5 = fa_N (v (b + 5) 0) := ⟨_, rfl⟩
  obtain ⟨hn5, h5⟩ := hI.n5 en5
  have hqi := fa_isF_in hqa
  refine lv_aload_n hx hb dX5_leave_0 rfl (lv_at hl 0 rfl) ?_
  refine fa_geti (k := b + 5) CX HX fl_X5_15 (fa_lt hB 5 (by decide) hn) (fa_s5 hB) rfl dX5_leave_1 ?_
  rw [show v (b + 5) 0 = nI (n5) from h5]
  refine lv_bipush (v := nI (12)) hx hb dX5_leave_4 (by decide) ?_
  refine lv_icmp_lt (tgt := 34) hx hb dX5_leave_6 (by decide) (fun c_6 => ?_) (fun c_6 => ?_)
  · have hn12 : n5 < 12 := fa_ltN' (by omega) (by omega) c_6
    refine lv_aload_n hx hb dX5_leave_34 rfl (lv_at hl 0 rfl) ?_
    refine fa_geti (k := b + 5) CX HX fl_X5_15 (fa_lt hB 5 (by decide) hn) (fa_s5 hB) rfl dX5_leave_35 ?_
    rw [show v (b + 5) 0 = nI (n5) from h5]
    refine lv_iconst (v := nI (5)) hx hb dX5_leave_38 (by decide) ?_
    refine fa_imulN hx hb dX5_leave_39 ?_
    refine lv_istore_n (lv' := [(3, .int (nI (n5 * 5))), (0, .ref (fa_B G + (b + 5))), (1, .ref (fa_B G + (qa))), (2, .int (a1))]) hx hb dX5_leave_40 rfl hl (by decide) rfl (fun ls hl => ?_)
    refine lv_aload_n hx hb dX5_leave_41 rfl (lv_at hl 1 rfl) ?_
    refine fa_getr (k := b + 5) (j := b + 6) CX HX fl_X5_9 (fa_lt hB 5 (by decide) hn) (fa_s5 hB) rfl hr.2.2.2.2.2.2.1 dX5_leave_42 ?_
    refine lv_iload_n hx hb dX5_leave_45 rfl (lv_at hl 0 rfl) ?_
    refine lv_aload_n hx hb dX5_leave_46 rfl (lv_at hl 2 rfl) ?_
    refine fa_geti (k := qa) CX HX fl_X5_25 (fa_isF_lt hB hqa hn) (fa_isF_sh hB hqa) rfl dX5_leave_47 ?_
    refine fa_iast (k := b + 6) (j := n5 * 5) CX HX (fa_lt hB 6 (by decide) hn) (fa_s6 hB) (by omega) (by first | decide | assumption) dX5_leave_50 (fun H locs v964 e965 HX966 => ?_)
    refine lv_aload_n hx hb dX5_leave_51 rfl (lv_at hl 1 rfl) ?_
    refine fa_getr (k := b + 5) (j := b + 6) CX HX966 fl_X5_9 (fa_lt hB 5 (by decide) hn) (fa_s5 hB) rfl hr.2.2.2.2.2.2.1 dX5_leave_52 ?_
    refine lv_iload_n hx hb dX5_leave_55 rfl (lv_at hl 0 rfl) ?_
    refine lv_iconst (v := nI (1)) hx hb dX5_leave_56 (by decide) ?_
    refine fa_iaddN hx hb dX5_leave_57 ?_
    refine lv_aload_n hx hb dX5_leave_58 rfl (lv_at hl 2 rfl) ?_
    refine fa_geti (k := qa) CX HX966 fl_X5_30 (fa_isF_lt hB hqa hn) (fa_isF_sh hB hqa) rfl dX5_leave_59 ?_
    refine fa_iast (k := b + 6) (j := n5 * 5 + 1) CX HX966 (fa_lt hB 6 (by decide) hn) (fa_s6 hB) (by omega) (by first | decide | assumption) dX5_leave_62 (fun H locs v967 e968 HX969 => ?_)
    refine lv_aload_n hx hb dX5_leave_63 rfl (lv_at hl 1 rfl) ?_
    refine fa_getr (k := b + 5) (j := b + 6) CX HX969 fl_X5_9 (fa_lt hB 5 (by decide) hn) (fa_s5 hB) rfl hr.2.2.2.2.2.2.1 dX5_leave_64 ?_
    refine lv_iload_n hx hb dX5_leave_67 rfl (lv_at hl 0 rfl) ?_
    refine lv_iconst (v := nI (2)) hx hb dX5_leave_68 (by decide) ?_
    refine fa_iaddN hx hb dX5_leave_69 ?_
    refine lv_aload_n hx hb dX5_leave_70 rfl (lv_at hl 2 rfl) ?_
    refine fa_geti (k := qa) CX HX969 fl_X5_33 (fa_isF_lt hB hqa hn) (fa_isF_sh hB hqa) rfl dX5_leave_71 ?_
    refine fa_iast (k := b + 6) (j := n5 * 5 + 2) CX HX969 (fa_lt hB 6 (by decide) hn) (fa_s6 hB) (by omega) (by first | decide | assumption) dX5_leave_74 (fun H locs v970 e971 HX972 => ?_)
    refine lv_aload_n hx hb dX5_leave_75 rfl (lv_at hl 1 rfl) ?_
    refine fa_getr (k := b + 5) (j := b + 6) CX HX972 fl_X5_9 (fa_lt hB 5 (by decide) hn) (fa_s5 hB) rfl hr.2.2.2.2.2.2.1 dX5_leave_76 ?_
    refine lv_iload_n hx hb dX5_leave_79 rfl (lv_at hl 0 rfl) ?_
    refine lv_iconst (v := nI (3)) hx hb dX5_leave_80 (by decide) ?_
    refine fa_iaddN hx hb dX5_leave_81 ?_
    refine lv_iload_n hx hb dX5_leave_82 rfl (lv_at hl 3 rfl) ?_
    refine fa_iast (k := b + 6) (j := n5 * 5 + 3) CX HX972 (fa_lt hB 6 (by decide) hn) (fa_s6 hB) (by omega) (by first | decide | assumption) dX5_leave_83 (fun H locs v973 e974 HX975 => ?_)
    refine lv_aload_n hx hb dX5_leave_84 rfl (lv_at hl 1 rfl) ?_
    refine fa_getr (k := b + 5) (j := b + 6) CX HX975 fl_X5_9 (fa_lt hB 5 (by decide) hn) (fa_s5 hB) rfl hr.2.2.2.2.2.2.1 dX5_leave_85 ?_
    refine lv_iload_n hx hb dX5_leave_88 rfl (lv_at hl 0 rfl) ?_
    refine lv_iconst (v := nI (4)) hx hb dX5_leave_89 (by decide) ?_
    refine fa_iaddN hx hb dX5_leave_90 ?_
    refine lv_aload_n hx hb dX5_leave_91 rfl (lv_at hl 2 rfl) ?_
    refine fa_geti (k := qa) CX HX975 fl_X5_36 (fa_isF_lt hB hqa hn) (fa_isF_sh hB hqa) rfl dX5_leave_92 ?_
    refine fa_iast (k := b + 6) (j := n5 * 5 + 4) CX HX975 (fa_lt hB 6 (by decide) hn) (fa_s6 hB) (by omega) (by first | decide | assumption) dX5_leave_95 (fun H locs v976 e977 HX978 => ?_)
    refine lv_aload_n hx hb dX5_leave_96 rfl (lv_at hl 1 rfl) ?_
    refine lv_dup hx hb dX5_leave_97 rfl ?_
    refine fa_geti (k := b + 5) CX HX978 fl_X5_15 (fa_lt hB 5 (by decide) hn) (fa_s5 hB) rfl dX5_leave_98 ?_
    rw [show v976 (b + 5) 0 = nI (n5) from (by rw [e977, fa_u_n _ _ (by omega)]; exact (by rw [e974, fa_u_n _ _ (by omega)]; exact (by rw [e971, fa_u_n _ _ (by omega)]; exact (by rw [e968, fa_u_n _ _ (by omega)]; exact (by rw [e965, fa_u_n _ _ (by omega)]; exact h5)))))]
    refine lv_iconst (v := nI (1)) hx hb dX5_leave_101 (by decide) ?_
    refine fa_iaddN hx hb dX5_leave_102 ?_
    refine fa_puti (k := b + 5) CX HX978 fl_X5_15 (fa_lt hB 5 (by decide) hn) (fa_s5 hB) rfl rfl rfl dX5_leave_103 (fun H locs v979 e980 HX981 => ?_)
    exact RET _ _ _ _ _ _ HX981 dX5_leave_106 (⟨rfl, ⟨⟨(fun m T hT => fb_c_lv1 (by omega) hT (by rw [en5, hT.2.1, fa_N_nI (by have := hT.1; omega)]) hn12 e965 e968 e971 e974 e977 e980), (by rw [e980]; exact fa_IS.set5 (by rw [e977]; exact fa_IS.u (by rw [e974]; exact fa_IS.u (by rw [e971]; exact fa_IS.u (by rw [e968]; exact fa_IS.u (by rw [e965]; exact fa_IS.u hI (Or.inr (Or.inr (Or.inr (Or.inr (Or.inr (Or.inr (Or.inl rfl)))))))) (Or.inr (Or.inr (Or.inr (Or.inr (Or.inr (Or.inr (Or.inl rfl)))))))) (Or.inr (Or.inr (Or.inr (Or.inr (Or.inr (Or.inr (Or.inl rfl)))))))) (Or.inr (Or.inr (Or.inr (Or.inr (Or.inr (Or.inr (Or.inl rfl)))))))) (Or.inr (Or.inr (Or.inr (Or.inr (Or.inr (Or.inr (Or.inl rfl)))))))) (by omega))⟩, (by rw [e980]; exact fa_fr.u (by rw [e977]; exact fa_fr.u (by rw [e974]; exact fa_fr.u (by rw [e971]; exact fa_fr.u (by rw [e968]; exact fa_fr.u (by rw [e965]; exact fa_fr.u fa_fr.rf (by omega)) (by omega)) (by omega)) (by omega)) (by omega)) (by omega))⟩⟩)
  · refine lv_aload_n hx hb dX5_leave_9 rfl (lv_at hl 0 rfl) ?_
    refine lv_bipush (v := nI (11)) hx hb dX5_leave_10 (by decide) ?_
    refine fa_puti (k := b + 5) CX HX fl_X5_15 (fa_lt hB 5 (by decide) hn) (fa_s5 hB) rfl rfl rfl dX5_leave_12 (fun H locs v982 e983 HX984 => ?_)
    refine lv_aload_n hx hb dX5_leave_15 rfl (lv_at hl 0 rfl) ?_
    refine fa_getr (k := b + 5) (j := b + 6) CX HX984 fl_X5_9 (fa_lt hB 5 (by decide) hn) (fa_s5 hB) rfl hr.2.2.2.2.2.2.1 dX5_leave_16 ?_
    refine lv_iconst (v := nI (5)) hx hb dX5_leave_19 (by decide) ?_
    refine lv_aload_n hx hb dX5_leave_20 rfl (lv_at hl 0 rfl) ?_
    refine fa_getr (k := b + 5) (j := b + 6) CX HX984 fl_X5_9 (fa_lt hB 5 (by decide) hn) (fa_s5 hB) rfl hr.2.2.2.2.2.2.1 dX5_leave_21 ?_
    refine lv_iconst (v := nI (0)) hx hb dX5_leave_24 (by decide) ?_
    refine lv_aload_n hx hb dX5_leave_25 rfl (lv_at hl 0 rfl) ?_
    refine fa_geti (k := b + 5) CX HX984 fl_X5_15 (fa_lt hB 5 (by decide) hn) (fa_s5 hB) rfl dX5_leave_26 ?_
    rw [show v982 (b + 5) 0 = nI (11) from (by rw [e983, fa_u_s])]
    refine lv_iconst (v := nI (5)) hx hb dX5_leave_29 (by decide) ?_
    refine fa_imulN hx hb dX5_leave_30 ?_
    refine fa_copy (k0 := b + 6) (k1 := b + 6) (sp := 5) (dp := 0) (cnt := 11 * 5) CX HX984 fa_cpl_X5_19 fa_cpn fa_cps fa_cpi hl.1 (fa_lt hB 6 (by decide) hn) (fa_s6 hB) (fa_lt hB 6 (by decide) hn) (fa_s6 hB) (by decide) (by decide) (by first | decide | assumption) (by first | decide | assumption) (Nat.le_of_ble_eq_true rfl) (by decide +kernel) dX5_leave_31 (fun H locs v985 e986 HX987 => ?_)
    refine lv_aload_n hx hb dX5_leave_34 rfl (lv_at hl 0 rfl) ?_
    refine fa_geti (k := b + 5) CX HX987 fl_X5_15 (fa_lt hB 5 (by decide) hn) (fa_s5 hB) rfl dX5_leave_35 ?_
    rw [show v985 (b + 5) 0 = nI (11) from (by rw [fa_cp_out e986 _ (by omega)]; exact (by rw [e983, fa_u_s]))]
    refine lv_iconst (v := nI (5)) hx hb dX5_leave_38 (by decide) ?_
    refine fa_imulN hx hb dX5_leave_39 ?_
    refine lv_istore_n (lv' := [(3, .int (nI (11 * 5))), (0, .ref (fa_B G + (b + 5))), (1, .ref (fa_B G + (qa))), (2, .int (a1))]) hx hb dX5_leave_40 rfl hl (by decide) rfl (fun ls hl => ?_)
    refine lv_aload_n hx hb dX5_leave_41 rfl (lv_at hl 1 rfl) ?_
    refine fa_getr (k := b + 5) (j := b + 6) CX HX987 fl_X5_9 (fa_lt hB 5 (by decide) hn) (fa_s5 hB) rfl hr.2.2.2.2.2.2.1 dX5_leave_42 ?_
    refine lv_iload_n hx hb dX5_leave_45 rfl (lv_at hl 0 rfl) ?_
    refine lv_aload_n hx hb dX5_leave_46 rfl (lv_at hl 2 rfl) ?_
    refine fa_geti (k := qa) CX HX987 fl_X5_25 (fa_isF_lt hB hqa hn) (fa_isF_sh hB hqa) rfl dX5_leave_47 ?_
    refine fa_iast (k := b + 6) (j := 11 * 5) CX HX987 (fa_lt hB 6 (by decide) hn) (fa_s6 hB) (by omega) (by first | decide | assumption) dX5_leave_50 (fun H locs v988 e989 HX990 => ?_)
    refine lv_aload_n hx hb dX5_leave_51 rfl (lv_at hl 1 rfl) ?_
    refine fa_getr (k := b + 5) (j := b + 6) CX HX990 fl_X5_9 (fa_lt hB 5 (by decide) hn) (fa_s5 hB) rfl hr.2.2.2.2.2.2.1 dX5_leave_52 ?_
    refine lv_iload_n hx hb dX5_leave_55 rfl (lv_at hl 0 rfl) ?_
    refine lv_iconst (v := nI (1)) hx hb dX5_leave_56 (by decide) ?_
    refine fa_iaddN hx hb dX5_leave_57 ?_
    refine lv_aload_n hx hb dX5_leave_58 rfl (lv_at hl 2 rfl) ?_
    refine fa_geti (k := qa) CX HX990 fl_X5_30 (fa_isF_lt hB hqa hn) (fa_isF_sh hB hqa) rfl dX5_leave_59 ?_
    refine fa_iast (k := b + 6) (j := 11 * 5 + 1) CX HX990 (fa_lt hB 6 (by decide) hn) (fa_s6 hB) (by omega) (by first | decide | assumption) dX5_leave_62 (fun H locs v991 e992 HX993 => ?_)
    refine lv_aload_n hx hb dX5_leave_63 rfl (lv_at hl 1 rfl) ?_
    refine fa_getr (k := b + 5) (j := b + 6) CX HX993 fl_X5_9 (fa_lt hB 5 (by decide) hn) (fa_s5 hB) rfl hr.2.2.2.2.2.2.1 dX5_leave_64 ?_
    refine lv_iload_n hx hb dX5_leave_67 rfl (lv_at hl 0 rfl) ?_
    refine lv_iconst (v := nI (2)) hx hb dX5_leave_68 (by decide) ?_
    refine fa_iaddN hx hb dX5_leave_69 ?_
    refine lv_aload_n hx hb dX5_leave_70 rfl (lv_at hl 2 rfl) ?_
    refine fa_geti (k := qa) CX HX993 fl_X5_33 (fa_isF_lt hB hqa hn) (fa_isF_sh hB hqa) rfl dX5_leave_71 ?_
    refine fa_iast (k := b + 6) (j := 11 * 5 + 2) CX HX993 (fa_lt hB 6 (by decide) hn) (fa_s6 hB) (by omega) (by first | decide | assumption) dX5_leave_74 (fun H locs v994 e995 HX996 => ?_)
    refine lv_aload_n hx hb dX5_leave_75 rfl (lv_at hl 1 rfl) ?_
    refine fa_getr (k := b + 5) (j := b + 6) CX HX996 fl_X5_9 (fa_lt hB 5 (by decide) hn) (fa_s5 hB) rfl hr.2.2.2.2.2.2.1 dX5_leave_76 ?_
    refine lv_iload_n hx hb dX5_leave_79 rfl (lv_at hl 0 rfl) ?_
    refine lv_iconst (v := nI (3)) hx hb dX5_leave_80 (by decide) ?_
    refine fa_iaddN hx hb dX5_leave_81 ?_
    refine lv_iload_n hx hb dX5_leave_82 rfl (lv_at hl 3 rfl) ?_
    refine fa_iast (k := b + 6) (j := 11 * 5 + 3) CX HX996 (fa_lt hB 6 (by decide) hn) (fa_s6 hB) (by omega) (by first | decide | assumption) dX5_leave_83 (fun H locs v997 e998 HX999 => ?_)
    refine lv_aload_n hx hb dX5_leave_84 rfl (lv_at hl 1 rfl) ?_
    refine fa_getr (k := b + 5) (j := b + 6) CX HX999 fl_X5_9 (fa_lt hB 5 (by decide) hn) (fa_s5 hB) rfl hr.2.2.2.2.2.2.1 dX5_leave_85 ?_
    refine lv_iload_n hx hb dX5_leave_88 rfl (lv_at hl 0 rfl) ?_
    refine lv_iconst (v := nI (4)) hx hb dX5_leave_89 (by decide) ?_
    refine fa_iaddN hx hb dX5_leave_90 ?_
    refine lv_aload_n hx hb dX5_leave_91 rfl (lv_at hl 2 rfl) ?_
    refine fa_geti (k := qa) CX HX999 fl_X5_36 (fa_isF_lt hB hqa hn) (fa_isF_sh hB hqa) rfl dX5_leave_92 ?_
    refine fa_iast (k := b + 6) (j := 11 * 5 + 4) CX HX999 (fa_lt hB 6 (by decide) hn) (fa_s6 hB) (by omega) (by first | decide | assumption) dX5_leave_95 (fun H locs v1000 e1001 HX1002 => ?_)
    refine lv_aload_n hx hb dX5_leave_96 rfl (lv_at hl 1 rfl) ?_
    refine lv_dup hx hb dX5_leave_97 rfl ?_
    refine fa_geti (k := b + 5) CX HX1002 fl_X5_15 (fa_lt hB 5 (by decide) hn) (fa_s5 hB) rfl dX5_leave_98 ?_
    rw [show v1000 (b + 5) 0 = nI (11) from (by rw [e1001, fa_u_n _ _ (by omega)]; exact (by rw [e998, fa_u_n _ _ (by omega)]; exact (by rw [e995, fa_u_n _ _ (by omega)]; exact (by rw [e992, fa_u_n _ _ (by omega)]; exact (by rw [e989, fa_u_n _ _ (by omega)]; exact (by rw [fa_cp_out e986 _ (by omega)]; exact (by rw [e983, fa_u_s])))))))]
    refine lv_iconst (v := nI (1)) hx hb dX5_leave_101 (by decide) ?_
    refine fa_iaddN hx hb dX5_leave_102 ?_
    refine fa_puti (k := b + 5) CX HX1002 fl_X5_15 (fa_lt hB 5 (by decide) hn) (fa_s5 hB) rfl rfl rfl dX5_leave_103 (fun H locs v1003 e1004 HX1005 => ?_)
    exact RET _ _ _ _ _ _ HX1005 dX5_leave_106 (⟨rfl, ⟨⟨(fun m T hT => fb_c_lv2 (by omega) (by omega) hT (by rw [en5, hT.2.1, fa_N_nI (by have := hT.1; omega)]) (Nat.le_of_not_lt (fun z => c_6 ((nI_ltI (by omega) (by decide)).mpr z))) e983 e986 e989 e992 e995 e998 e1001 e1004), (by rw [e1004]; exact fa_IS.set5 (by rw [e1001]; exact fa_IS.u (by rw [e998]; exact fa_IS.u (by rw [e995]; exact fa_IS.u (by rw [e992]; exact fa_IS.u (by rw [e989]; exact fa_IS.u (fa_IS.row (by rw [e983]; exact fa_IS.set5 hI (by omega)) (fa_cp_out e986) (Or.inr (Or.inr (Or.inr (Or.inr (Or.inl rfl)))))) (Or.inr (Or.inr (Or.inr (Or.inr (Or.inr (Or.inr (Or.inl rfl)))))))) (Or.inr (Or.inr (Or.inr (Or.inr (Or.inr (Or.inr (Or.inl rfl)))))))) (Or.inr (Or.inr (Or.inr (Or.inr (Or.inr (Or.inr (Or.inl rfl)))))))) (Or.inr (Or.inr (Or.inr (Or.inr (Or.inr (Or.inr (Or.inl rfl)))))))) (Or.inr (Or.inr (Or.inr (Or.inr (Or.inr (Or.inr (Or.inl rfl)))))))) (by omega))⟩, (by rw [e1004]; exact fa_fr.u (by rw [e1001]; exact fa_fr.u (by rw [e998]; exact fa_fr.u (by rw [e995]; exact fa_fr.u (by rw [e992]; exact fa_fr.u (by rw [e989]; exact fa_fr.u (by rw [e986]; exact fa_fr.cp (by rw [e983]; exact fa_fr.u fa_fr.rf (by omega)) (by omega)) (by omega)) (by omega)) (by omega)) (by omega)) (by omega)) (by omega))⟩⟩)
set_option maxHeartbeats 4000000 in
set_option maxRecDepth 100000 in
theorem g_cellOf (l : Launch) (G : fa_G) (n : Nat) (hn : 397 ≤ n) (v : fa_V) (r : fa_R) (b : Nat) (hB : b ∈ fa_bs) (hr : fa_RS r b) (hI : fa_IS v b) (a1 : Int32) (a2 : Int32) : fa_MI l G n yX5_cellOf cX5_cellOf 3 (some .int) 1 [.ref (fa_B G + (b + 5)), .int (a1), .int (a2)] v r (fun x w => w = (v, r) ∧ (∀ ja jb, a1 = nI ja → a2 = nI jb → ja < fa_N (v (b + 5) 0) → jb < 5 → x = v (b + 6) (5 * (fa_N (v (b + 5) 0) - 1 - ja) + jb))) := by
  refine fa_startI (by decide +kernel) (Nat.le_of_ble_eq_true rfl) (fun p e s m args below meth c ls Q CX hl HX RET => ?_)
  have hl : lv_has ls 3 [(0, .ref (fa_B G + (b + 5))), (1, .int (a1)), (2, .int (a2))] := hl
  have hx := CX.1.1
  have hb := CX.1.2.1
  obtain ⟨n5, en5⟩ : ∃ n5, n5 = fa_N (v (b + 5) 0) := ⟨_, rfl⟩
  obtain ⟨hn5, h5⟩ := hI.n5 en5
  refine lv_iload_n hx hb dX5_cellOf_0 rfl (lv_at hl 1 rfl) ?_
  refine lv_if_lt (tgt := 21) hx hb dX5_cellOf_1 (by decide) (fun c_1 => ?_) (fun c_1 => ?_)
  · refine lv_bipush (v := (-6 : Int32)) hx hb dX5_cellOf_21 (by decide) ?_
    exact RET _ _ _ _ _ _ _ HX dX5_cellOf_23 (⟨rfl, (fun ka kb ea eb ha2 hb2 => by (rw [← en5] at ha2; exact absurd c_1 (by rw [ea]; exact nI_pos (by omega))))⟩)
  · refine lv_iload_n hx hb dX5_cellOf_4 rfl (lv_at hl 1 rfl) ?_
    refine lv_aload_n hx hb dX5_cellOf_5 rfl (lv_at hl 0 rfl) ?_
    refine fa_geti (k := b + 5) CX HX fl_X5_15 (fa_lt hB 5 (by decide) hn) (fa_s5 hB) rfl dX5_cellOf_6 ?_
    rw [show v (b + 5) 0 = nI (n5) from h5]
    refine lv_icmp_ge (tgt := 21) hx hb dX5_cellOf_9 (by decide) (fun c_9 => ?_) (fun c_9 => ?_)
    · refine lv_bipush (v := (-6 : Int32)) hx hb dX5_cellOf_21 (by decide) ?_
      exact RET _ _ _ _ _ _ _ HX dX5_cellOf_23 (⟨rfl, (fun ka kb ea eb ha2 hb2 => by (rw [← en5] at ha2; exact absurd c_9 (by rw [ea]; exact fun z => by have := fa_leN (by omega) (by omega) z; omega)))⟩)
    · obtain ⟨ja, hja, eja⟩ := fa_ixN (by omega) c_1 (Int32.not_le.mp c_9)
      refine lv_iload_n hx hb dX5_cellOf_12 rfl (lv_at hl 2 rfl) ?_
      refine lv_if_lt (tgt := 21) hx hb dX5_cellOf_13 (by decide) (fun c_13 => ?_) (fun c_13 => ?_)
      · refine lv_bipush (v := (-6 : Int32)) hx hb dX5_cellOf_21 (by decide) ?_
        exact RET _ _ _ _ _ _ _ HX dX5_cellOf_23 (⟨rfl, (fun ka kb ea eb ha2 hb2 => by (rw [← en5] at ha2; exact absurd c_13 (by rw [eb]; exact nI_pos (by omega))))⟩)
      · refine lv_iload_n hx hb dX5_cellOf_16 rfl (lv_at hl 2 rfl) ?_
        refine lv_iconst (v := nI (5)) hx hb dX5_cellOf_17 (by decide) ?_
        refine lv_icmp_lt (tgt := 24) hx hb dX5_cellOf_18 (by decide) (fun c_18 => ?_) (fun c_18 => ?_)
        · obtain ⟨jb, hjb, ejb⟩ := fa_ixN (by decide) c_13 c_18
          refine lv_aload_n hx hb dX5_cellOf_24 rfl (lv_at hl 0 rfl) ?_
          refine fa_getr (k := b + 5) (j := b + 6) CX HX fl_X5_9 (fa_lt hB 5 (by decide) hn) (fa_s5 hB) rfl hr.2.2.2.2.2.2.1 dX5_cellOf_25 ?_
          refine lv_aload_n hx hb dX5_cellOf_28 rfl (lv_at hl 0 rfl) ?_
          refine fa_geti (k := b + 5) CX HX fl_X5_15 (fa_lt hB 5 (by decide) hn) (fa_s5 hB) rfl dX5_cellOf_29 ?_
          rw [show v (b + 5) 0 = nI (n5) from h5]
          refine lv_iconst (v := nI (1)) hx hb dX5_cellOf_32 (by decide) ?_
          refine fa_isubN hx hb dX5_cellOf_33 (by omega) ?_
          refine lv_iload_n hx hb dX5_cellOf_34 rfl (lv_at hl 1 rfl) ?_
          rw [show a1 = nI (ja) from eja]
          refine fa_isubN hx hb dX5_cellOf_35 (by omega) ?_
          refine lv_iconst (v := nI (5)) hx hb dX5_cellOf_36 (by decide) ?_
          refine fa_imulN hx hb dX5_cellOf_37 ?_
          refine lv_iload_n hx hb dX5_cellOf_38 rfl (lv_at hl 2 rfl) ?_
          rw [show a2 = nI (jb) from ejb]
          refine fa_iaddN hx hb dX5_cellOf_39 ?_
          refine fa_iald (k := b + 6) (j := ((n5 - 1) - ja) * 5 + jb) CX HX (fa_lt hB 6 (by decide) hn) (fa_s6 hB) (by omega) (by first | decide | assumption) dX5_cellOf_40 ?_
          exact RET _ _ _ _ _ _ _ HX dX5_cellOf_41 (⟨rfl, (fun ka kb ea eb ha2 hb2 => by (have e1 : ka = ja := fb_nIinj2 (by omega) (by omega) (ea.symm.trans eja); have e2 : kb = jb := fb_nIinj2 (by omega) (by omega) (eb.symm.trans ejb); subst e1; subst e2; rw [← en5]; exact congrArg (v (b + 6)) (by omega)))⟩)
        · refine lv_bipush (v := (-6 : Int32)) hx hb dX5_cellOf_21 (by decide) ?_
          exact RET _ _ _ _ _ _ _ HX dX5_cellOf_23 (⟨rfl, (fun ka kb ea eb ha2 hb2 => by (rw [← en5] at ha2; exact absurd (by rw [eb]; exact nI_lt hb2 (by decide)) c_18))⟩)
set_option maxHeartbeats 4000000 in
set_option maxRecDepth 100000 in
theorem g_comeAs (l : Launch) (G : fa_G) (n : Nat) (hn : 397 ≤ n) (v : fa_V) (r : fa_R) (b : Nat) (hB : b ∈ fa_bs) (hr : fa_RS r b) (hI : fa_IS v b) (q : Nat) (a1 : Int32) (kd : Nat) (a3 : Int32) (a4 : Int32) (hq : fa_isF b q) (hkd : kd ≤ 4) : fa_MV l G n yX4_comeAs cX4_comeAs 5 2 [.ref (fa_B G + (q)), .int (a1), .int (nI (kd)), .int (a3), .int (a4)] v r (fa_vo r (fun v1 => (fa_IS v1 b ∧ (∀ i, i < 7 → v1 q i = fb_cm a1 (nI kd) a3 a4 i) ∧ (∀ h, h < 8 → v1 (q + 1) h = (-1 : Int32)) ∧ ∀ j, ¬ j = q → ¬ j = q + 1 → v1 j = v j) ∧ (fa_fr (b + 8) (b + 56) v v1))) := by
  refine fa_startV (by decide +kernel) (Nat.le_of_ble_eq_true rfl) (fun p e s m args below meth c ls Q CX hl HX RET => ?_)
  have hl : lv_has ls 5 [(0, .ref (fa_B G + (q))), (1, .int (a1)), (2, .int (nI (kd))), (3, .int (a3)), (4, .int (a4))] := hl
  have hx := CX.1.1
  have hb := CX.1.2.1
  have hqi := fa_isF_in hq
  refine lv_aload_n hx hb dX4_comeAs_0 rfl (lv_at hl 0 rfl) ?_
  refine lv_iload_n hx hb dX4_comeAs_1 rfl (lv_at hl 1 rfl) ?_
  refine fa_puti (k := q) CX HX fl_X4_15 (fa_isF_lt hB hq hn) (fa_isF_sh hB hq) rfl rfl rfl dX4_comeAs_2 (fun H locs v1006 e1007 HX1008 => ?_)
  refine lv_aload_n hx hb dX4_comeAs_5 rfl (lv_at hl 0 rfl) ?_
  refine lv_iload_n hx hb dX4_comeAs_6 rfl (lv_at hl 2 rfl) ?_
  refine fa_puti (k := q) CX HX1008 fl_X4_19 (fa_isF_lt hB hq hn) (fa_isF_sh hB hq) rfl rfl rfl dX4_comeAs_7 (fun H locs v1009 e1010 HX1011 => ?_)
  refine lv_aload_n hx hb dX4_comeAs_10 rfl (lv_at hl 0 rfl) ?_
  refine lv_iload_n hx hb dX4_comeAs_11 rfl (lv_at hl 3 rfl) ?_
  refine fa_puti (k := q) CX HX1011 fl_X4_22 (fa_isF_lt hB hq hn) (fa_isF_sh hB hq) rfl rfl rfl dX4_comeAs_12 (fun H locs v1012 e1013 HX1014 => ?_)
  refine lv_aload_n hx hb dX4_comeAs_15 rfl (lv_at hl 0 rfl) ?_
  refine lv_iload hx hb dX4_comeAs_16 (lv_at hl 4 rfl) ?_
  refine fa_puti (k := q) CX HX1014 fl_X4_25 (fa_isF_lt hB hq hn) (fa_isF_sh hB hq) rfl rfl rfl dX4_comeAs_18 (fun H locs v1015 e1016 HX1017 => ?_)
  refine lv_aload_n hx hb dX4_comeAs_21 rfl (lv_at hl 0 rfl) ?_
  refine lv_bipush (v := (-6 : Int32)) hx hb dX4_comeAs_22 (by decide) ?_
  refine fa_puti (k := q) CX HX1017 fl_X4_28 (fa_isF_lt hB hq hn) (fa_isF_sh hB hq) rfl rfl rfl dX4_comeAs_24 (fun H locs v1018 e1019 HX1020 => ?_)
  refine lv_aload_n hx hb dX4_comeAs_27 rfl (lv_at hl 0 rfl) ?_
  refine lv_iconst (v := nI (0)) hx hb dX4_comeAs_28 (by decide) ?_
  refine fa_puti (k := q) CX HX1020 fl_X4_31 (fa_isF_lt hB hq hn) (fa_isF_sh hB hq) rfl rfl rfl dX4_comeAs_29 (fun H locs v1021 e1022 HX1023 => ?_)
  refine lv_aload_n hx hb dX4_comeAs_32 rfl (lv_at hl 0 rfl) ?_
  refine lv_bipush (v := (-6 : Int32)) hx hb dX4_comeAs_33 (by decide) ?_
  refine fa_puti (k := q) CX HX1023 fl_X4_34 (fa_isF_lt hB hq hn) (fa_isF_sh hB hq) rfl rfl rfl dX4_comeAs_35 (fun H locs v1024 e1025 HX1026 => ?_)
  refine lv_aload_n hx hb dX4_comeAs_38 rfl (lv_at hl 0 rfl) ?_
  refine fa_getr (k := q) (j := q + 1) CX HX1026 fl_X4_9 (fa_isF_lt hB hq hn) (fa_isF_sh hB hq) rfl (fa_isF_ref hr hq) dX4_comeAs_39 ?_
  refine lv_iconst (v := (-1 : Int32)) hx hb dX4_comeAs_42 (by decide) ?_
  refine fa_callSvu (As := [.ref (fa_B G + (q + 1)), .int ((-1 : Int32))]) (rest := []) CX HX1026 (c_J7_fill_53178 l G n v1024 r (q + 1) 8 (fa_isF_lt1 hB hq hn) (fa_isF_sh1 hB hq) (by decide) ((-1 : Int32))) ln_X4_37 rfl rfl (Nat.le_of_ble_eq_true rfl) hl.1 ⟨Nat.le_of_ble_eq_true rfl, Nat.le_of_ble_eq_true rfl⟩ ⟨Nat.le_refl _, Nat.le_refl _⟩ dX4_comeAs_43 (fun v1028 H locs h1027 HX1029 => ?_)
  exact RET _ _ _ _ _ _ HX1029 dX4_comeAs_46 (⟨rfl, ⟨⟨(fa_IS.row (by rw [e1025]; exact fa_IS.u (by rw [e1022]; exact fa_IS.u (by rw [e1019]; exact fa_IS.u (by rw [e1016]; exact fa_IS.u (by rw [e1013]; exact fa_IS.u (by rw [e1010]; exact fa_IS.setk (by rw [e1007]; exact fa_IS.u hI (Or.inr (Or.inl ⟨hq, by decide⟩))) hq (by omega)) (Or.inr (Or.inl ⟨hq, by decide⟩))) (Or.inr (Or.inl ⟨hq, by decide⟩))) (Or.inr (Or.inl ⟨hq, by decide⟩))) (Or.inr (Or.inl ⟨hq, by decide⟩))) (Or.inr (Or.inl ⟨hq, by decide⟩))) (fun z hz => h1027.2 z (by omega)) (Or.inl (fa_isF.seal hq))), (fun i hi => by (show v1028 q i = _; rw [h1027.2 q (by omega)]; exact fb_cm_eq e1007 e1010 e1013 e1016 e1019 e1022 e1025 hi)), h1027.1.1, (fun j h1 h2 => by (show v1028 j = v j; rw [h1027.2 j (by omega), e1025, fa_u_k _ _ h1, e1022, fa_u_k _ _ h1, e1019, fa_u_k _ _ h1, e1016, fa_u_k _ _ h1, e1013, fa_u_k _ _ h1, e1010, fa_u_k _ _ h1, e1007, fa_u_k _ _ h1]))⟩, (fa_fr.tr (by rw [e1025]; exact fa_fr.u (by rw [e1022]; exact fa_fr.u (by rw [e1019]; exact fa_fr.u (by rw [e1016]; exact fa_fr.u (by rw [e1013]; exact fa_fr.u (by rw [e1010]; exact fa_fr.u (by rw [e1007]; exact fa_fr.u fa_fr.rf (by omega)) (by omega)) (by omega)) (by omega)) (by omega)) (by omega)) (by omega)) (fa_fr.wide h1027.2 (by omega) (by omega)))⟩⟩)
set_option maxHeartbeats 4000000 in
set_option maxRecDepth 100000 in
theorem g_copyFromF (l : Launch) (G : fa_G) (n : Nat) (hn : 397 ≤ n) (v : fa_V) (r : fa_R) (b : Nat) (hB : b ∈ fa_bs) (hr : fa_RS r b) (b2 : Nat) (hB2 : b2 ∈ fa_bs) (hrb2 : fa_RS r b2) (hd : b2 + 56 ≤ b ∨ b + 56 ≤ b2) (hI : fa_IS v b) (q y kd : Nat) (hq : fa_isF b q) (hy : fa_isF b2 y) (hkd : kd ≤ 4) (ekd : v y 1 = nI kd) : fa_MV l G n yX4_copyFrom cX4_copyFrom 2 2 [.ref (fa_B G + (q)), .ref (fa_B G + (y))] v r (fa_vo r (fun v1 => ((fa_IS v1 b) ∧ (∀ i, i < 7 → v1 q i = v y i) ∧ (∀ h, h < 8 → v1 (q + 1) h = v (y + 1) h) ∧ ∀ j, ¬ j = q → ¬ j = q + 1 → v1 j = v j) ∧ (fa_fr (b + 8) (b + 56) v v1))) := by
  refine fa_startV (by decide +kernel) (Nat.le_of_ble_eq_true rfl) (fun p e s m args below meth c ls Q CX hl HX RET => ?_)
  have hl : lv_has ls 2 [(0, .ref (fa_B G + (q))), (1, .ref (fa_B G + (y)))] := hl
  have hx := CX.1.1
  have hb := CX.1.2.1
  have hqi := fa_isF_in hq
  have hyi := fa_isF_in hy
  refine lv_aload_n hx hb dX4_copyFrom_0 rfl (lv_at hl 0 rfl) ?_
  refine lv_aload_n hx hb dX4_copyFrom_1 rfl (lv_at hl 1 rfl) ?_
  refine fa_geti (k := y) CX HX fl_X4_15 (fa_isF_lt hB2 hy hn) (fa_isF_sh hB2 hy) rfl dX4_copyFrom_2 ?_
  refine fa_puti (k := q) CX HX fl_X4_15 (fa_isF_lt hB hq hn) (fa_isF_sh hB hq) rfl rfl rfl dX4_copyFrom_5 (fun H locs v1030 e1031 HX1032 => ?_)
  refine lv_aload_n hx hb dX4_copyFrom_8 rfl (lv_at hl 0 rfl) ?_
  refine lv_aload_n hx hb dX4_copyFrom_9 rfl (lv_at hl 1 rfl) ?_
  refine fa_geti (k := y) CX HX1032 fl_X4_19 (fa_isF_lt hB2 hy hn) (fa_isF_sh hB2 hy) rfl dX4_copyFrom_10 ?_
  rw [show v1030 y 1 = nI (kd) from (by rw [e1031, fa_u_n _ _ (by omega)]; exact ekd)]
  refine fa_puti (k := q) CX HX1032 fl_X4_19 (fa_isF_lt hB hq hn) (fa_isF_sh hB hq) rfl rfl rfl dX4_copyFrom_13 (fun H locs v1033 e1034 HX1035 => ?_)
  refine lv_aload_n hx hb dX4_copyFrom_16 rfl (lv_at hl 0 rfl) ?_
  refine lv_aload_n hx hb dX4_copyFrom_17 rfl (lv_at hl 1 rfl) ?_
  refine fa_geti (k := y) CX HX1035 fl_X4_22 (fa_isF_lt hB2 hy hn) (fa_isF_sh hB2 hy) rfl dX4_copyFrom_18 ?_
  refine fa_puti (k := q) CX HX1035 fl_X4_22 (fa_isF_lt hB hq hn) (fa_isF_sh hB hq) rfl rfl rfl dX4_copyFrom_21 (fun H locs v1036 e1037 HX1038 => ?_)
  refine lv_aload_n hx hb dX4_copyFrom_24 rfl (lv_at hl 0 rfl) ?_
  refine lv_aload_n hx hb dX4_copyFrom_25 rfl (lv_at hl 1 rfl) ?_
  refine fa_geti (k := y) CX HX1038 fl_X4_25 (fa_isF_lt hB2 hy hn) (fa_isF_sh hB2 hy) rfl dX4_copyFrom_26 ?_
  refine fa_puti (k := q) CX HX1038 fl_X4_25 (fa_isF_lt hB hq hn) (fa_isF_sh hB hq) rfl rfl rfl dX4_copyFrom_29 (fun H locs v1039 e1040 HX1041 => ?_)
  refine lv_aload_n hx hb dX4_copyFrom_32 rfl (lv_at hl 0 rfl) ?_
  refine lv_aload_n hx hb dX4_copyFrom_33 rfl (lv_at hl 1 rfl) ?_
  refine fa_geti (k := y) CX HX1041 fl_X4_28 (fa_isF_lt hB2 hy hn) (fa_isF_sh hB2 hy) rfl dX4_copyFrom_34 ?_
  refine fa_puti (k := q) CX HX1041 fl_X4_28 (fa_isF_lt hB hq hn) (fa_isF_sh hB hq) rfl rfl rfl dX4_copyFrom_37 (fun H locs v1042 e1043 HX1044 => ?_)
  refine lv_aload_n hx hb dX4_copyFrom_40 rfl (lv_at hl 0 rfl) ?_
  refine lv_aload_n hx hb dX4_copyFrom_41 rfl (lv_at hl 1 rfl) ?_
  refine fa_geti (k := y) CX HX1044 fl_X4_31 (fa_isF_lt hB2 hy hn) (fa_isF_sh hB2 hy) rfl dX4_copyFrom_42 ?_
  refine fa_puti (k := q) CX HX1044 fl_X4_31 (fa_isF_lt hB hq hn) (fa_isF_sh hB hq) rfl rfl rfl dX4_copyFrom_45 (fun H locs v1045 e1046 HX1047 => ?_)
  refine lv_aload_n hx hb dX4_copyFrom_48 rfl (lv_at hl 0 rfl) ?_
  refine lv_aload_n hx hb dX4_copyFrom_49 rfl (lv_at hl 1 rfl) ?_
  refine fa_geti (k := y) CX HX1047 fl_X4_34 (fa_isF_lt hB2 hy hn) (fa_isF_sh hB2 hy) rfl dX4_copyFrom_50 ?_
  refine fa_puti (k := q) CX HX1047 fl_X4_34 (fa_isF_lt hB hq hn) (fa_isF_sh hB hq) rfl rfl rfl dX4_copyFrom_53 (fun H locs v1048 e1049 HX1050 => ?_)
  refine lv_aload_n hx hb dX4_copyFrom_56 rfl (lv_at hl 1 rfl) ?_
  refine fa_getr (k := y) (j := y + 1) CX HX1050 fl_X4_9 (fa_isF_lt hB2 hy hn) (fa_isF_sh hB2 hy) rfl (fa_isF_ref hrb2 hy) dX4_copyFrom_57 ?_
  refine lv_iconst (v := nI (0)) hx hb dX4_copyFrom_60 (by decide) ?_
  refine lv_aload_n hx hb dX4_copyFrom_61 rfl (lv_at hl 0 rfl) ?_
  refine fa_getr (k := q) (j := q + 1) CX HX1050 fl_X4_9 (fa_isF_lt hB hq hn) (fa_isF_sh hB hq) rfl (fa_isF_ref hr hq) dX4_copyFrom_62 ?_
  refine lv_iconst (v := nI (0)) hx hb dX4_copyFrom_65 (by decide) ?_
  refine lv_bipush (v := nI (8)) hx hb dX4_copyFrom_66 (by decide) ?_
  refine fa_copy (k0 := y + 1) (k1 := q + 1) (sp := 0) (dp := 0) (cnt := 8) CX HX1050 fa_cpl_X4_43 fa_cpn fa_cps fa_cpi hl.1 (fa_isF_lt1 hB2 hy hn) (fa_isF_sh1 hB2 hy) (fa_isF_lt1 hB hq hn) (fa_isF_sh1 hB hq) (by decide) (by decide) (by first | decide | assumption) (by first | decide | assumption) (Nat.le_of_ble_eq_true rfl) (by decide +kernel) dX4_copyFrom_68 (fun H locs v1051 e1052 HX1053 => ?_)
  exact RET _ _ _ _ _ _ HX1053 dX4_copyFrom_71 (⟨rfl, ⟨⟨(fa_IS.row (by rw [e1049]; exact fa_IS.u (by rw [e1046]; exact fa_IS.u (by rw [e1043]; exact fa_IS.u (by rw [e1040]; exact fa_IS.u (by rw [e1037]; exact fa_IS.u (by rw [e1034]; exact fa_IS.setk (by rw [e1031]; exact fa_IS.u hI (Or.inr (Or.inl ⟨hq, by decide⟩))) hq (by omega)) (Or.inr (Or.inl ⟨hq, by decide⟩))) (Or.inr (Or.inl ⟨hq, by decide⟩))) (Or.inr (Or.inl ⟨hq, by decide⟩))) (Or.inr (Or.inl ⟨hq, by decide⟩))) (Or.inr (Or.inl ⟨hq, by decide⟩))) (fa_cp_out e1052) (Or.inl (fa_isF.seal hq))), fb_cpF (by omega) (by omega) (by omega) ekd e1031 e1034 e1037 e1040 e1043 e1046 e1049 e1052⟩, (by rw [e1052]; exact fa_fr.cp (by rw [e1049]; exact fa_fr.u (by rw [e1046]; exact fa_fr.u (by rw [e1043]; exact fa_fr.u (by rw [e1040]; exact fa_fr.u (by rw [e1037]; exact fa_fr.u (by rw [e1034]; exact fa_fr.u (by rw [e1031]; exact fa_fr.u fa_fr.rf (by omega)) (by omega)) (by omega)) (by omega)) (by omega)) (by omega)) (by omega)) (by omega))⟩⟩)
set_option maxHeartbeats 4000000 in
set_option maxRecDepth 100000 in
theorem g_copyFromR (l : Launch) (G : fa_G) (n : Nat) (hn : 397 ≤ n) (v : fa_V) (r : fa_R) (b : Nat) (hB : b ∈ fa_bs) (hr : fa_RS r b) (b2 : Nat) (hB2 : b2 ∈ fa_bs) (hrb2 : fa_RS r b2) (hd : b2 + 56 ≤ b ∨ b + 56 ≤ b2) (hI : fa_IS v b) (kd : Nat) (hkd : kd ≤ 8) (ekd : v (b2 + 2) 0 = nI kd) : fa_MV l G n yX2_copyFrom cX2_copyFrom 2 2 [.ref (fa_B G + (b + 2)), .ref (fa_B G + (b2 + 2))] v r (fa_vo r (fun v1 => ((fa_IS v1 b) ∧ v1 (b + 2) 0 = v (b2 + 2) 0 ∧ ∀ k, k < 8 → v1 (b + 3) k = v (b2 + 3) k ∧ v1 (b + 4) k = v (b2 + 4) k) ∧ (fa_fr (b + 2) (b + 5) v v1))) := by
  refine fa_startV (by decide +kernel) (Nat.le_of_ble_eq_true rfl) (fun p e s m args below meth c ls Q CX hl HX RET => ?_)
  have hl : lv_has ls 2 [(0, .ref (fa_B G + (b + 2))), (1, .ref (fa_B G + (b2 + 2)))] := hl
  have hx := CX.1.1
  have hb := CX.1.2.1
  refine lv_aload_n hx hb dX2_copyFrom_0 rfl (lv_at hl 0 rfl) ?_
  refine lv_aload_n hx hb dX2_copyFrom_1 rfl (lv_at hl 1 rfl) ?_
  refine fa_geti (k := b2 + 2) CX HX fl_X2_18 (fa_lt hB2 2 (by decide) hn) (fa_s2 hB2) rfl dX2_copyFrom_2 ?_
  rw [show v (b2 + 2) 0 = nI (kd) from ekd]
  refine fa_puti (k := b + 2) CX HX fl_X2_18 (fa_lt hB 2 (by decide) hn) (fa_s2 hB) rfl rfl rfl dX2_copyFrom_5 (fun H locs v1054 e1055 HX1056 => ?_)
  refine lv_aload_n hx hb dX2_copyFrom_8 rfl (lv_at hl 1 rfl) ?_
  refine fa_getr (k := b2 + 2) (j := b2 + 3) CX HX1056 fl_X2_9 (fa_lt hB2 2 (by decide) hn) (fa_s2 hB2) rfl hrb2.2.2.2.2.1 dX2_copyFrom_9 ?_
  refine lv_iconst (v := nI (0)) hx hb dX2_copyFrom_12 (by decide) ?_
  refine lv_aload_n hx hb dX2_copyFrom_13 rfl (lv_at hl 0 rfl) ?_
  refine fa_getr (k := b + 2) (j := b + 3) CX HX1056 fl_X2_9 (fa_lt hB 2 (by decide) hn) (fa_s2 hB) rfl hr.2.2.2.2.1 dX2_copyFrom_14 ?_
  refine lv_iconst (v := nI (0)) hx hb dX2_copyFrom_17 (by decide) ?_
  refine lv_bipush (v := nI (8)) hx hb dX2_copyFrom_18 (by decide) ?_
  refine fa_copy (k0 := b2 + 3) (k1 := b + 3) (sp := 0) (dp := 0) (cnt := 8) CX HX1056 fa_cpl_X2_22 fa_cpn fa_cps fa_cpi hl.1 (fa_lt hB2 3 (by decide) hn) (fa_s3 hB2) (fa_lt hB 3 (by decide) hn) (fa_s3 hB) (by decide) (by decide) (by first | decide | assumption) (by first | decide | assumption) (Nat.le_of_ble_eq_true rfl) (by decide +kernel) dX2_copyFrom_20 (fun H locs v1057 e1058 HX1059 => ?_)
  refine lv_aload_n hx hb dX2_copyFrom_23 rfl (lv_at hl 1 rfl) ?_
  refine fa_getr (k := b2 + 2) (j := b2 + 4) CX HX1059 fl_X2_15 (fa_lt hB2 2 (by decide) hn) (fa_s2 hB2) rfl hrb2.2.2.2.2.2.1 dX2_copyFrom_24 ?_
  refine lv_iconst (v := nI (0)) hx hb dX2_copyFrom_27 (by decide) ?_
  refine lv_aload_n hx hb dX2_copyFrom_28 rfl (lv_at hl 0 rfl) ?_
  refine fa_getr (k := b + 2) (j := b + 4) CX HX1059 fl_X2_15 (fa_lt hB 2 (by decide) hn) (fa_s2 hB) rfl hr.2.2.2.2.2.1 dX2_copyFrom_29 ?_
  refine lv_iconst (v := nI (0)) hx hb dX2_copyFrom_32 (by decide) ?_
  refine lv_bipush (v := nI (8)) hx hb dX2_copyFrom_33 (by decide) ?_
  refine fa_copy (k0 := b2 + 4) (k1 := b + 4) (sp := 0) (dp := 0) (cnt := 8) CX HX1059 fa_cpl_X2_22 fa_cpn fa_cps fa_cpi hl.1 (fa_lt hB2 4 (by decide) hn) (fa_s4 hB2) (fa_lt hB 4 (by decide) hn) (fa_s4 hB) (by decide) (by decide) (by first | decide | assumption) (by first | decide | assumption) (Nat.le_of_ble_eq_true rfl) (by decide +kernel) dX2_copyFrom_35 (fun H locs v1060 e1061 HX1062 => ?_)
  exact RET _ _ _ _ _ _ HX1062 dX2_copyFrom_38 (⟨rfl, ⟨⟨(fa_IS.row (fa_IS.row (by rw [e1055]; exact fa_IS.set2 hI (by omega)) (fa_cp_out e1058) (Or.inr (Or.inr (Or.inl rfl)))) (fa_cp_out e1061) (Or.inr (Or.inr (Or.inr (Or.inl rfl))))), fb_cpR hd ekd e1055 e1058 e1061⟩, (by rw [e1061]; exact fa_fr.cp (by rw [e1058]; exact fa_fr.cp (by rw [e1055]; exact fa_fr.u fa_fr.rf (by omega)) (by omega)) (by omega))⟩⟩)
set_option maxHeartbeats 4000000 in
set_option maxRecDepth 100000 in
theorem g_copyFromT (l : Launch) (G : fa_G) (n : Nat) (hn : 397 ≤ n) (v : fa_V) (r : fa_R) (b : Nat) (hB : b ∈ fa_bs) (hr : fa_RS r b) (b2 : Nat) (hB2 : b2 ∈ fa_bs) (hrb2 : fa_RS r b2) (hd : b2 + 56 ≤ b ∨ b + 56 ≤ b2) (hI : fa_IS v b) (kd : Nat) (hkd : kd ≤ 12) (ekd : v (b2 + 5) 0 = nI kd) : fa_MV l G n yX5_copyFrom cX5_copyFrom 2 2 [.ref (fa_B G + (b + 5)), .ref (fa_B G + (b2 + 5))] v r (fa_vo r (fun v1 => ((fa_IS v1 b) ∧ v1 (b + 5) 0 = v (b2 + 5) 0 ∧ ∀ k, k < 60 → v1 (b + 6) k = v (b2 + 6) k) ∧ (fa_fr (b + 5) (b + 7) v v1))) := by
  refine fa_startV (by decide +kernel) (Nat.le_of_ble_eq_true rfl) (fun p e s m args below meth c ls Q CX hl HX RET => ?_)
  have hl : lv_has ls 2 [(0, .ref (fa_B G + (b + 5))), (1, .ref (fa_B G + (b2 + 5)))] := hl
  have hx := CX.1.1
  have hb := CX.1.2.1
  refine lv_aload_n hx hb dX5_copyFrom_0 rfl (lv_at hl 0 rfl) ?_
  refine lv_aload_n hx hb dX5_copyFrom_1 rfl (lv_at hl 1 rfl) ?_
  refine fa_geti (k := b2 + 5) CX HX fl_X5_15 (fa_lt hB2 5 (by decide) hn) (fa_s5 hB2) rfl dX5_copyFrom_2 ?_
  rw [show v (b2 + 5) 0 = nI (kd) from ekd]
  refine fa_puti (k := b + 5) CX HX fl_X5_15 (fa_lt hB 5 (by decide) hn) (fa_s5 hB) rfl rfl rfl dX5_copyFrom_5 (fun H locs v1063 e1064 HX1065 => ?_)
  refine lv_aload_n hx hb dX5_copyFrom_8 rfl (lv_at hl 1 rfl) ?_
  refine fa_getr (k := b2 + 5) (j := b2 + 6) CX HX1065 fl_X5_9 (fa_lt hB2 5 (by decide) hn) (fa_s5 hB2) rfl hrb2.2.2.2.2.2.2.1 dX5_copyFrom_9 ?_
  refine lv_iconst (v := nI (0)) hx hb dX5_copyFrom_12 (by decide) ?_
  refine lv_aload_n hx hb dX5_copyFrom_13 rfl (lv_at hl 0 rfl) ?_
  refine fa_getr (k := b + 5) (j := b + 6) CX HX1065 fl_X5_9 (fa_lt hB 5 (by decide) hn) (fa_s5 hB) rfl hr.2.2.2.2.2.2.1 dX5_copyFrom_14 ?_
  refine lv_iconst (v := nI (0)) hx hb dX5_copyFrom_17 (by decide) ?_
  refine lv_bipush (v := nI (60)) hx hb dX5_copyFrom_18 (by decide) ?_
  refine fa_copy (k0 := b2 + 6) (k1 := b + 6) (sp := 0) (dp := 0) (cnt := 60) CX HX1065 fa_cpl_X5_19 fa_cpn fa_cps fa_cpi hl.1 (fa_lt hB2 6 (by decide) hn) (fa_s6 hB2) (fa_lt hB 6 (by decide) hn) (fa_s6 hB) (by decide) (by decide) (by first | decide | assumption) (by first | decide | assumption) (Nat.le_of_ble_eq_true rfl) (by decide +kernel) dX5_copyFrom_20 (fun H locs v1066 e1067 HX1068 => ?_)
  exact RET _ _ _ _ _ _ HX1068 dX5_copyFrom_23 (⟨rfl, ⟨⟨(fa_IS.row (by rw [e1064]; exact fa_IS.set5 hI (by omega)) (fa_cp_out e1067) (Or.inr (Or.inr (Or.inr (Or.inr (Or.inl rfl)))))), fb_cpT hd ekd e1064 e1067⟩, (by rw [e1067]; exact fa_fr.cp (by rw [e1064]; exact fa_fr.u fa_fr.rf (by omega)) (by omega))⟩⟩)
