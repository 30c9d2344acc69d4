theorem cw_J6_265 : Cond.constant RJ6 265 (1431655765) ∈ fa_tbl := fa_in 330 (by decide +kernel) (by decide +kernel)
theorem cw_J6_266 : Cond.constant RJ6 266 (858993459) ∈ fa_tbl := fa_in 331 (by decide +kernel) (by decide +kernel)
theorem cw_J6_267 : Cond.constant RJ6 267 (252645135) ∈ fa_tbl := fa_in 332 (by decide +kernel) (by decide +kernel)
set_option maxRecDepth 100000 in
theorem fa_bc : ∀ b0 b1 b2 b3 b4 b5 b6 b7 : Bool, (((((((((fa_mask (fb_b8 b0 b1 b2 b3 b4 b5 b6 b7) 8)) - ((fb_ush ((fa_mask (fb_b8 b0 b1 b2 b3 b4 b5 b6 b7) 8)) (nI (1))) &&& ((1431655765 : Int32)))) &&& ((858993459 : Int32))) + ((fb_ush (((fa_mask (fb_b8 b0 b1 b2 b3 b4 b5 b6 b7) 8)) - ((fb_ush ((fa_mask (fb_b8 b0 b1 b2 b3 b4 b5 b6 b7) 8)) (nI (1))) &&& ((1431655765 : Int32)))) (nI (2))) &&& ((858993459 : Int32)))) + (fb_ush (((((fa_mask (fb_b8 b0 b1 b2 b3 b4 b5 b6 b7) 8)) - ((fb_ush ((fa_mask (fb_b8 b0 b1 b2 b3 b4 b5 b6 b7) 8)) (nI (1))) &&& ((1431655765 : Int32)))) &&& ((858993459 : Int32))) + ((fb_ush (((fa_mask (fb_b8 b0 b1 b2 b3 b4 b5 b6 b7) 8)) - ((fb_ush ((fa_mask (fb_b8 b0 b1 b2 b3 b4 b5 b6 b7) 8)) (nI (1))) &&& ((1431655765 : Int32)))) (nI (2))) &&& ((858993459 : Int32)))) (nI (4)))) &&& ((252645135 : Int32))) + (fb_ush (((((((fa_mask (fb_b8 b0 b1 b2 b3 b4 b5 b6 b7) 8)) - ((fb_ush ((fa_mask (fb_b8 b0 b1 b2 b3 b4 b5 b6 b7) 8)) (nI (1))) &&& ((1431655765 : Int32)))) &&& ((858993459 : Int32))) + ((fb_ush (((fa_mask (fb_b8 b0 b1 b2 b3 b4 b5 b6 b7) 8)) - ((fb_ush ((fa_mask (fb_b8 b0 b1 b2 b3 b4 b5 b6 b7) 8)) (nI (1))) &&& ((1431655765 : Int32)))) (nI (2))) &&& ((858993459 : Int32)))) + (fb_ush (((((fa_mask (fb_b8 b0 b1 b2 b3 b4 b5 b6 b7) 8)) - ((fb_ush ((fa_mask (fb_b8 b0 b1 b2 b3 b4 b5 b6 b7) 8)) (nI (1))) &&& ((1431655765 : Int32)))) &&& ((858993459 : Int32))) + ((fb_ush (((fa_mask (fb_b8 b0 b1 b2 b3 b4 b5 b6 b7) 8)) - ((fb_ush ((fa_mask (fb_b8 b0 b1 b2 b3 b4 b5 b6 b7) 8)) (nI (1))) &&& ((1431655765 : Int32)))) (nI (2))) &&& ((858993459 : Int32)))) (nI (4)))) &&& ((252645135 : Int32))) (nI (8)))) + (fb_ush ((((((((fa_mask (fb_b8 b0 b1 b2 b3 b4 b5 b6 b7) 8)) - ((fb_ush ((fa_mask (fb_b8 b0 b1 b2 b3 b4 b5 b6 b7) 8)) (nI (1))) &&& ((1431655765 : Int32)))) &&& ((858993459 : Int32))) + ((fb_ush (((fa_mask (fb_b8 b0 b1 b2 b3 b4 b5 b6 b7) 8)) - ((fb_ush ((fa_mask (fb_b8 b0 b1 b2 b3 b4 b5 b6 b7) 8)) (nI (1))) &&& ((1431655765 : Int32)))) (nI (2))) &&& ((858993459 : Int32)))) + (fb_ush (((((fa_mask (fb_b8 b0 b1 b2 b3 b4 b5 b6 b7) 8)) - ((fb_ush ((fa_mask (fb_b8 b0 b1 b2 b3 b4 b5 b6 b7) 8)) (nI (1))) &&& ((1431655765 : Int32)))) &&& ((858993459 : Int32))) + ((fb_ush (((fa_mask (fb_b8 b0 b1 b2 b3 b4 b5 b6 b7) 8)) - ((fb_ush ((fa_mask (fb_b8 b0 b1 b2 b3 b4 b5 b6 b7) 8)) (nI (1))) &&& ((1431655765 : Int32)))) (nI (2))) &&& ((858993459 : Int32)))) (nI (4)))) &&& ((252645135 : Int32))) + (fb_ush (((((((fa_mask (fb_b8 b0 b1 b2 b3 b4 b5 b6 b7) 8)) - ((fb_ush ((fa_mask (fb_b8 b0 b1 b2 b3 b4 b5 b6 b7) 8)) (nI (1))) &&& ((1431655765 : Int32)))) &&& ((858993459 : Int32))) + ((fb_ush (((fa_mask (fb_b8 b0 b1 b2 b3 b4 b5 b6 b7) 8)) - ((fb_ush ((fa_mask (fb_b8 b0 b1 b2 b3 b4 b5 b6 b7) 8)) (nI (1))) &&& ((1431655765 : Int32)))) (nI (2))) &&& ((858993459 : Int32)))) + (fb_ush (((((fa_mask (fb_b8 b0 b1 b2 b3 b4 b5 b6 b7) 8)) - ((fb_ush ((fa_mask (fb_b8 b0 b1 b2 b3 b4 b5 b6 b7) 8)) (nI (1))) &&& ((1431655765 : Int32)))) &&& ((858993459 : Int32))) + ((fb_ush (((fa_mask (fb_b8 b0 b1 b2 b3 b4 b5 b6 b7) 8)) - ((fb_ush ((fa_mask (fb_b8 b0 b1 b2 b3 b4 b5 b6 b7) 8)) (nI (1))) &&& ((1431655765 : Int32)))) (nI (2))) &&& ((858993459 : Int32)))) (nI (4)))) &&& ((252645135 : Int32))) (nI (8)))) (nI (16)))) &&& (nI (63)) = fb_bits (fa_mask (fb_b8 b0 b1 b2 b3 b4 b5 b6 b7) 8) := by decide +kernel
set_option maxHeartbeats 4000000 in
set_option maxRecDepth 100000 in
theorem g_bitCount (l : Launch) (G : fa_G) (n : Nat) (v : fa_V) (r : fa_R) (a1 : Int32) : fa_MI l G n yJ6_bitCount_0f7a4 cJ6_bitCount_0f7a4 1 (some .int) 1 [.int (a1)] v r (fun x w => w = (v, r) ∧ (∀ c, a1 = fa_mask c 8 → x = fb_bits a1)) := by
  refine fa_startI (by decide +kernel) (Nat.le_of_ble_eq_true rfl) (fun p e s m args below meth c ls Q CX hl HX RET => ?_)
  have hl : lv_has ls 1 [(0, .int (a1))] := hl
  have hx := CX.1.1
  have hb := CX.1.2.1
  refine lv_iload_n hx hb dJ6_bitCount_0f7a4_0 rfl (lv_at hl 0 rfl) ?_
  refine lv_iload_n hx hb dJ6_bitCount_0f7a4_1 rfl (lv_at hl 0 rfl) ?_
  refine lv_iconst (v := nI (1)) hx hb dJ6_bitCount_0f7a4_2 (by decide) ?_
  refine lv_iushr (v := fb_ush (a1) (nI (1))) hx hb dJ6_bitCount_0f7a4_3 rfl ?_
  refine lv_ldcw (v := 1431655765) hx hb CX.1.2.2.2.1 (CX.1.2.2.2.2 _ cw_J6_265) dJ6_bitCount_0f7a4_4 ?_
  refine lv_iand hx hb dJ6_bitCount_0f7a4_7 ?_
  refine lv_isub hx hb dJ6_bitCount_0f7a4_8 ?_
  refine lv_istore_n (lv' := [(0, .int ((a1) - ((fb_ush (a1) (nI (1))) &&& ((1431655765 : Int32)))))]) hx hb dJ6_bitCount_0f7a4_9 rfl hl (by decide) rfl (fun ls hl => ?_)
  refine lv_iload_n hx hb dJ6_bitCount_0f7a4_10 rfl (lv_at hl 0 rfl) ?_
  refine lv_ldcw (v := 858993459) hx hb CX.1.2.2.2.1 (CX.1.2.2.2.2 _ cw_J6_266) dJ6_bitCount_0f7a4_11 ?_
  refine lv_iand hx hb dJ6_bitCount_0f7a4_14 ?_
  refine lv_iload_n hx hb dJ6_bitCount_0f7a4_15 rfl (lv_at hl 0 rfl) ?_
  refine lv_iconst (v := nI (2)) hx hb dJ6_bitCount_0f7a4_16 (by decide) ?_
  refine lv_iushr (v := fb_ush ((a1) - ((fb_ush (a1) (nI (1))) &&& ((1431655765 : Int32)))) (nI (2))) hx hb dJ6_bitCount_0f7a4_17 rfl ?_
  refine lv_ldcw (v := 858993459) hx hb CX.1.2.2.2.1 (CX.1.2.2.2.2 _ cw_J6_266) dJ6_bitCount_0f7a4_18 ?_
  refine lv_iand hx hb dJ6_bitCount_0f7a4_21 ?_
  refine lv_iadd hx hb dJ6_bitCount_0f7a4_22 ?_
  refine lv_istore_n (lv' := [(0, .int ((((a1) - ((fb_ush (a1) (nI (1))) &&& ((1431655765 : Int32)))) &&& ((858993459 : Int32))) + ((fb_ush ((a1) - ((fb_ush (a1) (nI (1))) &&& ((1431655765 : Int32)))) (nI (2))) &&& ((858993459 : Int32)))))]) hx hb dJ6_bitCount_0f7a4_23 rfl hl (by decide) rfl (fun ls hl => ?_)
  refine lv_iload_n hx hb dJ6_bitCount_0f7a4_24 rfl (lv_at hl 0 rfl) ?_
  refine lv_iload_n hx hb dJ6_bitCount_0f7a4_25 rfl (lv_at hl 0 rfl) ?_
  refine lv_iconst (v := nI (4)) hx hb dJ6_bitCount_0f7a4_26 (by decide) ?_
  refine lv_iushr (v := fb_ush ((((a1) - ((fb_ush (a1) (nI (1))) &&& ((1431655765 : Int32)))) &&& ((858993459 : Int32))) + ((fb_ush ((a1) - ((fb_ush (a1) (nI (1))) &&& ((1431655765 : Int32)))) (nI (2))) &&& ((858993459 : Int32)))) (nI (4))) hx hb dJ6_bitCount_0f7a4_27 rfl ?_
  refine lv_iadd hx hb dJ6_bitCount_0f7a4_28 ?_
  refine lv_ldcw (v := 252645135) hx hb CX.1.2.2.2.1 (CX.1.2.2.2.2 _ cw_J6_267) dJ6_bitCount_0f7a4_29 ?_
  refine lv_iand hx hb dJ6_bitCount_0f7a4_32 ?_
  refine lv_istore_n (lv' := [(0, .int ((((((a1) - ((fb_ush (a1) (nI (1))) &&& ((1431655765 : Int32)))) &&& ((858993459 : Int32))) + ((fb_ush ((a1) - ((fb_ush (a1) (nI (1))) &&& ((1431655765 : Int32)))) (nI (2))) &&& ((858993459 : Int32)))) + (fb_ush ((((a1) - ((fb_ush (a1) (nI (1))) &&& ((1431655765 : Int32)))) &&& ((858993459 : Int32))) + ((fb_ush ((a1) - ((fb_ush (a1) (nI (1))) &&& ((1431655765 : Int32)))) (nI (2))) &&& ((858993459 : Int32)))) (nI (4)))) &&& ((252645135 : Int32))))]) hx hb dJ6_bitCount_0f7a4_33 rfl hl (by decide) rfl (fun ls hl => ?_)
  refine lv_iload_n hx hb dJ6_bitCount_0f7a4_34 rfl (lv_at hl 0 rfl) ?_
  refine lv_iload_n hx hb dJ6_bitCount_0f7a4_35 rfl (lv_at hl 0 rfl) ?_
  refine lv_bipush (v := nI (8)) hx hb dJ6_bitCount_0f7a4_36 (by decide) ?_
  refine lv_iushr (v := fb_ush ((((((a1) - ((fb_ush (a1) (nI (1))) &&& ((1431655765 : Int32)))) &&& ((858993459 : Int32))) + ((fb_ush ((a1) - ((fb_ush (a1) (nI (1))) &&& ((1431655765 : Int32)))) (nI (2))) &&& ((858993459 : Int32)))) + (fb_ush ((((a1) - ((fb_ush (a1) (nI (1))) &&& ((1431655765 : Int32)))) &&& ((858993459 : Int32))) + ((fb_ush ((a1) - ((fb_ush (a1) (nI (1))) &&& ((1431655765 : Int32)))) (nI (2))) &&& ((858993459 : Int32)))) (nI (4)))) &&& ((252645135 : Int32))) (nI (8))) hx hb dJ6_bitCount_0f7a4_38 rfl ?_
  refine lv_iadd hx hb dJ6_bitCount_0f7a4_39 ?_
  refine lv_istore_n (lv' := [(0, .int (((((((a1) - ((fb_ush (a1) (nI (1))) &&& ((1431655765 : Int32)))) &&& ((858993459 : Int32))) + ((fb_ush ((a1) - ((fb_ush (a1) (nI (1))) &&& ((1431655765 : Int32)))) (nI (2))) &&& ((858993459 : Int32)))) + (fb_ush ((((a1) - ((fb_ush (a1) (nI (1))) &&& ((1431655765 : Int32)))) &&& ((858993459 : Int32))) + ((fb_ush ((a1) - ((fb_ush (a1) (nI (1))) &&& ((1431655765 : Int32)))) (nI (2))) &&& ((858993459 : Int32)))) (nI (4)))) &&& ((252645135 : Int32))) + (fb_ush ((((((a1) - ((fb_ush (a1) (nI (1))) &&& ((1431655765 : Int32)))) &&& ((858993459 : Int32))) + ((fb_ush ((a1) - ((fb_ush (a1) (nI (1))) &&& ((1431655765 : Int32)))) (nI (2))) &&& ((858993459 : Int32)))) + (fb_ush ((((a1) - ((fb_ush (a1) (nI (1))) &&& ((1431655765 : Int32)))) &&& ((858993459 : Int32))) + ((fb_ush ((a1) - ((fb_ush (a1) (nI (1))) &&& ((1431655765 : Int32)))) (nI (2))) &&& ((858993459 : Int32)))) (nI (4)))) &&& ((252645135 : Int32))) (nI (8)))))]) hx hb dJ6_bitCount_0f7a4_40 rfl hl (by decide) rfl (fun ls hl => ?_)
  refine lv_iload_n hx hb dJ6_bitCount_0f7a4_41 rfl (lv_at hl 0 rfl) ?_
  refine lv_iload_n hx hb dJ6_bitCount_0f7a4_42 rfl (lv_at hl 0 rfl) ?_
  refine lv_bipush (v := nI (16)) hx hb dJ6_bitCount_0f7a4_43 (by decide) ?_
  refine lv_iushr (v := fb_ush (((((((a1) - ((fb_ush (a1) (nI (1))) &&& ((1431655765 : Int32)))) &&& ((858993459 : Int32))) + ((fb_ush ((a1) - ((fb_ush (a1) (nI (1))) &&& ((1431655765 : Int32)))) (nI (2))) &&& ((858993459 : Int32)))) + (fb_ush ((((a1) - ((fb_ush (a1) (nI (1))) &&& ((1431655765 : Int32)))) &&& ((858993459 : Int32))) + ((fb_ush ((a1) - ((fb_ush (a1) (nI (1))) &&& ((1431655765 : Int32)))) (nI (2))) &&& ((858993459 : Int32)))) (nI (4)))) &&& ((252645135 : Int32))) + (fb_ush ((((((a1) - ((fb_ush (a1) (nI (1))) &&& ((1431655765 : Int32)))) &&& ((858993459 : Int32))) + ((fb_ush ((a1) - ((fb_ush (a1) (nI (1))) &&& ((1431655765 : Int32)))) (nI (2))) &&& ((858993459 : Int32)))) + (fb_ush ((((a1) - ((fb_ush (a1) (nI (1))) &&& ((1431655765 : Int32)))) &&& ((858993459 : Int32))) + ((fb_ush ((a1) - ((fb_ush (a1) (nI (1))) &&& ((1431655765 : Int32)))) (nI (2))) &&& ((858993459 : Int32)))) (nI (4)))) &&& ((252645135 : Int32))) (nI (8)))) (nI (16))) hx hb dJ6_bitCount_0f7a4_45 rfl ?_
  refine lv_iadd hx hb dJ6_bitCount_0f7a4_46 ?_
  refine lv_istore_n (lv' := [(0, .int ((((((((a1) - ((fb_ush (a1) (nI (1))) &&& ((1431655765 : Int32)))) &&& ((858993459 : Int32))) + ((fb_ush ((a1) - ((fb_ush (a1) (nI (1))) &&& ((1431655765 : Int32)))) (nI (2))) &&& ((858993459 : Int32)))) + (fb_ush ((((a1) - ((fb_ush (a1) (nI (1))) &&& ((1431655765 : Int32)))) &&& ((858993459 : Int32))) + ((fb_ush ((a1) - ((fb_ush (a1) (nI (1))) &&& ((1431655765 : Int32)))) (nI (2))) &&& ((858993459 : Int32)))) (nI (4)))) &&& ((252645135 : Int32))) + (fb_ush ((((((a1) - ((fb_ush (a1) (nI (1))) &&& ((1431655765 : Int32)))) &&& ((858993459 : Int32))) + ((fb_ush ((a1) - ((fb_ush (a1) (nI (1))) &&& ((1431655765 : Int32)))) (nI (2))) &&& ((858993459 : Int32)))) + (fb_ush ((((a1) - ((fb_ush (a1) (nI (1))) &&& ((1431655765 : Int32)))) &&& ((858993459 : Int32))) + ((fb_ush ((a1) - ((fb_ush (a1) (nI (1))) &&& ((1431655765 : Int32)))) (nI (2))) &&& ((858993459 : Int32)))) (nI (4)))) &&& ((252645135 : Int32))) (nI (8)))) + (fb_ush (((((((a1) - ((fb_ush (a1) (nI (1))) &&& ((1431655765 : Int32)))) &&& ((858993459 : Int32))) + ((fb_ush ((a1) - ((fb_ush (a1) (nI (1))) &&& ((1431655765 : Int32)))) (nI (2))) &&& ((858993459 : Int32)))) + (fb_ush ((((a1) - ((fb_ush (a1) (nI (1))) &&& ((1431655765 : Int32)))) &&& ((858993459 : Int32))) + ((fb_ush ((a1) - ((fb_ush (a1) (nI (1))) &&& ((1431655765 : Int32)))) (nI (2))) &&& ((858993459 : Int32)))) (nI (4)))) &&& ((252645135 : Int32))) + (fb_ush ((((((a1) - ((fb_ush (a1) (nI (1))) &&& ((1431655765 : Int32)))) &&& ((858993459 : Int32))) + ((fb_ush ((a1) - ((fb_ush (a1) (nI (1))) &&& ((1431655765 : Int32)))) (nI (2))) &&& ((858993459 : Int32)))) + (fb_ush ((((a1) - ((fb_ush (a1) (nI (1))) &&& ((1431655765 : Int32)))) &&& ((858993459 : Int32))) + ((fb_ush ((a1) - ((fb_ush (a1) (nI (1))) &&& ((1431655765 : Int32)))) (nI (2))) &&& ((858993459 : Int32)))) (nI (4)))) &&& ((252645135 : Int32))) (nI (8)))) (nI (16)))))]) hx hb dJ6_bitCount_0f7a4_47 rfl hl (by decide) rfl (fun ls hl => ?_)
  refine lv_iload_n hx hb dJ6_bitCount_0f7a4_48 rfl (lv_at hl 0 rfl) ?_
  refine lv_bipush (v := nI (63)) hx hb dJ6_bitCount_0f7a4_49 (by decide) ?_
  refine lv_iand hx hb dJ6_bitCount_0f7a4_51 ?_
  exact RET _ _ _ _ _ _ _ HX dJ6_bitCount_0f7a4_52 (⟨rfl, (fun c hc => by (rw [hc, fb_mask8 c]; exact fa_bc _ _ _ _ _ _ _ _))⟩)
set_option maxHeartbeats 4000000 in
set_option maxRecDepth 100000 in
theorem g_copyFrom (l : Launch) (G : fa_G) (n : Nat) (hn : 397 ≤ n) (v : fa_V) (r : fa_R) (b : Nat) (hB : b ∈ fa_bs) (hr : fa_RS r b) (b2 : Nat) (hB2 : b2 ∈ fa_bs) (hrb2 : fa_RS r b2) (hd : b2 + 56 ≤ b ∨ b + 56 ≤ b2) (hI : fa_IS v b) (hJ : fa_IS v b2) : fa_MV l G n yX3_copyFrom cX3_copyFrom 3 3 [.ref (fa_B G + (b)), .ref (fa_B G + (b2))] v r (fa_vo r (fun v1 => ((fa_IS v1 b) ∧ ∀ A, fb_inj r b → fb_cA v r b2 A → fb_cA v1 r b A) ∧ (fa_fr (b) (b + 56) v v1))) := by
  refine fa_startV (by decide +kernel) (Nat.le_of_ble_eq_true rfl) (fun p e s m args below meth c ls Q CX hl HX RET => ?_)
  have hl : lv_has ls 3 [(0, .ref (fa_B G + (b))), (1, .ref (fa_B G + (b2)))] := hl
  have hx := CX.1.1
  have hb := CX.1.2.1
  obtain ⟨m1, em1⟩ : ∃ m, m = fa_N (v b2 1) := ⟨_, rfl⟩
  obtain ⟨hm1, g1⟩ := hJ.n1 em1
  obtain ⟨m2, em2⟩ : ∃ m, m = fa_N (v (b2 + 2) 0) := ⟨_, rfl⟩
  obtain ⟨hm2, g2⟩ := hJ.n2 em2
  obtain ⟨m5, em5⟩ : ∃ m, m = fa_N (v (b2 + 5) 0) := ⟨_, rfl⟩
  obtain ⟨hm5, g5⟩ := hJ.n5 em5
  refine lv_aload_n hx hb dX3_copyFrom_0 rfl (lv_at hl 0 rfl) ?_
  refine lv_aload_n hx hb dX3_copyFrom_1 rfl (lv_at hl 1 rfl) ?_
  refine fa_geti (k := b2) CX HX fl_X3_45 (fa_lt hB2 0 (by decide) hn) (fa_s0 hB2) rfl dX3_copyFrom_2 ?_
  refine fa_puti (k := b) CX HX fl_X3_45 (fa_lt hB 0 (by decide) hn) (fa_s0 hB) rfl rfl rfl dX3_copyFrom_5 (fun H locs v1069 e1070 HX1071 => ?_)
  refine lv_aload_n hx hb dX3_copyFrom_8 rfl (lv_at hl 0 rfl) ?_
  refine lv_aload_n hx hb dX3_copyFrom_9 rfl (lv_at hl 1 rfl) ?_
  refine fa_geti (k := b2) CX HX1071 fl_X3_49 (fa_lt hB2 0 (by decide) hn) (fa_s0 hB2) rfl dX3_copyFrom_10 ?_
  rw [show v1069 b2 1 = nI (m1) from (by rw [e1070, fa_u_n _ _ (by omega)]; exact g1)]
  refine fa_puti (k := b) CX HX1071 fl_X3_49 (fa_lt hB 0 (by decide) hn) (fa_s0 hB) rfl rfl rfl dX3_copyFrom_13 (fun H locs v1072 e1073 HX1074 => ?_)
  refine lv_aload_n hx hb dX3_copyFrom_16 rfl (lv_at hl 0 rfl) ?_
  refine lv_aload_n hx hb dX3_copyFrom_17 rfl (lv_at hl 1 rfl) ?_
  refine fa_geti (k := b2) CX HX1074 fl_X3_52 (fa_lt hB2 0 (by decide) hn) (fa_s0 hB2) rfl dX3_copyFrom_18 ?_
  refine fa_puti (k := b) CX HX1074 fl_X3_52 (fa_lt hB 0 (by decide) hn) (fa_s0 hB) rfl rfl rfl dX3_copyFrom_21 (fun H locs v1075 e1076 HX1077 => ?_)
  refine lv_aload_n hx hb dX3_copyFrom_24 rfl (lv_at hl 0 rfl) ?_
  refine lv_aload_n hx hb dX3_copyFrom_25 rfl (lv_at hl 1 rfl) ?_
  refine fa_geti (k := b2) CX HX1077 fl_X3_55 (fa_lt hB2 0 (by decide) hn) (fa_s0 hB2) rfl dX3_copyFrom_26 ?_
  refine fa_puti (k := b) CX HX1077 fl_X3_55 (fa_lt hB 0 (by decide) hn) (fa_s0 hB) rfl rfl rfl dX3_copyFrom_29 (fun H locs v1078 e1079 HX1080 => ?_)
  refine lv_aload_n hx hb dX3_copyFrom_32 rfl (lv_at hl 0 rfl) ?_
  refine lv_aload_n hx hb dX3_copyFrom_33 rfl (lv_at hl 1 rfl) ?_
  refine fa_geti (k := b2) CX HX1080 fl_X3_58 (fa_lt hB2 0 (by decide) hn) (fa_s0 hB2) rfl dX3_copyFrom_34 ?_
  refine fa_puti (k := b) CX HX1080 fl_X3_58 (fa_lt hB 0 (by decide) hn) (fa_s0 hB) rfl rfl rfl dX3_copyFrom_37 (fun H locs v1081 e1082 HX1083 => ?_)
  refine lv_aload_n hx hb dX3_copyFrom_40 rfl (lv_at hl 0 rfl) ?_
  refine lv_aload_n hx hb dX3_copyFrom_41 rfl (lv_at hl 1 rfl) ?_
  refine fa_geti (k := b2) CX HX1083 fl_X3_61 (fa_lt hB2 0 (by decide) hn) (fa_s0 hB2) rfl dX3_copyFrom_42 ?_
  refine fa_puti (k := b) CX HX1083 fl_X3_61 (fa_lt hB 0 (by decide) hn) (fa_s0 hB) rfl rfl rfl dX3_copyFrom_45 (fun H locs v1084 e1085 HX1086 => ?_)
  refine lv_aload_n hx hb dX3_copyFrom_48 rfl (lv_at hl 0 rfl) ?_
  refine lv_aload_n hx hb dX3_copyFrom_49 rfl (lv_at hl 1 rfl) ?_
  refine fa_geti (k := b2) CX HX1086 fl_X3_64 (fa_lt hB2 0 (by decide) hn) (fa_s0 hB2) rfl dX3_copyFrom_50 ?_
  refine fa_puti (k := b) CX HX1086 fl_X3_64 (fa_lt hB 0 (by decide) hn) (fa_s0 hB) rfl rfl rfl dX3_copyFrom_53 (fun H locs v1087 e1088 HX1089 => ?_)
  refine lv_aload_n hx hb dX3_copyFrom_56 rfl (lv_at hl 0 rfl) ?_
  refine lv_aload_n hx hb dX3_copyFrom_57 rfl (lv_at hl 1 rfl) ?_
  refine fa_geti (k := b2) CX HX1089 fl_X3_67 (fa_lt hB2 0 (by decide) hn) (fa_s0 hB2) rfl dX3_copyFrom_58 ?_
  refine fa_puti (k := b) CX HX1089 fl_X3_67 (fa_lt hB 0 (by decide) hn) (fa_s0 hB) rfl rfl rfl dX3_copyFrom_61 (fun H locs v1090 e1091 HX1092 => ?_)
  refine lv_iconst (v := nI (0)) hx hb dX3_copyFrom_64 (by decide) ?_
  refine lv_istore_n (lv' := [(2, .int (nI (0))), (0, .ref (fa_B G + (b))), (1, .ref (fa_B G + (b2)))]) hx hb dX3_copyFrom_65 rfl hl (by decide) rfl (fun ls hl => ?_)
  have LOOP_66 : ∀ (fu : Nat) (j : Nat) (v1093 : fa_V) (H : Heap) (locs : List Loc) (ls : Array Slot), m1 - j < fu → (j ≤ m1 ∧ fa_IS v1093 b ∧ v1093 b 1 = nI m1 ∧ fa_fr b (b + 56) v v1093 ∧ fb_cpI v v1093 r b b2 j) → lv_has ls 3 [(0, .ref (fa_B G + (b))), (1, .ref (fa_B G + (b2))), (2, .int (nI (j)))] → fa_HX G (n) v1093 r s H locs → W p l e (fa_rm 3) s m args below meth c H locs (0) (0) Q (F0 m 66 ls []) := by
    intro fu
    induction fu with
    | zero => intro j v1093 H locs ls hk; exact absurd hk (Nat.not_lt_zero _)
    | succ fu ih_66 =>
      intro j v1093 H locs ls hk_66 hi_66 hl HX1094
      refine lv_iload_n hx hb dX3_copyFrom_66 rfl (lv_at hl 2 rfl) ?_
      refine lv_aload_n hx hb dX3_copyFrom_67 rfl (lv_at hl 0 rfl) ?_
      refine fa_geti (k := b) CX HX1094 fl_X3_49 (fa_lt hB 0 (by decide) hn) (fa_s0 hB) rfl dX3_copyFrom_68 ?_
      rw [show v1093 b 1 = nI (m1) from hi_66.2.2.1]
      refine lv_icmp_ge (tgt := 95) hx hb dX3_copyFrom_71 (by decide) (fun c_71 => ?_) (fun c_71 => ?_)
      · have hjn : j = m1 := by
          have := fa_leN (by omega) (by omega) c_71
          omega
        refine lv_aload_n hx hb dX3_copyFrom_95 rfl (lv_at hl 0 rfl) ?_
        refine fa_getr (k := b) (j := b + 2) CX HX1094 fl_X3_20 (fa_lt hB 0 (by decide) hn) (fa_s0 hB) rfl hr.2.1 dX3_copyFrom_96 ?_
        refine lv_aload_n hx hb dX3_copyFrom_99 rfl (lv_at hl 1 rfl) ?_
        refine fa_getr (k := b2) (j := b2 + 2) CX HX1094 fl_X3_20 (fa_lt hB2 0 (by decide) hn) (fa_s0 hB2) rfl hrb2.2.1 dX3_copyFrom_100 ?_
        refine fa_callVvu (As := [.ref (fa_B G + (b2 + 2))]) (rest := []) CX HX1094 (g_copyFromR l G n hn v1093 r b hB hr b2 hB2 hrb2 hd hi_66.2.1 m2 (by omega) (by rw [hi_66.2.2.2.1 _ (by omega)]; exact g2)) ln_X3_74 (fa_lt hB 2 (by decide) hn) (fa_s2 hB) rfl rfl rfl (Nat.le_of_ble_eq_true rfl) hl.1 ⟨Nat.le_of_ble_eq_true rfl, Nat.le_of_ble_eq_true rfl⟩ ⟨Nat.le_refl _, Nat.le_refl _⟩ dX3_copyFrom_103 (fun v1096 H locs h1095 HX1097 => ?_)
        have h_copyFromR := h1095.1.2
        have hIS_v1096 : fa_IS v1096 b := h1095.1.1
        refine lv_aload_n hx hb dX3_copyFrom_106 rfl (lv_at hl 0 rfl) ?_
        refine fa_getr (k := b) (j := b + 5) CX HX1097 fl_X3_27 (fa_lt hB 0 (by decide) hn) (fa_s0 hB) rfl hr.2.2.1 dX3_copyFrom_107 ?_
        refine lv_aload_n hx hb dX3_copyFrom_110 rfl (lv_at hl 1 rfl) ?_
        refine fa_getr (k := b2) (j := b2 + 5) CX HX1097 fl_X3_27 (fa_lt hB2 0 (by decide) hn) (fa_s0 hB2) rfl hrb2.2.2.1 dX3_copyFrom_111 ?_
        refine fa_callVvu (As := [.ref (fa_B G + (b2 + 5))]) (rest := []) CX HX1097 (g_copyFromT l G n hn v1096 r b hB hr b2 hB2 hrb2 hd hIS_v1096 m5 (by omega) (by rw [h1095.2 _ (by omega)]; exact (by rw [hi_66.2.2.2.1 _ (by omega)]; exact g5))) ln_X3_77 (fa_lt hB 5 (by decide) hn) (fa_s5 hB) rfl rfl rfl (Nat.le_of_ble_eq_true rfl) hl.1 ⟨Nat.le_of_ble_eq_true rfl, Nat.le_of_ble_eq_true rfl⟩ ⟨Nat.le_refl _, Nat.le_refl _⟩ dX3_copyFrom_114 (fun v1099 H locs h1098 HX1100 => ?_)
        have h_copyFromT := h1098.1.2
        have hIS_v1099 : fa_IS v1099 b := h1098.1.1
        refine lv_aload_n hx hb dX3_copyFrom_117 rfl (lv_at hl 1 rfl) ?_
        refine fa_getr (k := b2) (j := b2 + 7) CX HX1100 fl_X3_31 (fa_lt hB2 0 (by decide) hn) (fa_s0 hB2) rfl hrb2.2.2.2.1 dX3_copyFrom_118 ?_
        refine lv_iconst (v := nI (0)) hx hb dX3_copyFrom_121 (by decide) ?_
        refine lv_aload_n hx hb dX3_copyFrom_122 rfl (lv_at hl 0 rfl) ?_
        refine fa_getr (k := b) (j := b + 7) CX HX1100 fl_X3_31 (fa_lt hB 0 (by decide) hn) (fa_s0 hB) rfl hr.2.2.2.1 dX3_copyFrom_123 ?_
        refine lv_iconst (v := nI (0)) hx hb dX3_copyFrom_126 (by decide) ?_
        refine lv_bipush (v := nI (7)) hx hb dX3_copyFrom_127 (by decide) ?_
        refine fa_copy (k0 := b2 + 7) (k1 := b + 7) (sp := 0) (dp := 0) (cnt := 7) CX HX1100 fa_cpl_X3_39 fa_cpn fa_cps fa_cpi hl.1 (fa_lt hB2 7 (by decide) hn) (fa_s7 hB2) (fa_lt hB 7 (by decide) hn) (fa_s7 hB) (by decide) (by decide) (by first | decide | assumption) (by first | decide | assumption) (Nat.le_of_ble_eq_true rfl) (by decide +kernel) dX3_copyFrom_129 (fun H locs v1101 e1102 HX1103 => ?_)
        exact RET _ _ _ _ _ _ HX1103 dX3_copyFrom_132 (⟨rfl, ⟨⟨(fa_IS.row hIS_v1099 (fa_cp_out e1102) (Or.inr (Or.inr (Or.inr (Or.inr (Or.inr rfl)))))), fun A hij hc => fb_c_copy hc hr hij hd (by rw [← hc.n, ← em1]; exact hjn) hi_66.2.2.2.1 hi_66.2.2.2.2 h1095.2 h_copyFromR h1098.2 h_copyFromT e1102⟩, (by rw [e1102]; exact fa_fr.cp (fa_fr.tr (fa_fr.tr (fa_fr.tr fa_fr.rf (fa_fr.wide hi_66.2.2.2.1 (by omega) (by omega))) (fa_fr.wide h1095.2 (by omega) (by omega))) (fa_fr.wide h1098.2 (by omega) (by omega))) (by omega))⟩⟩)
      · have hj := fa_ltN (by omega) (by omega) c_71
        refine lv_aload_n hx hb dX3_copyFrom_74 rfl (lv_at hl 0 rfl) ?_
        refine fa_getr (k := b) (j := b + 1) CX HX1094 fl_X3_11 (fa_lt hB 0 (by decide) hn) (fa_s0 hB) rfl hr.1 dX3_copyFrom_75 ?_
        refine lv_iload_n hx hb dX3_copyFrom_78 rfl (lv_at hl 2 rfl) ?_
        refine fa_aald (k := b + 1) (j := j) (q := fa_pf r b j) CX HX1094 (fa_lt hB 1 (by decide) hn) (fa_s1 hB) rfl (by decide) (by omega) (by first | decide | assumption) (fa_pf_at hr (by omega)) dX3_copyFrom_79 ?_
        refine lv_aload_n hx hb dX3_copyFrom_80 rfl (lv_at hl 1 rfl) ?_
        refine fa_getr (k := b2) (j := b2 + 1) CX HX1094 fl_X3_11 (fa_lt hB2 0 (by decide) hn) (fa_s0 hB2) rfl hrb2.1 dX3_copyFrom_81 ?_
        refine lv_iload_n hx hb dX3_copyFrom_84 rfl (lv_at hl 2 rfl) ?_
        refine fa_aald (k := b2 + 1) (j := j) (q := fa_pf r b2 j) CX HX1094 (fa_lt hB2 1 (by decide) hn) (fa_s1 hB2) rfl (by decide) (by omega) (by first | decide | assumption) (fa_pf_at hrb2 (by omega)) dX3_copyFrom_85 ?_
        obtain ⟨kd, hkd, ekd⟩ := (fa_IS.congr (fun k h1 h2 => hi_66.2.2.2.1 k (by omega)) hJ).kind (fa_pf_isF hrb2 (show j < 24 by omega))
        refine fa_callVvu (As := [.ref (fa_B G + (fa_pf r b2 j))]) (rest := []) CX HX1094 (g_copyFromF l G n hn v1093 r b hB hr b2 hB2 hrb2 hd hi_66.2.1 (fa_pf r b j) (fa_pf r b2 j) kd (fa_pf_isF hr (by omega)) (fa_pf_isF hrb2 (by omega)) hkd ekd) ln_X3_70 (fa_isF_lt hB (fa_pf_isF hr (by omega)) hn) (fa_isF_sh hB (fa_pf_isF hr (by omega))) rfl rfl rfl (Nat.le_of_ble_eq_true rfl) hl.1 ⟨Nat.le_of_ble_eq_true rfl, Nat.le_of_ble_eq_true rfl⟩ ⟨Nat.le_refl _, Nat.le_refl _⟩ dX3_copyFrom_86 (fun v1105 H locs h1104 HX1106 => ?_)
        have h_copyFromF := h1104.1.2
        have hIS_v1105 : fa_IS v1105 b := h1104.1.1
        refine lv_iinc (v := nI (j + 1)) (lv' := [(2, .int (nI (j + 1))), (0, .ref (fa_B G + (b))), (1, .ref (fa_B G + (b2)))]) hx hb dX3_copyFrom_89 hl (k := 2) rfl (nI_add (j) 1) (by decide) rfl (fun ls hl => ?_)
        refine lv_goto (tgt := 66) hx hb dX3_copyFrom_92 (by decide) ?_
        exact ih_66 (j + 1) v1105 _ _ _ (by omega) (⟨by omega, hIS_v1105, (by rw [h1104.2 _ (by omega)]; exact hi_66.2.2.1), (fa_fr.tr (fa_fr.tr fa_fr.rf (fa_fr.wide hi_66.2.2.2.1 (by omega) (by omega))) (fa_fr.wide h1104.2 (by omega) (by omega))), hi_66.2.2.2.2.s hr hrb2 hd (by omega) hi_66.2.2.2.1 h_copyFromF⟩) (lv_sub hl [1, 2, 0] rfl) HX1106
  exact LOOP_66 (m1 - 0 + 1) (0) v1090 _ _ _ (Nat.lt_succ_self _) (⟨Nat.zero_le _, (by rw [e1091]; exact fa_IS.u (by rw [e1088]; exact fa_IS.u (by rw [e1085]; exact fa_IS.u (by rw [e1082]; exact fa_IS.u (by rw [e1079]; exact fa_IS.u (by rw [e1076]; exact fa_IS.u (by rw [e1073]; exact fa_IS.set1 (by rw [e1070]; exact fa_IS.u hI (Or.inl ⟨rfl, by decide⟩)) (by omega)) (Or.inl ⟨rfl, by decide⟩)) (Or.inl ⟨rfl, by decide⟩)) (Or.inl ⟨rfl, by decide⟩)) (Or.inl ⟨rfl, by decide⟩)) (Or.inl ⟨rfl, by decide⟩)) (Or.inl ⟨rfl, by decide⟩)), (by rw [e1091, fa_u_n _ _ (by omega)]; exact (by rw [e1088, fa_u_n _ _ (by omega)]; exact (by rw [e1085, fa_u_n _ _ (by omega)]; exact (by rw [e1082, fa_u_n _ _ (by omega)]; exact (by rw [e1079, fa_u_n _ _ (by omega)]; exact (by rw [e1076, fa_u_n _ _ (by omega)]; exact (by rw [e1073, fa_u_s]))))))), (by rw [e1091]; exact fa_fr.u (by rw [e1088]; exact fa_fr.u (by rw [e1085]; exact fa_fr.u (by rw [e1082]; exact fa_fr.u (by rw [e1079]; exact fa_fr.u (by rw [e1076]; exact fa_fr.u (by rw [e1073]; exact fa_fr.u (by rw [e1070]; exact fa_fr.u fa_fr.rf (by omega)) (by omega)) (by omega)) (by omega)) (by omega)) (by omega)) (by omega)) (by omega)), fb_cp8 (by omega) g1 e1070 e1073 e1076 e1079 e1082 e1085 e1088 e1091, fun _ p hp => absurd hp (Nat.not_lt_zero _)⟩) (lv_sub hl [1, 2, 0] rfl) HX1092
