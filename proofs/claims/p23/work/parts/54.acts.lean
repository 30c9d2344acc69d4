theorem cw_J6_265 : Cond.constant RJ6 265 (1431655765) ∈ fa_tbl := fa_in 330 (by decide +kernel) (by decide +kernel)
theorem cw_J6_266 : Cond.constant RJ6 266 (858993459) ∈ fa_tbl := fa_in 331 (by decide +kernel) (by decide +kernel)
theorem cw_J6_267 : Cond.constant RJ6 267 (252645135) ∈ fa_tbl := fa_in 332 (by decide +kernel) (by decide +kernel)
set_option maxRecDepth 100000 in
theorem fa_bc : ∀ b0 b1 b2 b3 b4 b5 b6 b7 : Bool, (((((((((fa_mask (fb_b8 b0 b1 b2 b3 b4 b5 b6 b7) 8)) - ((fb_ush ((fa_mask (fb_b8 b0 b1 b2 b3 b4 b5 b6 b7) 8)) (nI (1))) &&& ((1431655765 : Int32)))) &&& ((858993459 : Int32))) + ((fb_ush (((fa_mask (fb_b8 b0 b1 b2 b3 b4 b5 b6 b7) 8)) - ((fb_ush ((fa_mask (fb_b8 b0 b1 b2 b3 b4 b5 b6 b7) 8)) (nI (1))) &&& ((1431655765 : Int32)))) (nI (2))) &&& ((858993459 : Int32)))) + (fb_ush (((((fa_mask (fb_b8 b0 b1 b2 b3 b4 b5 b6 b7) 8)) - ((fb_ush ((fa_mask (fb_b8 b0 b1 b2 b3 b4 b5 b6 b7) 8)) (nI (1))) &&& ((1431655765 : Int32)))) &&& ((858993459 : Int32))) + ((fb_ush (((fa_mask (fb_b8 b0 b1 b2 b3 b4 b5 b6 b7) 8)) - ((fb_ush ((fa_mask (fb_b8 b0 b1 b2 b3 b4 b5 b6 b7) 8)) (nI (1))) &&& ((1431655765 : Int32)))) (nI (2))) &&& ((858993459 : Int32)))) (nI (4)))) &&& ((252645135 : Int32))) + (fb_ush (((((((fa_mask (fb_b8 b0 b1 b2 b3 b4 b5 b6 b7) 8)) - ((fb_ush ((fa_mask (fb_b8 b0 b1 b2 b3 b4 b5 b6 b7) 8)) (nI (1))) &&& ((1431655765 : Int32)))) &&& ((858993459 : Int32))) + ((fb_ush (((fa_mask (fb_b8 b0 b1 b2 b3 b4 b5 b6 b7) 8)) - ((fb_ush ((fa_mask (fb_b8 b0 b1 b2 b3 b4 b5 b6 b7) 8)) (nI (1))) &&& ((1431655765 : Int32)))) (nI (2))) &&& ((858993459 : Int32)))) + (fb_ush (((((fa_mask (fb_b8 b0 b1 b2 b3 b4 b5 b6 b7) 8)) - ((fb_ush ((fa_mask (fb_b8 b0 b1 b2 b3 b4 b5 b6 b7) 8)) (nI (1))) &&& ((1431655765 : Int32)))) &&& ((858993459 : Int32))) + ((fb_ush (((fa_mask (fb_b8 b0 b1 b2 b3 b4 b5 b6 b7) 8)) - ((fb_ush ((fa_mask (fb_b8 b0 b1 b2 b3 b4 b5 b6 b7) 8)) (nI (1))) &&& ((1431655765 : Int32)))) (nI (2))) &&& ((858993459 : Int32)))) (nI (4)))) &&& ((252645135 : Int32))) (nI (8)))) + (fb_ush ((((((((fa_mask (fb_b8 b0 b1 b2 b3 b4 b5 b6 b7) 8)) - ((fb_ush ((fa_mask (fb_b8 b0 b1 b2 b3 b4 b5 b6 b7) 8)) (nI (1))) &&& ((1431655765 : Int32)))) &&& ((858993459 : Int32))) + ((fb_ush (((fa_mask (fb_b8 b0 b1 b2 b3 b4 b5 b6 b7) 8)) - ((fb_ush ((fa_mask (fb_b8 b0 b1 b2 b3 b4 b5 b6 b7) 8)) (nI (1))) &&& ((1431655765 : Int32)))) (nI (2))) &&& ((858993459 : Int32)))) + (fb_ush (((((fa_mask (fb_b8 b0 b1 b2 b3 b4 b5 b6 b7) 8)) - ((fb_ush ((fa_mask (fb_b8 b0 b1 b2 b3 b4 b5 b6 b7) 8)) (nI (1))) &&& ((1431655765 : Int32)))) &&& ((858993459 : Int32))) + ((fb_ush (((fa_mask (fb_b8 b0 b1 b2 b3 b4 b5 b6 b7) 8)) - ((fb_ush ((fa_mask (fb_b8 b0 b1 b2 b3 b4 b5 b6 b7) 8)) (nI (1))) &&& ((1431655765 : Int32)))) (nI (2))) &&& ((858993459 : Int32)))) (nI (4)))) &&& ((252645135 : Int32))) + (fb_ush (((((((fa_mask (fb_b8 b0 b1 b2 b3 b4 b5 b6 b7) 8)) - ((fb_ush ((fa_mask (fb_b8 b0 b1 b2 b3 b4 b5 b6 b7) 8)) (nI (1))) &&& ((1431655765 : Int32)))) &&& ((858993459 : Int32))) + ((fb_ush (((fa_mask (fb_b8 b0 b1 b2 b3 b4 b5 b6 b7) 8)) - ((fb_ush ((fa_mask (fb_b8 b0 b1 b2 b3 b4 b5 b6 b7) 8)) (nI (1))) &&& ((1431655765 : Int32)))) (nI (2))) &&& ((858993459 : Int32)))) + (fb_ush (((((fa_mask (fb_b8 b0 b1 b2 b3 b4 b5 b6 b7) 8)) - ((fb_ush ((fa_mask (fb_b8 b0 b1 b2 b3 b4 b5 b6 b7) 8)) (nI (1))) &&& ((1431655765 : Int32)))) &&& ((858993459 : Int32))) + ((fb_ush (((fa_mask (fb_b8 b0 b1 b2 b3 b4 b5 b6 b7) 8)) - ((fb_ush ((fa_mask (fb_b8 b0 b1 b2 b3 b4 b5 b6 b7) 8)) (nI (1))) &&& ((1431655765 : Int32)))) (nI (2))) &&& ((858993459 : Int32)))) (nI (4)))) &&& ((252645135 : Int32))) (nI (8)))) (nI (16)))) &&& (nI (63)) = fb_bits (fa_mask (fb_b8 b0 b1 b2 b3 b4 b5 b6 b7) 8) := by decide +kernel
set_option maxHeartbeats 4000000 in
set_option maxRecDepth 100000 in
theorem g_bitCount (l : Launch) (G : fa_G) (n : Nat) (v : fa_V) (r : fa_R) (a1 : Int32) : fa_MI l G n yJ6_bitCount_0f7a4 cJ6_bitCount_0f7a4 1 (some .int) 1 [.int (a1)] v r (fun x w => w = (v, r) ∧ (∀ c, a1 = fa_mask c 8 → x = fb_bits a1)) := by
  refine fa_startI (by decide +kernel) (Nat.le_of_ble_eq_true rfl) (fun p e s m args below meth c ls Q CX hl HX RET => ?_)
  have hl : lv_has ls 1 [(0, .int (a1))] := hl
  have hx := CX.1.1
  have hb := CX.1.2.1
  refine lv_iload_n hx hb dJ6_bitCount_0f7a4_0 rfl (lv_at hl 0 rfl) ?_
  refine lv_iload_n hx hb dJ6_bitCount_0f7a4_1 rfl (lv_at hl 0 rfl) ?_
  refine lv_iconst (v := nI (1)) hx hb dJ6_bitCount_0f7a4_2 (by decide) ?_
  refine lv_iushr (v := fb_ush (a1) (nI (1))) hx hb dJ6_bitCount_0f7a4_3 rfl ?_
  refine lv_ldcw (v := 1431655765) hx hb CX.1.2.2.2.1 (CX.1.2.2.2.2 _ cw_J6_265) dJ6_bitCount_0f7a4_4 ?_
  refine lv_iand hx hb dJ6_bitCount_0f7a4_7 ?_
  refine lv_isub hx hb dJ6_bitCount_0f7a4_8 ?_
  refine lv_istore_n (lv' := [(0, .int ((a1) - ((fb_ush (a1) (nI (1))) &&& ((1431655765 : Int32)))))]) hx hb dJ6_bitCount_0f7a4_9 rfl hl (by decide) rfl (fun ls hl => ?_)
  refine lv_iload_n hx hb dJ6_bitCount_0f7a4_10 rfl (lv_at hl 0 rfl) ?_
  refine lv_ldcw (v := 858993459) hx hb CX.1.2.2.2.1 (CX.1.2.2.2.2 _ cw_J6_266) dJ6_bitCount_0f7a4_11 ?_
  refine lv_iand hx hb dJ6_bitCount_0f7a4_14 ?_
  refine lv_iload_n hx hb dJ6_bitCount_0f7a4_15 rfl (lv_at hl 0 rfl) ?_
  refine lv_iconst (v := nI (2)) hx hb dJ6_bitCount_0f7a4_16 (by decide) ?_
  refine lv_iushr (v := fb_ush ((a1) - ((fb_ush (a1) (nI (1))) &&& ((1431655765 : Int32)))) (nI (2))) hx hb dJ6_bitCount_0f7a4_17 rfl ?_
  refine lv_ldcw (v := 858993459) hx hb CX.1.2.2.2.1 (CX.1.2.2.2.2 _ cw_J6_266) dJ6_bitCount_0f7a4_18 ?_
  refine lv_iand hx hb dJ6_bitCount_0f7a4_21 ?_
  refine lv_iadd hx hb dJ6_bitCount_0f7a4_22 ?_
  refine lv_istore_n (lv' := [(0, .int ((((a1) - ((fb_ush (a1) (nI (1))) &&& ((1431655765 : Int32)))) &&& ((858993459 : Int32))) + ((fb_ush ((a1) - ((fb_ush (a1) (nI (1))) &&& ((1431655765 : Int32)))) (nI (2))) &&& ((858993459 : Int32)))))]) hx hb dJ6_bitCount_0f7a4_23 rfl hl (by decide) rfl (fun ls hl => ?_)
  refine lv_iload_n hx hb dJ6_bitCount_0f7a4_24 rfl (lv_at hl 0 rfl) ?_
  refine lv_iload_n hx hb dJ6_bitCount_0f7a4_25 rfl (lv_at hl 0 rfl) ?_
  refine lv_iconst (v := nI (4)) hx hb dJ6_bitCount_0f7a4_26 (by decide) ?_
  refine lv_iushr (v := fb_ush ((((a1) - ((fb_ush (a1) (nI (1))) &&& ((1431655765 : Int32)))) &&& ((858993459 : Int32))) + ((fb_ush ((a1) - ((fb_ush (a1) (nI (1))) &&& ((1431655765 : Int32)))) (nI (2))) &&& ((858993459 : Int32)))) (nI (4))) hx hb dJ6_bitCount_0f7a4_27 rfl ?_
  refine lv_iadd hx hb dJ6_bitCount_0f7a4_28 ?_
  refine lv_ldcw (v := 252645135) hx hb CX.1.2.2.2.1 (CX.1.2.2.2.2 _ cw_J6_267) dJ6_bitCount_0f7a4_29 ?_
  refine lv_iand hx hb dJ6_bitCount_0f7a4_32 ?_
  refine lv_istore_n (lv' := [(0, .int ((((((a1) - ((fb_ush (a1) (nI (1))) &&& ((1431655765 : Int32)))) &&& ((858993459 : Int32))) + ((fb_ush ((a1) - ((fb_ush (a1) (nI (1))) &&& ((1431655765 : Int32)))) (nI (2))) &&& ((858993459 : Int32)))) + (fb_ush ((((a1) - ((fb_ush (a1) (nI (1))) &&& ((1431655765 : Int32)))) &&& ((858993459 : Int32))) + ((fb_ush ((a1) - ((fb_ush (a1) (nI (1))) &&& ((1431655765 : Int32)))) (nI (2))) &&& ((858993459 : Int32)))) (nI (4)))) &&& ((252645135 : Int32))))]) hx hb dJ6_bitCount_0f7a4_33 rfl hl (by decide) rfl (fun ls hl => ?_)
  refine lv_iload_n hx hb dJ6_bitCount_0f7a4_34 rfl (lv_at hl 0 rfl) ?_
  refine lv_iload_n hx hb dJ6_bitCount_0f7a4_35 rfl (lv_at hl 0 rfl) ?_
  refine lv_bipush (v := nI (8)) hx hb dJ6_bitCount_0f7a4_36 (by decide) ?_
  refine lv_iushr (v := fb_ush ((((((a1) - ((fb_ush (a1) (nI (1))) &&& ((1431655765 : Int32)))) &&& ((858993459 : Int32))) + ((fb_ush ((a1) - ((fb_ush (a1) (nI (1))) &&& ((1431655765 : Int32)))) (nI (2))) &&& ((858993459 : Int32)))) + (fb_ush ((((a1) - ((fb_ush (a1) (nI (1))) &&& ((1431655765 : Int32)))) &&& ((858993459 : Int32))) + ((fb_ush ((a1) - ((fb_ush (a1) (nI (1))) &&& ((1431655765 : Int32)))) (nI (2))) &&& ((858993459 : Int32)))) (nI (4)))) &&& ((252645135 : Int32))) (nI (8))) hx hb dJ6_bitCount_0f7a4_38 rfl ?_
  refine lv_iadd hx hb dJ6_bitCount_0f7a4_39 ?_
  refine lv_istore_n (lv' := [(0, .int (((((((a1) - ((fb_ush (a1) (nI (1))) &&& ((1431655765 : Int32)))) &&& ((858993459 : Int32))) + ((fb_ush ((a1) - ((fb_ush (a1) (nI (1))) &&& ((1431655765 : Int32)))) (nI (2))) &&& ((858993459 : Int32)))) + (fb_ush ((((a1) - ((fb_ush (a1) (nI (1))) &&& ((1431655765 : Int32)))) &&& ((858993459 : Int32))) + ((fb_ush ((a1) - ((fb_ush (a1) (nI (1))) &&& ((1431655765 : Int32)))) (nI (2))) &&& ((858993459 : Int32)))) (nI (4)))) &&& ((252645135 : Int32))) + (fb_ush ((((((a1) - ((fb_ush (a1) (nI (1))) &&& ((1431655765 : Int32)))) &&& ((858993459 : Int32))) + ((fb_ush ((a1) - ((fb_ush (a1) (nI (1))) &&& ((1431655765 : Int32)))) (nI (2))) &&& ((858993459 : Int32)))) + (fb_ush ((((a1) - ((fb_ush (a1) (nI (1))) &&& ((1431655765 : Int32)))) &&& ((858993459 : Int32))) + ((fb_ush ((a1) - ((fb_ush (a1) (nI (1))) &&& ((1431655765 : Int32)))) (nI (2))) &&& ((858993459 : Int32)))) (nI (4)))) &&& ((252645135 : Int32))) (nI (8)))))]) hx hb dJ6_bitCount_0f7a4_40 rfl hl (by decide) rfl (fun ls hl => ?_)
  refine lv_iload_n hx hb dJ6_bitCount_0f7a4_41 rfl (lv_at hl 0 rfl) ?_
  refine lv_iload_n hx hb dJ6_bitCount_0f7a4_42 rfl (lv_at hl 0 rfl) ?_
  refine lv_bipush (v := nI (16)) hx hb dJ6_bitCount_0f7a4_43 (by decide) ?_
  refine lv_iushr (v := fb_ush (((((((a1) - ((fb_ush (a1) (nI (1))) &&& ((1431655765 : Int32)))) &&& ((858993459 : Int32))) + ((fb_ush ((a1) - ((fb_ush (a1) (nI (1))) &&& ((1431655765 : Int32)))) (nI (2))) &&& ((858993459 : Int32)))) + (fb_ush ((((a1) - ((fb_ush (a1) (nI (1))) &&& ((1431655765 : Int32)))) &&& ((858993459 : Int32))) + ((fb_ush ((a1) - ((fb_ush (a1) (nI (1))) &&& ((1431655765 : Int32)))) (nI (2))) &&& ((858993459 : Int32)))) (nI (4)))) &&& ((252645135 : Int32))) + (fb_ush ((((((a1) - ((fb_ush (a1) (nI (1))) &&& ((1431655765 : Int32)))) &&& ((858993459 : Int32))) + ((fb_ush ((a1) - ((fb_ush (a1) (nI (1))) &&& ((1431655765 : Int32)))) (nI (2))) &&& ((858993459 : Int32)))) + (fb_ush ((((a1) - ((fb_ush (a1) (nI (1))) &&& ((1431655765 : Int32)))) &&& ((858993459 : Int32))) + ((fb_ush ((a1) - ((fb_ush (a1) (nI (1))) &&& ((1431655765 : Int32)))) (nI (2))) &&& ((858993459 : Int32)))) (nI (4)))) &&& ((252645135 : Int32))) (nI (8)))) (nI (16))) hx hb dJ6_bitCount_0f7a4_45 rfl ?_
  refine lv_iadd hx hb dJ6_bitCount_0f7a4_46 ?_
  refine lv_istore_n (lv' := [(0, .int ((((((((a1) - ((fb_ush (a1) (nI (1))) &&& ((1431655765 : Int32)))) &&& ((858993459 : Int32))) + ((fb_ush ((a1) - ((fb_ush (a1) (nI (1))) &&& ((1431655765 : Int32)))) (nI (2))) &&& ((858993459 : Int32)))) + (fb_ush ((((a1) - ((fb_ush (a1) (nI (1))) &&& ((1431655765 : Int32)))) &&& ((858993459 : Int32))) + ((fb_ush ((a1) - ((fb_ush (a1) (nI (1))) &&& ((1431655765 : Int32)))) (nI (2))) &&& ((858993459 : Int32)))) (nI (4)))) &&& ((252645135 : Int32))) + (fb_ush ((((((a1) - ((fb_ush (a1) (nI (1))) &&& ((1431655765 : Int32)))) &&& ((858993459 : Int32))) + ((fb_ush ((a1) - ((fb_ush (a1) (nI (1))) &&& ((1431655765 : Int32)))) (nI (2))) &&& ((858993459 : Int32)))) + (fb_ush ((((a1) - ((fb_ush (a1) (nI (1))) &&& ((1431655765 : Int32)))) &&& ((858993459 : Int32))) + ((fb_ush ((a1) - ((fb_ush (a1) (nI (1))) &&& ((1431655765 : Int32)))) (nI (2))) &&& ((858993459 : Int32)))) (nI (4)))) &&& ((252645135 : Int32))) (nI (8)))) + (fb_ush (((((((a1) - ((fb_ush (a1) (nI (1))) &&& ((1431655765 : Int32)))) &&& ((858993459 : Int32))) + ((fb_ush ((a1) - ((fb_ush (a1) (nI (1))) &&& ((1431655765 : Int32)))) (nI (2))) &&& ((858993459 : Int32)))) + (fb_ush ((((a1) - ((fb_ush (a1) (nI (1))) &&& ((1431655765 : Int32)))) &&& ((858993459 : Int32))) + ((fb_ush ((a1) - ((fb_ush (a1) (nI (1))) &&& ((1431655765 : Int32)))) (nI (2))) &&& ((858993459 : Int32)))) (nI (4)))) &&& ((252645135 : Int32))) + (fb_ush ((((((a1) - ((fb_ush (a1) (nI (1))) &&& ((1431655765 : Int32)))) &&& ((858993459 : Int32))) + ((fb_ush ((a1) - ((fb_ush (a1) (nI (1))) &&& ((1431655765 : Int32)))) (nI (2))) &&& ((858993459 : Int32)))) + (fb_ush ((((a1) - ((fb_ush (a1) (nI (1))) &&& ((1431655765 : Int32)))) &&& ((858993459 : Int32))) + ((fb_ush ((a1) - ((fb_ush (a1) (nI (1))) &&& ((1431655765 : Int32)))) (nI (2))) &&& ((858993459 : Int32)))) (nI (4)))) &&& ((252645135 : Int32))) (nI (8)))) (nI (16)))))]) hx hb dJ6_bitCount_0f7a4_47 rfl hl (by decide) rfl (fun ls hl => ?_)
  refine lv_iload_n hx hb dJ6_bitCount_0f7a4_48 rfl (lv_at hl 0 rfl) ?_
  refine lv_bipush (v := nI (63)) hx hb dJ6_bitCount_0f7a4_49 (by decide) ?_
  refine lv_iand hx hb dJ6_bitCount_0f7a4_51 ?_
  exact RET _ _ _ _ _ _ _ HX dJ6_bitCount_0f7a4_52 (⟨rfl, (fun c hc => by (rw [hc, fb_mask8 c]; exact fa_bc _ _ _ _ _ _ _ _))⟩)
set_option maxHeartbeats 4000000 in
set_option maxRecDepth 100000 in
theorem g_copyFrom (l : Launch) (G : fa_G) (n : Nat) (hn : 397 ≤ n) (v : fa_V) (r : fa_R) (b : Nat) (hB : b ∈ fa_bs) (hr : fa_RS r b) (b2 : Nat) (hB2 : b2 ∈ fa_bs) (hrb2 : fa_RS r b2) (hd : b2 + 56 ≤ b ∨ b + 56 ≤ b2) (hI : fa_IS v b) (hJ : fa_IS v b2) : fa_MV l G n yX3_copyFrom cX3_copyFrom 3 3 [.ref (fa_B G + (b)), .ref (fa_B G + (b2))] v r (fa_vo r (fun v1 => ((fa_IS v1 b) ∧ ∀ A, fb_inj r b → fb_cA v r b2 A → fb_cA v1 r b A) ∧ (fa_fr (b) (b + 56) v v1))) := by
  refine fa_startV (by decide +kernel) (Nat.le_of_ble_eq_true rfl) (fun p e s m args below meth c ls Q CX hl HX RET => ?_)
  have hl : lv_has ls 3 [(0, .ref (fa_B G + (b))), (1, .ref (fa_B G + (b2)))] := hl
  have hx := CX.1.1
  have hb := CX.1.2.1
  obtain ⟨m1, em1⟩ : ∃ m, m = fa_N (v b2 1) := ⟨_, rfl⟩
  obtain ⟨hm1, g1⟩ := hJ.n1 em1
  obtain ⟨m2, em2⟩ : ∃ m, m = fa_N (v (b2 + 2) 0) := ⟨_, rfl⟩
  obtain ⟨hm2, g2⟩ := hJ.n2 em2
  obtain ⟨m5, em5⟩ : ∃ m, m = fa_N (v (b2 + 5) 0) := ⟨_, rfl⟩
  obtain ⟨hm5, g5⟩ := hJ.n5 em5
  refine lv_aload_n hx hb dX3_copyFrom_0 rfl (lv_at hl 0 rfl) ?_
  refine lv_aload_n hx hb dX3_copyFrom_1 rfl (lv_at hl 1 rfl) ?_
  refine fa_geti (k := b2) CX HX fl_X3_45 (fa_lt hB2 0 (by decide) hn) (fa_s0 hB2) rfl dX3_copyFrom_2 ?_
  refine fa_puti (k := b) CX HX fl_X3_45 (fa_lt hB 0 (by decide) hn) (fa_s0 hB) rfl rfl rfl dX3_copyFrom_5 (fun H locs v1069 e1070 HX1071 => ?_)
  refine lv_aload_n hx hb dX3_copyFrom_8 rfl (lv_at hl 0 rfl) ?_
  refine lv_aload_n hx hb dX3_copyFrom_9 rfl (lv_at hl 1 rfl) ?_
  refine fa_geti (k := b2) CX HX1071 fl_X3_49 (fa_lt hB2 0 (by decide) hn) (fa_s0 hB2) rfl dX3_copyFrom_10 ?_
  rw [show v1069 b2 1 = nI (m1) from (by rw [e1070, fa_u_n _ _ (by omega)]; exact g1)]
  refine fa_puti (k := b) CX HX1071 fl_X3_49 (fa_lt hB 0 (by decide) hn) (fa_s0 hB) rfl rfl rfl dX3_copyFrom_13 (fun H locs v1072 e1073 HX1074 => ?_)
  refine lv_aload_n hx hb dX3_copyFrom_16 rfl (lv_at hl 0 rfl) ?_
  refine lv_aload_n hx hb dX3_copyFrom_17 rfl (lv_at hl 1 rfl) ?_
  refine fa_geti (k := b2) CX HX1074 fl_X3_52 (fa_lt hB2 0 (by decide) hn) (fa_s0 hB2) rfl dX3_copyFrom_18 ?_
  refine fa_puti (k := b) CX HX1074 fl_X3_52 (fa_lt hB 0 (by decide) hn) (fa_s0 hB) rfl rfl rfl dX3_copyFrom_21 (fun H locs v1075 e1076 HX1077 => ?_)
  refine lv_aload_n hx hb dX3_copyFrom_24 rfl (lv_at hl 0 rfl) ?_
  refine lv_aload_n hx hb dX3_copyFrom_25 rfl (lv_at hl 1 rfl) ?_
  refine fa_geti (k := b2) CX HX1077 fl_X3_55 (fa_lt hB2 0 (by decide) hn) (fa_s0 hB2) rfl dX3_copyFrom_26 ?_
  refine fa_puti (k := b) CX HX1077 fl_X3_55 (fa_lt hB 0 (by decide) hn) (fa_s0 hB) rfl rfl rfl dX3_copyFrom_29 (fun H locs v1078 e1079 HX1080 => ?_)
  refine lv_aload_n hx hb dX3_copyFrom_32 rfl (lv_at hl 0 rfl) ?_
  refine lv_aload_n hx hb dX3_copyFrom_33 rfl (lv_at hl 1 rfl) ?_
  refine fa_geti (k := b2) CX HX1080 fl_X3_58 (fa_lt hB2 0 (by decide) hn) (fa_s0 hB2) rfl dX3_copyFrom_34 ?_
  refine fa_puti (k := b) CX HX1080 fl_X3_58 (fa_lt hB 0 (by decide) hn) (fa_s0 hB) rfl rfl rfl dX3_copyFrom_37 (fun H locs v1081 e1082 HX1083 => ?_)
  refine lv_aload_n hx hb dX3_copyFrom_40 rfl (lv_at hl 0 rfl) ?_
  refine lv_aload_n hx hb dX3_copyFrom_41 rfl (lv_at hl 1 rfl) ?_
  refine fa_geti (k := b2) CX HX1083 fl_X3_61 (fa_lt hB2 0 (by decide) hn) (fa_s0 hB2) rfl dX3_copyFrom_42 ?_
  refine fa_puti (k := b) CX HX1083 fl_X3_61 (fa_lt hB 0 (by decide) hn) (fa_s0 hB) rfl rfl rfl dX3_copyFrom_45 (fun H locs v1084 e1085 HX1086 => ?_)
  refine lv_aload_n hx hb dX3_copyFrom_48 rfl (lv_at hl 0 rfl) ?_
  refine lv_aload_n hx hb dX3_copyFrom_49 rfl (lv_at hl 1 rfl) ?_
  refine fa_geti (k := b2) CX HX1086 fl_X3_64 (fa_lt hB2 0 (by decide) hn) (fa_s0 hB2) rfl dX3_copyFrom_50 ?_
  refine fa_puti (k := b) CX HX1086 fl_X3_64 (fa_lt hB 0 (by decide) hn) (fa_s0 hB) rfl rfl rfl dX3_copyFrom_53 (fun H locs v1087 e1088 HX1089 => ?_)
  refine lv_aload_n hx hb dX3_copyFrom_56 rfl (lv_at hl 0 rfl) ?_
  refine lv_aload_n hx hb dX3_copyFrom_57 rfl (lv_at hl 1 rfl) ?_
  refine fa_geti (k := b2) CX HX1089 fl_X3_67 (fa_lt hB2 0 (by decide) hn) (fa_s0 hB2) rfl dX3_copyFrom_58 ?_
  refine fa_puti (k := b) CX HX1089 fl_X3_67 (fa_lt hB 0 (by decide) hn) (fa_s0 hB) rfl rfl rfl dX3_copyFrom_61 (fun H locs v1090 e1091 HX1092 => ?_)
  refine lv_iconst (v := nI (0)) hx hb dX3_copyFrom_64 (by decide) ?_
  refine lv_istore_n (lv' := [(2, .int (nI (0))), (0, .ref (fa_B G + (b))), (1, .ref (fa_B G + (b2)))]) hx hb dX3_copyFrom_65 rfl hl (by decide) rfl (fun ls hl => ?_)
  have LOOP_66 : ∀ (fu : Nat) (j : Nat) (v1093 : fa_V) (H : Heap) (locs : List Loc) (ls : Array Slot), m1 - j < fu → (j ≤ m1 ∧ fa_IS v1093 b ∧ v1093 b 1 = nI m1 ∧ fa_fr b (b + 56) v v1093 ∧ fb_cpI v v1093 r b b2 j) → lv_has ls 3 [(0, .ref (fa_B G + (b))), (1, .ref (fa_B G + (b2))), (2, .int (nI (j)))] → fa_HX G (n) v1093 r s H locs → W p l e (fa_rm 3) s m args below meth c H locs (0) (0) Q (F0 m 66 ls []) := by
    intro fu
    induction fu with
    | zero => intro j v1093 H locs ls hk; exact absurd hk (Nat.not_lt_zero _)
    | succ fu ih_66 =>
      intro j v1093 H locs ls hk_66 hi_66 hl HX1094
      refine lv_iload_n hx hb dX3_copyFrom_66 rfl (lv_at hl 2 rfl) ?_
      refine lv_aload_n hx hb dX3_copyFrom_67 rfl (lv_at hl 0 rfl) ?_
      refine fa_geti (k := b) CX HX1094 fl_X3_49 (fa_lt hB 0 (by decide) hn) (fa_s0 hB) rfl dX3_copyFrom_68 ?_
      rw [show v1093 b 1 = nI (m1) from hi_66.2.2.1]
      refine lv_icmp_ge (tgt := 95) hx hb dX3_copyFrom_71 (by decide) (fun c_71 => ?_) (fun c_71 => ?_)
      · have hjn : j = m1 := by
          have := fa_leN (by omega) (by omega) c_71
          omega
        refine lv_aload_n hx hb dX3_copyFrom_95 rfl (lv_at hl 0 rfl) ?_
        refine fa_getr (k := b) (j := b + 2) CX HX1094 fl_X3_20 (fa_lt hB 0 (by decide) hn) (fa_s0 hB) rfl hr.2.1 dX3_copyFrom_96 ?_
        refine lv_aload_n hx hb dX3_copyFrom_99 rfl (lv_at hl 1 rfl) ?_
        refine fa_getr (k := b2) (j := b2 + 2) CX HX1094 fl_X3_20 (fa_lt hB2 0 (by decide) hn) (fa_s0 hB2) rfl hrb2.2.1 dX3_copyFrom_100 ?_
        refine fa_callVvu (As := [.ref (fa_B G + (b2 + 2))]) (rest := []) CX HX1094 (g_copyFromR l G n hn v1093 r b hB hr b2 hB2 hrb2 hd hi_66.2.1 m2 (by omega) (by rw [hi_66.2.2.2.1 _ (by omega)]; exact g2)) ln_X3_74 (fa_lt hB 2 (by decide) hn) (fa_s2 hB) rfl rfl rfl (Nat.le_of_ble_eq_true rfl) hl.1 ⟨Nat.le_of_ble_eq_true rfl, Nat.le_of_ble_eq_true rfl⟩ ⟨Nat.le_refl _, Nat.le_refl _⟩ dX3_copyFrom_103 (fun v1096 H locs h1095 HX1097 => ?_)
        have h_copyFromR := h1095.1.2
        have hIS_v1096 : fa_IS v1096 b := h1095.1.1
        refine lv_aload_n hx hb dX3_copyFrom_106 rfl (lv_at hl 0 rfl) ?_
        refine fa_getr (k := b) (j := b + 5) CX HX1097 fl_X3_27 (fa_lt hB 0 (by decide) hn) (fa_s0 hB) rfl hr.2.2.1 dX3_copyFrom_107 ?_
        refine lv_aload_n hx hb dX3_copyFrom_110 rfl (lv_at hl 1 rfl) ?_
        refine fa_getr (k := b2) (j := b2 + 5) CX HX1097 fl_X3_27 (fa_lt hB2 0 (by decide) hn) (fa_s0 hB2) rfl hrb2.2.2.1 dX3_copyFrom_111 ?_
        refine fa_callVvu (As := [.ref (fa_B G + (b2 + 5))]) (rest := []) CX HX1097 (g_copyFromT l G n hn v1096 r b hB hr b2 hB2 hrb2 hd hIS_v1096 m5 (by omega) (by rw [h1095.2 _ (by omega)]; exact (by rw [hi_66.2.2.2.1 _ (by omega)]; exact g5))) ln_X3_77 (fa_lt hB 5 (by decide) hn) (fa_s5 hB) rfl rfl rfl (Nat.le_of_ble_eq_true rfl) hl.1 ⟨Nat.le_of_ble_eq_true rfl, Nat.le_of_ble_eq_true rfl⟩ ⟨Nat.le_refl _, Nat.le_refl _⟩ dX3_copyFrom_114 (fun v1099 H locs h1098 HX1100 => ?_)
        have h_copyFromT := h1098.1.2
        have hIS_v1099 : fa_IS v1099 b := h1098.1.1
        refine lv_aload_n hx hb dX3_copyFrom_117 rfl (lv_at hl 1 rfl) ?_
        refine fa_getr (k := b2) (j := b2 + 7) CX HX1100 fl_X3_31 (fa_lt hB2 0 (by decide) hn) (fa_s0 hB2) rfl hrb2.2.2.2.1 dX3_copyFrom_118 ?_
        refine lv_iconst (v := nI (0)) hx hb dX3_copyFrom_121 (by decide) ?_
        refine lv_aload_n hx hb dX3_copyFrom_122 rfl (lv_at hl 0 rfl) ?_
        refine fa_getr (k := b) (j := b + 7) CX HX1100 fl_X3_31 (fa_lt hB 0 (by decide) hn) (fa_s0 hB) rfl hr.2.2.2.1 dX3_copyFrom_123 ?_
        refine lv_iconst (v := nI (0)) hx hb dX3_copyFrom_126 (by decide) ?_
        refine lv_bipush (v := nI (7)) hx hb dX3_copyFrom_127 (by decide) ?_
        refine fa_copy (k0 := b2 + 7) (k1 := b + 7) (sp := 0) (dp := 0) (cnt := 7) CX HX1100 fa_cpl_X3_39 fa_cpn fa_cps fa_cpi hl.1 (fa_lt hB2 7 (by decide) hn) (fa_s7 hB2) (fa_lt hB 7 (by decide) hn) (fa_s7 hB) (by decide) (by decide) (by first | decide | assumption) (by first | decide | assumption) (Nat.le_of_ble_eq_true rfl) (by decide +kernel) dX3_copyFrom_129 (fun H locs v1101 e1102 HX1103 => ?_)
        exact RET _ _ _ _ _ _ HX1103 dX3_copyFrom_132 (⟨rfl, ⟨⟨(fa_IS.row hIS_v1099 (fa_cp_out e1102) (Or.inr (Or.inr (Or.inr (Or.inr (Or.inr rfl)))))), fun A hij hc => fb_c_copy hc hr hij hd (by rw [← hc.n, ← em1]; exact hjn) hi_66.2.2.2.1 hi_66.2.2.2.2 h1095.2 h_copyFromR h1098.2 h_copyFromT e1102⟩, (by rw [e1102]; exact fa_fr.cp (fa_fr.tr (fa_fr.tr (fa_fr.tr fa_fr.rf (fa_fr.wide hi_66.2.2.2.1 (by omega) (by omega))) (fa_fr.wide h1095.2 (by omega) (by omega))) (fa_fr.wide h1098.2 (by omega) (by omega))) (by omega))⟩⟩)
      · have hj := fa_ltN (by omega) (by omega) c_71
        refine lv_aload_n hx hb dX3_copyFrom_74 rfl (lv_at hl 0 rfl) ?_
        refine fa_getr (k := b) (j := b + 1) CX HX1094 fl_X3_11 (fa_lt hB 0 (by decide) hn) (fa_s0 hB) rfl hr.1 dX3_copyFrom_75 ?_
        refine lv_iload_n hx hb dX3_copyFrom_78 rfl (lv_at hl 2 rfl) ?_
        refine fa_aald (k := b + 1) (j := j) (q := fa_pf r b j) CX HX1094 (fa_lt hB 1 (by decide) hn) (fa_s1 hB) rfl (by decide) (by omega) (by first | decide | assumption) (fa_pf_at hr (by omega)) dX3_copyFrom_79 ?_
        refine lv_aload_n hx hb dX3_copyFrom_80 rfl (lv_at hl 1 rfl) ?_
        refine fa_getr (k := b2) (j := b2 + 1) CX HX1094 fl_X3_11 (fa_lt hB2 0 (by decide) hn) (fa_s0 hB2) rfl hrb2.1 dX3_copyFrom_81 ?_
        refine lv_iload_n hx hb dX3_copyFrom_84 rfl (lv_at hl 2 rfl) ?_
        refine fa_aald (k := b2 + 1) (j := j) (q := fa_pf r b2 j) CX HX1094 (fa_lt hB2 1 (by decide) hn) (fa_s1 hB2) rfl (by decide) (by omega) (by first | decide | assumption) (fa_pf_at hrb2 (by omega)) dX3_copyFrom_85 ?_
        obtain ⟨kd, hkd, ekd⟩ := (fa_IS.congr (fun k h1 h2 => hi_66.2.2.2.1 k (by omega)) hJ).kind (fa_pf_isF hrb2 (show j < 24 by omega))
        refine fa_callVvu (As := [.ref (fa_B G + (fa_pf r b2 j))]) (rest := []) CX HX1094 (g_copyFromF l G n hn v1093 r b hB hr b2 hB2 hrb2 hd hi_66.2.1 (fa_pf r b j) (fa_pf r b2 j) kd (fa_pf_isF hr (by omega)) (fa_pf_isF hrb2 (by omega)) hkd ekd) ln_X3_70 (fa_isF_lt hB (fa_pf_isF hr (by omega)) hn) (fa_isF_sh hB (fa_pf_isF hr (by omega))) rfl rfl rfl (Nat.le_of_ble_eq_true rfl) hl.1 ⟨Nat.le_of_ble_eq_true rfl, Nat.le_of_ble_eq_true rfl⟩ ⟨Nat.le_refl _, Nat.le_refl _⟩ dX3_copyFrom_86 (fun v1105 H locs h1104 HX1106 => ?_)
        have h_copyFromF := h1104.1.2
        have hIS_v1105 : fa_IS v1105 b := h1104.1.1
        refine lv_iinc (v := nI (j + 1)) (lv' := [(2, .int (nI (j + 1))), (0, .ref (fa_B G + (b))), (1, .ref (fa_B G + (b2)))]) hx hb dX3_copyFrom_89 hl (k := 2) rfl (nI_add (j) 1) (by decide) rfl (fun ls hl => ?_)
        refine lv_goto (tgt := 66) hx hb dX3_copyFrom_92 (by decide) ?_
        exact ih_66 (j + 1) v1105 _ _ _ (by omega) (⟨by omega, hIS_v1105, (by rw [h1104.2 _ (by omega)]; exact hi_66.2.2.1), (fa_fr.tr (fa_fr.tr fa_fr.rf (fa_fr.wide hi_66.2.2.2.1 (by omega) (by omega))) (fa_fr.wide h1104.2 (by omega) (by omega))), hi_66.2.2.2.2.s hr hrb2 hd (by omega) hi_66.2.2.2.1 h_copyFromF⟩) (lv_sub hl [1, 2, 0] rfl) HX1106
  exact LOOP_66 (m1 - 0 + 1) (0) v1090 _ _ _ (Nat.lt_succ_self _) (⟨Nat.zero_le _, (by rw [e1091]; exact fa_IS.u (by rw [e1088]; exact fa_IS.u (by rw [e1085]; exact fa_IS.u (by rw [e1082]; exact fa_IS.u (by rw [e1079]; exact fa_IS.u (by rw [e1076]; exact fa_IS.u (by rw [e1073]; exact fa_IS.set1 (by rw [e1070]; exact fa_IS.u hI (Or.inl ⟨rfl, by decide⟩)) (by omega)) (Or.inl ⟨rfl, by decide⟩)) (Or.inl ⟨rfl, by decide⟩)) (Or.inl ⟨rfl, by decide⟩)) (Or.inl ⟨rfl, by decide⟩)) (Or.inl ⟨rfl, by decide⟩)) (Or.inl ⟨rfl, by decide⟩)), (by rw [e1091, fa_u_n _ _ (by omega)]; exact (by rw [e1088, fa_u_n _ _ (by omega)]; exact (by rw [e1085, fa_u_n _ _ (by omega)]; exact (by rw [e1082, fa_u_n _ _ (by omega)]; exact (by rw [e1079, fa_u_n _ _ (by omega)]; exact (by rw [e1076, fa_u_n _ _ (by omega)]; exact (by rw [e1073, fa_u_s]))))))), (by rw [e1091]; exact fa_fr.u (by rw [e1088]; exact fa_fr.u (by rw [e1085]; exact fa_fr.u (by rw [e1082]; exact fa_fr.u (by rw [e1079]; exact fa_fr.u (by rw [e1076]; exact fa_fr.u (by rw [e1073]; exact fa_fr.u (by rw [e1070]; exact fa_fr.u fa_fr.rf (by omega)) (by omega)) (by omega)) (by omega)) (by omega)) (by omega)) (by omega)) (by omega)), fb_cp8 (by omega) g1 e1070 e1073 e1076 e1079 e1082 e1085 e1088 e1091, fun _ p hp => absurd hp (Nat.not_lt_zero _)⟩) (lv_sub hl [1, 2, 0] rfl) HX1092
set_option maxHeartbeats 4000000 in
set_option maxRecDepth 100000 in
theorem g_addFile (l : Launch) (G : fa_G) (n : Nat) (hn : 397 ≤ n) (v : fa_V) (r : fa_R) (b : Nat) (hB : b ∈ fa_bs) (hr : fa_RS r b) (hI : fa_IS v b) (a1 : Int32) (a2 : Int32) : fa_MI l G n yX3_addFile cX3_addFile 3 (some .int) 3 [.ref (fa_B G + (b)), .int (a1), .int (a2)] v r (fa_voi r (fun x v1 => ((∀ A, fb_okA A → fb_cA v r b A → x = (fb_addA A a1 a2).1 ∧ fb_cA v1 r b (fb_addA A a1 a2).2) ∧ fa_IS v1 b) ∧ (fa_fr (b) (b + 56) v v1))) := by
  refine fa_startI (by decide +kernel) (Nat.le_of_ble_eq_true rfl) (fun p e s m args below meth c ls Q CX hl HX RET => ?_)
  have hl : lv_has ls 3 [(0, .ref (fa_B G + (b))), (1, .int (a1)), (2, .int (a2))] := hl
  have hx := CX.1.1
  have hb := CX.1.2.1
  obtain ⟨n0, en0⟩ : ∃ n0, n0 = fa_N (v b 1) := ⟨_, rfl⟩
  obtain ⟨hn0, h1⟩ := hI.n1 en0
  refine lv_iload_n hx hb dX3_addFile_0 rfl (lv_at hl 1 rfl) ?_
  refine lv_if_lt (tgt := 20) hx hb dX3_addFile_1 (by decide) (fun c_1 => ?_) (fun c_1 => ?_)
  · refine lv_bipush (v := (-2 : Int32)) hx hb dX3_addFile_20 (by decide) ?_
    exact RET _ _ _ _ _ _ _ HX dX3_addFile_22 (⟨rfl, ⟨⟨(fun A hok hc => fb_rs (fb_addA_1 (Or.inl c_1)) rfl hc), hI⟩, fa_fr.rf⟩⟩)
  · refine lv_iload_n hx hb dX3_addFile_4 rfl (lv_at hl 1 rfl) ?_
    refine lv_iconst (v := nI (4)) hx hb dX3_addFile_5 (by decide) ?_
    refine lv_icmp_gt (tgt := 20) hx hb dX3_addFile_6 (by decide) (fun c_6 => ?_) (fun c_6 => ?_)
    · refine lv_bipush (v := (-2 : Int32)) hx hb dX3_addFile_20 (by decide) ?_
      exact RET _ _ _ _ _ _ _ HX dX3_addFile_22 (⟨rfl, ⟨⟨(fun A hok hc => fb_rs (fb_addA_1 (Or.inr (Or.inl c_6))) rfl hc), hI⟩, fa_fr.rf⟩⟩)
    · refine lv_iload_n hx hb dX3_addFile_9 rfl (lv_at hl 2 rfl) ?_
      refine lv_iconst (v := nI (1)) hx hb dX3_addFile_10 (by decide) ?_
      refine lv_icmp_lt (tgt := 20) hx hb dX3_addFile_11 (by decide) (fun c_11 => ?_) (fun c_11 => ?_)
      · refine lv_bipush (v := (-2 : Int32)) hx hb dX3_addFile_20 (by decide) ?_
        exact RET _ _ _ _ _ _ _ HX dX3_addFile_22 (⟨rfl, ⟨⟨(fun A hok hc => fb_rs (fb_addA_1 (Or.inr (Or.inr (Or.inl c_11)))) rfl hc), hI⟩, fa_fr.rf⟩⟩)
      · refine lv_iload_n hx hb dX3_addFile_14 rfl (lv_at hl 2 rfl) ?_
        refine lv_bipush (v := nI (50)) hx hb dX3_addFile_15 (by decide) ?_
        refine lv_icmp_le (tgt := 23) hx hb dX3_addFile_17 (by decide) (fun c_17 => ?_) (fun c_17 => ?_)
        · obtain ⟨ka, hka, eka⟩ := fa_natLe (by decide) c_1 c_6
          refine lv_aload_n hx hb dX3_addFile_23 rfl (lv_at hl 0 rfl) ?_
          refine fa_geti (k := b) CX HX fl_X3_49 (fa_lt hB 0 (by decide) hn) (fa_s0 hB) rfl dX3_addFile_24 ?_
          rw [show v b 1 = nI (n0) from h1]
          refine lv_bipush (v := nI (24)) hx hb dX3_addFile_27 (by decide) ?_
          refine lv_icmp_ge (tgt := 58) hx hb dX3_addFile_29 (by decide) (fun c_29 => ?_) (fun c_29 => ?_)
          · refine lv_bipush (v := (-4 : Int32)) hx hb dX3_addFile_58 (by decide) ?_
            exact RET _ _ _ _ _ _ _ HX dX3_addFile_60 (⟨rfl, ⟨⟨(fun A hok hc => fb_rs (fb_addA_2 (fun z => z.elim c_1 (fun z => z.elim c_6 (fun z => z.elim c_11 (fun z => z c_17)))) (Or.inl ((by rw [← hc.n, ← en0]; exact fa_leN (by omega) (by omega) c_29)))) rfl hc), hI⟩, fa_fr.rf⟩⟩)
          · have hj := fa_ltN (by omega) (by omega) c_29
            refine lv_aload_n hx hb dX3_addFile_32 rfl (lv_at hl 0 rfl) ?_
            refine fa_geti (k := b) CX HX fl_X3_52 (fa_lt hB 0 (by decide) hn) (fa_s0 hB) rfl dX3_addFile_33 ?_
            refine lv_sipush (v := nI (200)) hx hb dX3_addFile_36 (by decide) ?_
            refine lv_icmp_ge (tgt := 58) hx hb dX3_addFile_39 (by decide) (fun c_39 => ?_) (fun c_39 => ?_)
            · refine lv_bipush (v := (-4 : Int32)) hx hb dX3_addFile_58 (by decide) ?_
              exact RET _ _ _ _ _ _ _ HX dX3_addFile_60 (⟨rfl, ⟨⟨(fun A hok hc => fb_rs (fb_addA_2 (fun z => z.elim c_1 (fun z => z.elim c_6 (fun z => z.elim c_11 (fun z => z c_17)))) (Or.inr (Or.inl ((by rw [← hc.gk 8 (by decide) (by decide)]; exact c_39))))) rfl hc), hI⟩, fa_fr.rf⟩⟩)
            · refine lv_aload_n hx hb dX3_addFile_42 rfl (lv_at hl 0 rfl) ?_
              refine fa_callVip (As := []) (rest := []) CX HX (g_storedPages l G n hn v r b hB hr hI  ) ln_X3_80 (fa_lt hB 0 (by decide) hn) (fa_s0 hB) rfl rfl rfl (Nat.le_of_ble_eq_true rfl) hl.1 ⟨Nat.le_of_ble_eq_true rfl, Nat.le_of_ble_eq_true rfl⟩ ⟨Nat.le_refl _, Nat.le_refl _⟩ dX3_addFile_43 (fun x1108 H locs h1107 HX1109 => ?_)
              have h_storedPages := h1107
              refine lv_iload_n hx hb dX3_addFile_46 rfl (lv_at hl 2 rfl) ?_
              refine lv_iadd hx hb dX3_addFile_47 ?_
              refine lv_aload_n hx hb dX3_addFile_48 rfl (lv_at hl 0 rfl) ?_
              refine fa_getr (k := b) (j := b + 7) CX HX1109 fl_X3_31 (fa_lt hB 0 (by decide) hn) (fa_s0 hB) rfl hr.2.2.2.1 dX3_addFile_49 ?_
              refine lv_bipush (v := nI (6)) hx hb dX3_addFile_52 (by decide) ?_
              refine fa_iald (k := b + 7) (j := 6) CX HX1109 (fa_lt hB 7 (by decide) hn) (fa_s7 hB) (by omega) (by first | decide | assumption) dX3_addFile_54 ?_
              refine lv_icmp_le (tgt := 61) hx hb dX3_addFile_55 (by decide) (fun c_55 => ?_) (fun c_55 => ?_)
              · refine lv_aload_n hx hb dX3_addFile_61 rfl (lv_at hl 0 rfl) ?_
                refine fa_getr (k := b) (j := b + 1) CX HX1109 fl_X3_11 (fa_lt hB 0 (by decide) hn) (fa_s0 hB) rfl hr.1 dX3_addFile_62 ?_
                refine lv_aload_n hx hb dX3_addFile_65 rfl (lv_at hl 0 rfl) ?_
                refine fa_geti (k := b) CX HX1109 fl_X3_49 (fa_lt hB 0 (by decide) hn) (fa_s0 hB) rfl dX3_addFile_66 ?_
                rw [show v b 1 = nI (n0) from h1]
                refine fa_aald (k := b + 1) (j := n0) (q := fa_pf r b n0) CX HX1109 (fa_lt hB 1 (by decide) hn) (fa_s1 hB) rfl (by decide) (by omega) (by first | decide | assumption) (fa_pf_at hr (by omega)) dX3_addFile_69 ?_
                refine lv_aload_n hx hb dX3_addFile_70 rfl (lv_at hl 0 rfl) ?_
                refine fa_geti (k := b) CX HX1109 fl_X3_52 (fa_lt hB 0 (by decide) hn) (fa_s0 hB) rfl dX3_addFile_71 ?_
                refine lv_iload_n hx hb dX3_addFile_74 rfl (lv_at hl 1 rfl) ?_
                rw [show a1 = nI (ka) from eka]
                refine lv_iload_n hx hb dX3_addFile_75 rfl (lv_at hl 2 rfl) ?_
                refine lv_aload_n hx hb dX3_addFile_76 rfl (lv_at hl 0 rfl) ?_
                refine fa_geti (k := b) CX HX1109 fl_X3_45 (fa_lt hB 0 (by decide) hn) (fa_s0 hB) rfl dX3_addFile_77 ?_
                refine fa_callVvu (As := [.int (v b 2), .int (nI (ka)), .int (a2), .int (v b 0)]) (rest := []) CX HX1109 (g_comeAs l G n hn v r b hB hr hI (fa_pf r b n0) (v b 2) (ka) (a2) (v b 0) (fa_pf_isF hr (by omega)) (by omega)) ln_X3_84 (fa_isF_lt hB (fa_pf_isF hr (by omega)) hn) (fa_isF_sh hB (fa_pf_isF hr (by omega))) rfl rfl rfl (Nat.le_of_ble_eq_true rfl) hl.1 ⟨Nat.le_of_ble_eq_true rfl, Nat.le_of_ble_eq_true rfl⟩ ⟨Nat.le_refl _, Nat.le_refl _⟩ dX3_addFile_80 (fun v1111 H locs h1110 HX1112 => ?_)
                have h_comeAs := h1110.1.2
                have hIS_v1111 : fa_IS v1111 b := h1110.1.1
                refine lv_aload_n hx hb dX3_addFile_83 rfl (lv_at hl 0 rfl) ?_
                refine lv_dup hx hb dX3_addFile_84 rfl ?_
                refine fa_geti (k := b) CX HX1112 fl_X3_49 (fa_lt hB 0 (by decide) hn) (fa_s0 hB) rfl dX3_addFile_85 ?_
                rw [show v1111 b 1 = nI (n0) from (by rw [h1110.2 _ (by omega)]; exact h1)]
                refine lv_iconst (v := nI (1)) hx hb dX3_addFile_88 (by decide) ?_
                refine fa_iaddN hx hb dX3_addFile_89 ?_
                refine fa_puti (k := b) CX HX1112 fl_X3_49 (fa_lt hB 0 (by decide) hn) (fa_s0 hB) rfl rfl rfl dX3_addFile_90 (fun H locs v1113 e1114 HX1115 => ?_)
                refine lv_aload_n hx hb dX3_addFile_93 rfl (lv_at hl 0 rfl) ?_
                refine lv_dup hx hb dX3_addFile_94 rfl ?_
                refine fa_geti (k := b) CX HX1115 fl_X3_52 (fa_lt hB 0 (by decide) hn) (fa_s0 hB) rfl dX3_addFile_95 ?_
                refine lv_iconst (v := nI (1)) hx hb dX3_addFile_98 (by decide) ?_
                refine lv_iadd hx hb dX3_addFile_99 ?_
                refine fa_puti (k := b) CX HX1115 fl_X3_52 (fa_lt hB 0 (by decide) hn) (fa_s0 hB) rfl rfl rfl dX3_addFile_100 (fun H locs v1116 e1117 HX1118 => ?_)
                refine lv_aload_n hx hb dX3_addFile_103 rfl (lv_at hl 0 rfl) ?_
                refine fa_geti (k := b) CX HX1118 fl_X3_52 (fa_lt hB 0 (by decide) hn) (fa_s0 hB) rfl dX3_addFile_104 ?_
                refine lv_iconst (v := nI (1)) hx hb dX3_addFile_107 (by decide) ?_
                refine lv_isub hx hb dX3_addFile_108 ?_
                exact RET _ _ _ _ _ _ _ HX1118 dX3_addFile_109 (⟨rfl, ⟨⟨(fun A hok hc => fb_rs (fb_addA_3 (fun z => z.elim c_1 (fun z => z.elim c_6 (fun z => z.elim c_11 (fun z => z c_17)))) (fun z => z.elim (fun z => by rw [← hc.n, ← en0] at z; omega) (fun z => z.elim (fun z => c_39 (by rw [← hc.gk 8 (by decide) (by decide)] at z; exact z)) (fun z => z (by rw [← hc.pgs, ← hc.set (k := 6) (by decide), ← h_storedPages]; exact c_55))))) (fb_c_newx (k := a1) (p := a2) hc (by rw [← hc.n, ← en0]; exact hj) (by rw [← hc.n, ← en0]) (by rw [eka]; exact h_comeAs) e1114 e1117) (fb_c_new (k := a1) (p := a2) hc (by rw [← hc.n, ← en0]; exact hj) (by rw [← hc.n, ← en0]) (by rw [eka]; exact h_comeAs) e1114 e1117)), (by rw [e1117]; exact fa_IS.u (by rw [e1114]; exact fa_IS.set1 hIS_v1111 (by omega)) (Or.inl ⟨rfl, by decide⟩))⟩, (by rw [e1117]; exact fa_fr.u (by rw [e1114]; exact fa_fr.u (fa_fr.tr fa_fr.rf (fa_fr.wide h1110.2 (by omega) (by omega))) (by omega)) (by omega))⟩⟩)
              · refine lv_bipush (v := (-4 : Int32)) hx hb dX3_addFile_58 (by decide) ?_
                exact RET _ _ _ _ _ _ _ HX1109 dX3_addFile_60 (⟨rfl, ⟨⟨(fun A hok hc => fb_rs (fb_addA_2 (fun z => z.elim c_1 (fun z => z.elim c_6 (fun z => z.elim c_11 (fun z => z c_17)))) (Or.inr (Or.inr ((by rw [← hc.pgs, ← hc.set (k := 6) (by decide), ← h_storedPages]; exact c_55))))) rfl hc), hI⟩, fa_fr.rf⟩⟩)
        · refine lv_bipush (v := (-2 : Int32)) hx hb dX3_addFile_20 (by decide) ?_
          exact RET _ _ _ _ _ _ _ HX dX3_addFile_22 (⟨rfl, ⟨⟨(fun A hok hc => fb_rs (fb_addA_1 (Or.inr (Or.inr (Or.inr (c_17))))) rfl hc), hI⟩, fa_fr.rf⟩⟩)
set_option maxHeartbeats 4000000 in
set_option maxRecDepth 100000 in
theorem g_askFor (l : Launch) (G : fa_G) (n : Nat) (hn : 397 ≤ n) (v : fa_V) (r : fa_R) (b : Nat) (hB : b ∈ fa_bs) (hr : fa_RS r b) (hI : fa_IS v b) (a1 : Int32) : fa_MI l G n yX3_askFor cX3_askFor 3 (some .int) 2 [.ref (fa_B G + (b)), .int (a1)] v r (fa_voi r (fun x v1 => ((∀ A, fb_okA A → fb_cA v r b A → x = (fb_askA A a1).1 ∧ fb_cA v1 r b (fb_askA A a1).2) ∧ fa_IS v1 b) ∧ (fa_fr (b) (b + 56) v v1))) := by
  refine fa_startI (by decide +kernel) (Nat.le_of_ble_eq_true rfl) (fun p e s m args below meth c ls Q CX hl HX RET => ?_)
  have hl : lv_has ls 3 [(0, .ref (fa_B G + (b))), (1, .int (a1))] := hl
  have hx := CX.1.1
  have hb := CX.1.2.1
  refine lv_iload_n hx hb dX3_askFor_0 rfl (lv_at hl 1 rfl) ?_
  refine lv_if_lt (tgt := 12) hx hb dX3_askFor_1 (by decide) (fun c_1 => ?_) (fun c_1 => ?_)
  · refine lv_iconst (v := (-1 : Int32)) hx hb dX3_askFor_12 (by decide) ?_
    exact RET _ _ _ _ _ _ _ HX dX3_askFor_13 (⟨rfl, ⟨⟨(fun A hok hc => fb_rs (fb_askA_0 (Or.inl c_1)) rfl hc), hI⟩, fa_fr.rf⟩⟩)
  · refine lv_iload_n hx hb dX3_askFor_4 rfl (lv_at hl 1 rfl) ?_
    refine lv_aload_n hx hb dX3_askFor_5 rfl (lv_at hl 0 rfl) ?_
    refine fa_geti (k := b) CX HX fl_X3_52 (fa_lt hB 0 (by decide) hn) (fa_s0 hB) rfl dX3_askFor_6 ?_
    refine lv_icmp_lt (tgt := 14) hx hb dX3_askFor_9 (by decide) (fun c_9 => ?_) (fun c_9 => ?_)
    · refine lv_aload_n hx hb dX3_askFor_14 rfl (lv_at hl 0 rfl) ?_
      refine lv_iload_n hx hb dX3_askFor_15 rfl (lv_at hl 1 rfl) ?_
      refine fa_callVrp (As := [.int (a1)]) (rest := []) CX HX (g_find l G n hn v r b hB hr hI (a1) ) ln_X3_88 (fa_lt hB 0 (by decide) hn) (fa_s0 hB) rfl rfl rfl (Nat.le_of_ble_eq_true rfl) hl.1 ⟨Nat.le_of_ble_eq_true rfl, Nat.le_of_ble_eq_true rfl⟩ ⟨Nat.le_refl _, Nat.le_refl _⟩ dX3_askFor_16 (fun H locs h1119 HX1120 => ?_) (fun q1121 H locs h1119 HX1120 => ?_)
      · have hf_none := h1119.2 rfl
        refine lv_astore_nN (lv' := [(2, .null), (0, .ref (fa_B G + (b))), (1, .int (a1))]) hx hb dX3_askFor_19 rfl hl (by decide) rfl (fun ls hl => ?_)
        refine lv_aload_nN hx hb dX3_askFor_20 rfl (lv_at hl 0 rfl) ?_
        refine lv_ifnonnullN hx hb dX3_askFor_21 ?_
        refine lv_aload_n hx hb dX3_askFor_24 rfl (lv_at hl 1 rfl) ?_
        refine lv_dup hx hb dX3_askFor_25 rfl ?_
        refine fa_geti (k := b) CX HX1120 fl_X3_64 (fa_lt hB 0 (by decide) hn) (fa_s0 hB) rfl dX3_askFor_26 ?_
        refine lv_iconst (v := nI (1)) hx hb dX3_askFor_29 (by decide) ?_
        refine lv_iadd hx hb dX3_askFor_30 ?_
        refine fa_puti (k := b) CX HX1120 fl_X3_64 (fa_lt hB 0 (by decide) hn) (fa_s0 hB) rfl rfl rfl dX3_askFor_31 (fun H locs v1122 e1123 HX1124 => ?_)
        refine lv_bipush (v := (-6 : Int32)) hx hb dX3_askFor_34 (by decide) ?_
        exact RET _ _ _ _ _ _ _ HX1124 dX3_askFor_36 (⟨rfl, ⟨⟨(fun A hok hc => fb_rs (fb_askA_n (fun z => z.elim c_1 (fun z => z (by rw [← hc.gk 8 (by decide) (by decide)]; exact c_9))) (hc.find0 hf_none)) rfl (fb_c_regret hc e1123)), (by rw [e1123]; exact fa_IS.u hI (Or.inl ⟨rfl, by decide⟩))⟩, (by rw [e1123]; exact fa_fr.u fa_fr.rf (by omega))⟩⟩)
      · have hf_q1121 := h1119.1 q1121 rfl
        have hq1121 := hf_q1121.1
        have hiq1121 := fa_isF_in hq1121
        refine lv_astore_n (lv' := [(2, .ref (fa_B G + (q1121))), (0, .ref (fa_B G + (b))), (1, .int (a1))]) hx hb dX3_askFor_19 rfl hl (by decide) rfl (fun ls hl => ?_)
        refine lv_aload_n hx hb dX3_askFor_20 rfl (lv_at hl 0 rfl) ?_
        refine lv_ifnonnull (tgt := 37) hx hb dX3_askFor_21 (by decide) ?_
        refine lv_aload_n hx hb dX3_askFor_37 rfl (lv_at hl 1 rfl) ?_
        refine lv_aload_n hx hb dX3_askFor_38 rfl (lv_at hl 0 rfl) ?_
        refine fa_callVvu (As := [.ref (fa_B G + (q1121))]) (rest := []) CX HX1120 (g_askStored l G n hn v r b hB hr hI (q1121) hq1121) ln_X3_92 (fa_lt hB 0 (by decide) hn) (fa_s0 hB) rfl rfl rfl (Nat.le_of_ble_eq_true rfl) hl.1 ⟨Nat.le_of_ble_eq_true rfl, Nat.le_of_ble_eq_true rfl⟩ ⟨Nat.le_refl _, Nat.le_refl _⟩ dX3_askFor_39 (fun v1126 H locs h1125 HX1127 => ?_)
        have h_ask_v1126 := h1125.1
        refine lv_aload_n hx hb dX3_askFor_42 rfl (lv_at hl 0 rfl) ?_
        refine fa_geti (k := q1121) CX HX1127 fl_X3_95 (fa_isF_lt hB hq1121 hn) (fa_isF_sh hB hq1121) rfl dX3_askFor_43 ?_
        exact RET _ _ _ _ _ _ _ HX1127 dX3_askFor_46 (⟨rfl, ⟨⟨(fun A hok hc => by (obtain ⟨p, hp, eq, ix, -⟩ := hc.find1 hf_q1121; rw [eq] at h_ask_v1126; have z := fb_c_ask hok.nowpos hc hp h_ask_v1126; rw [eq]; exact fb_rs (fb_askA_s (fun z => z.elim c_1 (fun z => z (by rw [← hc.gk 8 (by decide) (by decide)]; exact c_9))) ix) z.2 z.1)), (by rw [h_ask_v1126]; exact fa_ask_IS hI hq1121)⟩, (fa_fr.tr fa_fr.rf (fa_fr.wide h1125.2 (by omega) (by omega)))⟩⟩)
    · refine lv_iconst (v := (-1 : Int32)) hx hb dX3_askFor_12 (by decide) ?_
      exact RET _ _ _ _ _ _ _ HX dX3_askFor_13 (⟨rfl, ⟨⟨(fun A hok hc => fb_rs (fb_askA_0 (Or.inr (fun z => c_9 (by rw [← hc.gk 8 (by decide) (by decide)] at z; exact z)))) rfl hc), hI⟩, fa_fr.rf⟩⟩)
set_option maxHeartbeats 4000000 in
set_option maxRecDepth 100000 in
theorem g_putSeal (l : Launch) (G : fa_G) (n : Nat) (hn : 397 ≤ n) (v : fa_V) (r : fa_R) (b : Nat) (hB : b ∈ fa_bs) (hr : fa_RS r b) (hI : fa_IS v b) (a1 : Int32) (a2 : Int32) (a3 : Int32) : fa_MI l G n yX3_putSeal cX3_putSeal 5 (some .int) 2 [.ref (fa_B G + (b)), .int (a1), .int (a2), .int (a3)] v r (fa_voi r (fun x v1 => ((∀ A, fb_okA A → fb_cA v r b A → x = (fb_sealA A a1 a2 a3).1 ∧ fb_cA v1 r b (fb_sealA A a1 a2 a3).2) ∧ fa_IS v1 b) ∧ (fa_fr (b) (b + 56) v v1))) := by
  refine fa_startI (by decide +kernel) (Nat.le_of_ble_eq_true rfl) (fun p e s m args below meth c ls Q CX hl HX RET => ?_)
  have hl : lv_has ls 5 [(0, .ref (fa_B G + (b))), (1, .int (a1)), (2, .int (a2)), (3, .int (a3))] := hl
  have hx := CX.1.1
  have hb := CX.1.2.1
  refine lv_aload_n hx hb dX3_putSeal_0 rfl (lv_at hl 0 rfl) ?_
  refine lv_iload_n hx hb dX3_putSeal_1 rfl (lv_at hl 2 rfl) ?_
  refine fa_callVrp (As := [.int (a2)]) (rest := []) CX HX (g_find l G n hn v r b hB hr hI (a2) ) ln_X3_88 (fa_lt hB 0 (by decide) hn) (fa_s0 hB) rfl rfl rfl (Nat.le_of_ble_eq_true rfl) hl.1 ⟨Nat.le_of_ble_eq_true rfl, Nat.le_of_ble_eq_true rfl⟩ ⟨Nat.le_refl _, Nat.le_refl _⟩ dX3_putSeal_2 (fun H locs h1128 HX1129 => ?_) (fun q1130 H locs h1128 HX1129 => ?_)
  · have hf_none := h1128.2 rfl
    refine lv_astoreN (lv' := [(4, .null), (0, .ref (fa_B G + (b))), (1, .int (a1)), (2, .int (a2)), (3, .int (a3))]) hx hb dX3_putSeal_5 hl (by decide) rfl (fun ls hl => ?_)
    refine lv_iload_n hx hb dX3_putSeal_7 rfl (lv_at hl 2 rfl) ?_
    refine fa_callSNip (As := [.int (a1)]) (rest := []) CX HX1129 (c_X6_isNoHolder l G n v r (a1)) (by decide +kernel) ln_X3_98 rfl rfl (Nat.le_of_ble_eq_true rfl) hl.1 ⟨Nat.le_of_ble_eq_true rfl, Nat.le_of_ble_eq_true rfl⟩ ⟨Nat.le_refl _, Nat.le_refl _⟩ dX3_putSeal_8 (fun x1132 H locs h1131 HX1133 => ?_)
    have h_ns := h1131
    refine lv_if_ne (tgt := 19) hx hb dX3_putSeal_11 (by decide) (fun c_11 => ?_) (fun c_11 => ?_)
    · refine lv_iconst (v := (-1 : Int32)) hx hb dX3_putSeal_19 (by decide) ?_
      exact RET _ _ _ _ _ _ _ HX1133 dX3_putSeal_20 (⟨rfl, ⟨⟨(fun A hok hc => fb_rs (fb_sealA_n (hc.find0 hf_none)) rfl hc), hI⟩, fa_fr.rf⟩⟩)
    · obtain ⟨jh, hjh, ejh⟩ := fa_ix7 (by decide) (fa_ifn h_ns (by first | exact c_11 | exact Decidable.not_not.mp c_11))
      refine lv_aloadN hx hb dX3_putSeal_14 (lv_at hl 0 rfl) ?_
      refine lv_ifnonnullN hx hb dX3_putSeal_16 ?_
      refine lv_iconst (v := (-1 : Int32)) hx hb dX3_putSeal_19 (by decide) ?_
      exact RET _ _ _ _ _ _ _ HX1133 dX3_putSeal_20 (⟨rfl, ⟨⟨(fun A hok hc => fb_rs (fb_sealA_n (hc.find0 hf_none)) rfl hc), hI⟩, fa_fr.rf⟩⟩)
  · have hf_q1130 := h1128.1 q1130 rfl
    have hq1130 := hf_q1130.1
    have hiq1130 := fa_isF_in hq1130
    refine lv_astore (lv' := [(4, .ref (fa_B G + (q1130))), (0, .ref (fa_B G + (b))), (1, .int (a1)), (2, .int (a2)), (3, .int (a3))]) hx hb dX3_putSeal_5 hl (by decide) rfl (fun ls hl => ?_)
    refine lv_iload_n hx hb dX3_putSeal_7 rfl (lv_at hl 2 rfl) ?_
    refine fa_callSNip (As := [.int (a1)]) (rest := []) CX HX1129 (c_X6_isNoHolder l G n v r (a1)) (by decide +kernel) ln_X3_98 rfl rfl (Nat.le_of_ble_eq_true rfl) hl.1 ⟨Nat.le_of_ble_eq_true rfl, Nat.le_of_ble_eq_true rfl⟩ ⟨Nat.le_refl _, Nat.le_refl _⟩ dX3_putSeal_8 (fun x1135 H locs h1134 HX1136 => ?_)
    have h_ns := h1134
    refine lv_if_ne (tgt := 19) hx hb dX3_putSeal_11 (by decide) (fun c_11 => ?_) (fun c_11 => ?_)
    · refine lv_iconst (v := (-1 : Int32)) hx hb dX3_putSeal_19 (by decide) ?_
      exact RET _ _ _ _ _ _ _ HX1136 dX3_putSeal_20 (⟨rfl, ⟨⟨(fun A hok hc => by (obtain ⟨p, hp, eq, ix, -⟩ := hc.find1 hf_q1130; exact fb_rs (fb_sealA_h ix (fa_ift h_ns (by first | exact c_11 | exact Decidable.not_not.mp c_11))) rfl hc)), hI⟩, fa_fr.rf⟩⟩)
    · obtain ⟨jh, hjh, ejh⟩ := fa_ix7 (by decide) (fa_ifn h_ns (by first | exact c_11 | exact Decidable.not_not.mp c_11))
      refine lv_aload hx hb dX3_putSeal_14 (lv_at hl 0 rfl) ?_
      refine lv_ifnonnull (tgt := 21) hx hb dX3_putSeal_16 (by decide) ?_
      refine lv_iload_n hx hb dX3_putSeal_21 rfl (lv_at hl 4 rfl) ?_
      refine lv_iconst (v := (-1 : Int32)) hx hb dX3_putSeal_22 (by decide) ?_
      refine lv_icmp_eq (tgt := 44) hx hb dX3_putSeal_23 (by decide) (fun c_23 => ?_) (fun c_23 => ?_)
      · refine lv_aload hx hb dX3_putSeal_44 (lv_at hl 0 rfl) ?_
        refine fa_getr (k := q1130) (j := q1130 + 1) CX HX1136 fl_X3_102 (fa_isF_lt hB hq1130 hn) (fa_isF_sh hB hq1130) rfl (fa_isF_ref hr hq1130) dX3_putSeal_46 ?_
        refine lv_iload_n hx hb dX3_putSeal_49 rfl (lv_at hl 2 rfl) ?_
        rw [show a1 = nI (jh) from ejh]
        refine lv_iload_n hx hb dX3_putSeal_50 rfl (lv_at hl 4 rfl) ?_
        refine lv_iconst (v := (-1 : Int32)) hx hb dX3_putSeal_51 (by decide) ?_
        refine lv_icmp_ne (tgt := 61) hx hb dX3_putSeal_52 (by decide) (fun c_52 => ?_) (fun c_52 => ?_)
        · refine lv_iload_n hx hb dX3_putSeal_61 rfl (lv_at hl 4 rfl) ?_
          refine fa_iast (k := q1130 + 1) (j := jh) CX HX1136 (fa_isF_lt1 hB hq1130 hn) (fa_isF_sh1 hB hq1130) (by omega) (by first | decide | assumption) dX3_putSeal_62 (fun H locs v1137 e1138 HX1139 => ?_)
          refine lv_aload hx hb dX3_putSeal_63 (lv_at hl 0 rfl) ?_
          refine lv_aload_n hx hb dX3_putSeal_65 rfl (lv_at hl 1 rfl) ?_
          refine fa_geti (k := b) CX HX1139 fl_X3_45 (fa_lt hB 0 (by decide) hn) (fa_s0 hB) rfl dX3_putSeal_66 ?_
          refine fa_callVip (As := [.int (v1137 b 0)]) (rest := []) CX HX1139 (g_holdersOn l G n hn v1137 r b hB hr (by rw [e1138]; exact fa_IS.u hI (Or.inr (Or.inr (Or.inl (fa_isF.seal hq1130))))) q1130 (v1137 b 0) hq1130 ) ln_X3_105 (fa_isF_lt hB hq1130 hn) (fa_isF_sh hB hq1130) rfl rfl rfl (Nat.le_of_ble_eq_true rfl) hl.1 ⟨Nat.le_of_ble_eq_true rfl, Nat.le_of_ble_eq_true rfl⟩ ⟨Nat.le_refl _, Nat.le_refl _⟩ dX3_putSeal_69 (fun x1141 H locs h1140 HX1142 => ?_)
          have h_holdersOn := h1140
          refine fa_callSip (As := [.int (x1141)]) (rest := []) CX HX1142 (g_bitCount l G n v1137 r (x1141)) ln_X3_109 rfl rfl (Nat.le_of_ble_eq_true rfl) hl.1 ⟨Nat.le_of_ble_eq_true rfl, Nat.le_of_ble_eq_true rfl⟩ ⟨Nat.le_refl _, Nat.le_refl _⟩ dX3_putSeal_72 (fun x1144 H locs h1143 HX1145 => ?_)
          have h_bitCount := h1143
          exact RET _ _ _ _ _ _ _ HX1145 dX3_putSeal_75 (⟨rfl, ⟨⟨(fun A hok hc => by (obtain ⟨p, hp, eq, ix, -⟩ := hc.find1 hf_q1130; exact absurd c_23 c_52)), (by rw [e1138]; exact fa_IS.u hI (Or.inr (Or.inr (Or.inl (fa_isF.seal hq1130)))))⟩, (by rw [e1138]; exact fa_fr.u fa_fr.rf (by omega))⟩⟩)
        · refine lv_sipush (v := nI (10000)) hx hb dX3_putSeal_55 (by decide) ?_
          refine lv_goto (tgt := 62) hx hb dX3_putSeal_58 (by decide) ?_
          refine fa_iast (k := q1130 + 1) (j := jh) CX HX1136 (fa_isF_lt1 hB hq1130 hn) (fa_isF_sh1 hB hq1130) (by omega) (by first | decide | assumption) dX3_putSeal_62 (fun H locs v1146 e1147 HX1148 => ?_)
          refine lv_aload hx hb dX3_putSeal_63 (lv_at hl 0 rfl) ?_
          refine lv_aload_n hx hb dX3_putSeal_65 rfl (lv_at hl 1 rfl) ?_
          refine fa_geti (k := b) CX HX1148 fl_X3_45 (fa_lt hB 0 (by decide) hn) (fa_s0 hB) rfl dX3_putSeal_66 ?_
          refine fa_callVip (As := [.int (v1146 b 0)]) (rest := []) CX HX1148 (g_holdersOn l G n hn v1146 r b hB hr (by rw [e1147]; exact fa_IS.u hI (Or.inr (Or.inr (Or.inl (fa_isF.seal hq1130))))) q1130 (v1146 b 0) hq1130 ) ln_X3_105 (fa_isF_lt hB hq1130 hn) (fa_isF_sh hB hq1130) rfl rfl rfl (Nat.le_of_ble_eq_true rfl) hl.1 ⟨Nat.le_of_ble_eq_true rfl, Nat.le_of_ble_eq_true rfl⟩ ⟨Nat.le_refl _, Nat.le_refl _⟩ dX3_putSeal_69 (fun x1150 H locs h1149 HX1151 => ?_)
          have h_holdersOn := h1149
          refine fa_callSip (As := [.int (x1150)]) (rest := []) CX HX1151 (g_bitCount l G n v1146 r (x1150)) ln_X3_109 rfl rfl (Nat.le_of_ble_eq_true rfl) hl.1 ⟨Nat.le_of_ble_eq_true rfl, Nat.le_of_ble_eq_true rfl⟩ ⟨Nat.le_refl _, Nat.le_refl _⟩ dX3_putSeal_72 (fun x1153 H locs h1152 HX1154 => ?_)
          have h_bitCount := h1152
          exact RET _ _ _ _ _ _ _ HX1154 dX3_putSeal_75 (⟨rfl, ⟨⟨(fun A hok hc => by (obtain ⟨p, hp, eq, ix, -⟩ := hc.find1 hf_q1130; have hw : (nI 10000 : Int32) + 1 = nI 10001 := (by decide); have z := fb_c_seal (v1 := v1146) hok hc hp hjh (by decide) hw (by rw [← eq]; exact e1147) (by rw [← eq]; exact h_holdersOn) h_bitCount; exact fb_rs (fb_sealA_s ix (fa_ifn h_ns (by first | exact c_11 | exact Decidable.not_not.mp c_11)) (fun z => z.1 c_23) ejh hjh (hw.trans (if_pos (by first | exact c_52 | exact Decidable.not_not.mp c_52 | exact c_23)).symm)) z.1 z.2)), (by rw [e1147]; exact fa_IS.u hI (Or.inr (Or.inr (Or.inl (fa_isF.seal hq1130)))))⟩, (by rw [e1147]; exact fa_fr.u fa_fr.rf (by omega))⟩⟩)
      · refine lv_iload_n hx hb dX3_putSeal_26 rfl (lv_at hl 4 rfl) ?_
        refine lv_aload_n hx hb dX3_putSeal_27 rfl (lv_at hl 1 rfl) ?_
        refine fa_geti (k := b) CX HX1136 fl_X3_45 (fa_lt hB 0 (by decide) hn) (fa_s0 hB) rfl dX3_putSeal_28 ?_
        refine lv_icmp_lt (tgt := 41) hx hb dX3_putSeal_31 (by decide) (fun c_31 => ?_) (fun c_31 => ?_)
        · refine lv_bipush (v := (-2 : Int32)) hx hb dX3_putSeal_41 (by decide) ?_
          exact RET _ _ _ _ _ _ _ HX1136 dX3_putSeal_43 (⟨rfl, ⟨⟨(fun A hok hc => by (obtain ⟨p, hp, eq, ix, -⟩ := hc.find1 hf_q1130; exact fb_rs (fb_sealA_b ix (fa_ifn h_ns (by first | exact c_11 | exact Decidable.not_not.mp c_11)) ⟨c_23, Or.inl (by rw [← hc.now]; exact c_31)⟩) rfl hc)), hI⟩, fa_fr.rf⟩⟩)
        · refine lv_iload_n hx hb dX3_putSeal_34 rfl (lv_at hl 4 rfl) ?_
          refine lv_sipush (v := nI (9999)) hx hb dX3_putSeal_35 (by decide) ?_
          refine lv_icmp_le (tgt := 44) hx hb dX3_putSeal_38 (by decide) (fun c_38 => ?_) (fun c_38 => ?_)
          · refine lv_aload hx hb dX3_putSeal_44 (lv_at hl 0 rfl) ?_
            refine fa_getr (k := q1130) (j := q1130 + 1) CX HX1136 fl_X3_102 (fa_isF_lt hB hq1130 hn) (fa_isF_sh hB hq1130) rfl (fa_isF_ref hr hq1130) dX3_putSeal_46 ?_
            refine lv_iload_n hx hb dX3_putSeal_49 rfl (lv_at hl 2 rfl) ?_
            rw [show a1 = nI (jh) from ejh]
            refine lv_iload_n hx hb dX3_putSeal_50 rfl (lv_at hl 4 rfl) ?_
            refine lv_iconst (v := (-1 : Int32)) hx hb dX3_putSeal_51 (by decide) ?_
            refine lv_icmp_ne (tgt := 61) hx hb dX3_putSeal_52 (by decide) (fun c_52 => ?_) (fun c_52 => ?_)
            · refine lv_iload_n hx hb dX3_putSeal_61 rfl (lv_at hl 4 rfl) ?_
              refine fa_iast (k := q1130 + 1) (j := jh) CX HX1136 (fa_isF_lt1 hB hq1130 hn) (fa_isF_sh1 hB hq1130) (by omega) (by first | decide | assumption) dX3_putSeal_62 (fun H locs v1155 e1156 HX1157 => ?_)
              refine lv_aload hx hb dX3_putSeal_63 (lv_at hl 0 rfl) ?_
              refine lv_aload_n hx hb dX3_putSeal_65 rfl (lv_at hl 1 rfl) ?_
              refine fa_geti (k := b) CX HX1157 fl_X3_45 (fa_lt hB 0 (by decide) hn) (fa_s0 hB) rfl dX3_putSeal_66 ?_
              refine fa_callVip (As := [.int (v1155 b 0)]) (rest := []) CX HX1157 (g_holdersOn l G n hn v1155 r b hB hr (by rw [e1156]; exact fa_IS.u hI (Or.inr (Or.inr (Or.inl (fa_isF.seal hq1130))))) q1130 (v1155 b 0) hq1130 ) ln_X3_105 (fa_isF_lt hB hq1130 hn) (fa_isF_sh hB hq1130) rfl rfl rfl (Nat.le_of_ble_eq_true rfl) hl.1 ⟨Nat.le_of_ble_eq_true rfl, Nat.le_of_ble_eq_true rfl⟩ ⟨Nat.le_refl _, Nat.le_refl _⟩ dX3_putSeal_69 (fun x1159 H locs h1158 HX1160 => ?_)
              have h_holdersOn := h1158
              refine fa_callSip (As := [.int (x1159)]) (rest := []) CX HX1160 (g_bitCount l G n v1155 r (x1159)) ln_X3_109 rfl rfl (Nat.le_of_ble_eq_true rfl) hl.1 ⟨Nat.le_of_ble_eq_true rfl, Nat.le_of_ble_eq_true rfl⟩ ⟨Nat.le_refl _, Nat.le_refl _⟩ dX3_putSeal_72 (fun x1162 H locs h1161 HX1163 => ?_)
              have h_bitCount := h1161
              exact RET _ _ _ _ _ _ _ HX1163 dX3_putSeal_75 (⟨rfl, ⟨⟨(fun A hok hc => by (obtain ⟨p, hp, eq, ix, -⟩ := hc.find1 hf_q1130; obtain ⟨e, he, hw⟩ := fb_last_ok hok.1.2.1 (by rw [← hc.now]; exact c_31) c_38; have z := fb_c_seal (v1 := v1155) hok hc hp hjh (by omega) hw (by rw [← eq]; exact e1156) (by rw [← eq]; exact h_holdersOn) h_bitCount; exact fb_rs (fb_sealA_s ix (fa_ifn h_ns (by first | exact c_11 | exact Decidable.not_not.mp c_11)) (fun z => z.2.elim (fun z => c_31 (by rw [hc.now]; exact z)) (fun z => Int32.not_lt.mpr c_38 z)) ejh hjh (if_neg c_52).symm) z.1 z.2)), (by rw [e1156]; exact fa_IS.u hI (Or.inr (Or.inr (Or.inl (fa_isF.seal hq1130)))))⟩, (by rw [e1156]; exact fa_fr.u fa_fr.rf (by omega))⟩⟩)
            · refine lv_sipush (v := nI (10000)) hx hb dX3_putSeal_55 (by decide) ?_
              refine lv_goto (tgt := 62) hx hb dX3_putSeal_58 (by decide) ?_
              refine fa_iast (k := q1130 + 1) (j := jh) CX HX1136 (fa_isF_lt1 hB hq1130 hn) (fa_isF_sh1 hB hq1130) (by omega) (by first | decide | assumption) dX3_putSeal_62 (fun H locs v1164 e1165 HX1166 => ?_)
              refine lv_aload hx hb dX3_putSeal_63 (lv_at hl 0 rfl) ?_
              refine lv_aload_n hx hb dX3_putSeal_65 rfl (lv_at hl 1 rfl) ?_
              refine fa_geti (k := b) CX HX1166 fl_X3_45 (fa_lt hB 0 (by decide) hn) (fa_s0 hB) rfl dX3_putSeal_66 ?_
              refine fa_callVip (As := [.int (v1164 b 0)]) (rest := []) CX HX1166 (g_holdersOn l G n hn v1164 r b hB hr (by rw [e1165]; exact fa_IS.u hI (Or.inr (Or.inr (Or.inl (fa_isF.seal hq1130))))) q1130 (v1164 b 0) hq1130 ) ln_X3_105 (fa_isF_lt hB hq1130 hn) (fa_isF_sh hB hq1130) rfl rfl rfl (Nat.le_of_ble_eq_true rfl) hl.1 ⟨Nat.le_of_ble_eq_true rfl, Nat.le_of_ble_eq_true rfl⟩ ⟨Nat.le_refl _, Nat.le_refl _⟩ dX3_putSeal_69 (fun x1168 H locs h1167 HX1169 => ?_)
              have h_holdersOn := h1167
              refine fa_callSip (As := [.int (x1168)]) (rest := []) CX HX1169 (g_bitCount l G n v1164 r (x1168)) ln_X3_109 rfl rfl (Nat.le_of_ble_eq_true rfl) hl.1 ⟨Nat.le_of_ble_eq_true rfl, Nat.le_of_ble_eq_true rfl⟩ ⟨Nat.le_refl _, Nat.le_refl _⟩ dX3_putSeal_72 (fun x1171 H locs h1170 HX1172 => ?_)
              have h_bitCount := h1170
              exact RET _ _ _ _ _ _ _ HX1172 dX3_putSeal_75 (⟨rfl, ⟨⟨(fun A hok hc => by (obtain ⟨p, hp, eq, ix, -⟩ := hc.find1 hf_q1130; exact absurd (by first | exact c_52 | exact Decidable.not_not.mp c_52) c_23)), (by rw [e1165]; exact fa_IS.u hI (Or.inr (Or.inr (Or.inl (fa_isF.seal hq1130)))))⟩, (by rw [e1165]; exact fa_fr.u fa_fr.rf (by omega))⟩⟩)
          · refine lv_bipush (v := (-2 : Int32)) hx hb dX3_putSeal_41 (by decide) ?_
            exact RET _ _ _ _ _ _ _ HX1136 dX3_putSeal_43 (⟨rfl, ⟨⟨(fun A hok hc => by (obtain ⟨p, hp, eq, ix, -⟩ := hc.find1 hf_q1130; exact fb_rs (fb_sealA_b ix (fa_ifn h_ns (by first | exact c_11 | exact Decidable.not_not.mp c_11)) ⟨c_23, Or.inr (Int32.not_le.mp c_38)⟩) rfl hc)), hI⟩, fa_fr.rf⟩⟩)
set_option maxHeartbeats 4000000 in
set_option maxRecDepth 100000 in
theorem g_takeSeal (l : Launch) (G : fa_G) (n : Nat) (hn : 397 ≤ n) (v : fa_V) (r : fa_R) (b : Nat) (hB : b ∈ fa_bs) (hr : fa_RS r b) (hI : fa_IS v b) (a1 : Int32) (a2 : Int32) : fa_MI l G n yX3_takeSeal cX3_takeSeal 4 (some .int) 2 [.ref (fa_B G + (b)), .int (a1), .int (a2)] v r (fa_voi r (fun x v1 => ((∀ A, fb_okA A → fb_cA v r b A → x = (fb_liftA A a1 a2).1 ∧ fb_cA v1 r b (fb_liftA A a1 a2).2) ∧ fa_IS v1 b) ∧ (fa_fr (b) (b + 56) v v1))) := by
  refine fa_startI (by decide +kernel) (Nat.le_of_ble_eq_true rfl) (fun p e s m args below meth c ls Q CX hl HX RET => ?_)
  have hl : lv_has ls 4 [(0, .ref (fa_B G + (b))), (1, .int (a1)), (2, .int (a2))] := hl
  have hx := CX.1.1
  have hb := CX.1.2.1
  refine lv_aload_n hx hb dX3_takeSeal_0 rfl (lv_at hl 0 rfl) ?_
  refine lv_iload_n hx hb dX3_takeSeal_1 rfl (lv_at hl 2 rfl) ?_
  refine fa_callVrp (As := [.int (a2)]) (rest := []) CX HX (g_find l G n hn v r b hB hr hI (a2) ) ln_X3_88 (fa_lt hB 0 (by decide) hn) (fa_s0 hB) rfl rfl rfl (Nat.le_of_ble_eq_true rfl) hl.1 ⟨Nat.le_of_ble_eq_true rfl, Nat.le_of_ble_eq_true rfl⟩ ⟨Nat.le_refl _, Nat.le_refl _⟩ dX3_takeSeal_2 (fun H locs h1173 HX1174 => ?_) (fun q1175 H locs h1173 HX1174 => ?_)
  · have hf_none := h1173.2 rfl
    refine lv_astore_nN (lv' := [(3, .null), (0, .ref (fa_B G + (b))), (1, .int (a1)), (2, .int (a2))]) hx hb dX3_takeSeal_5 rfl hl (by decide) rfl (fun ls hl => ?_)
    refine lv_iload_n hx hb dX3_takeSeal_6 rfl (lv_at hl 2 rfl) ?_
    refine fa_callSNip (As := [.int (a1)]) (rest := []) CX HX1174 (c_X6_isNoHolder l G n v r (a1)) (by decide +kernel) ln_X3_98 rfl rfl (Nat.le_of_ble_eq_true rfl) hl.1 ⟨Nat.le_of_ble_eq_true rfl, Nat.le_of_ble_eq_true rfl⟩ ⟨Nat.le_refl _, Nat.le_refl _⟩ dX3_takeSeal_7 (fun x1177 H locs h1176 HX1178 => ?_)
    have h_ns := h1176
    refine lv_if_ne (tgt := 27) hx hb dX3_takeSeal_10 (by decide) (fun c_10 => ?_) (fun c_10 => ?_)
    · refine lv_iconst (v := (-1 : Int32)) hx hb dX3_takeSeal_27 (by decide) ?_
      exact RET _ _ _ _ _ _ _ HX1178 dX3_takeSeal_28 (⟨rfl, ⟨⟨(fun A hok hc => fb_rs (fb_liftA_n (hc.find0 hf_none)) rfl hc), hI⟩, fa_fr.rf⟩⟩)
    · obtain ⟨jh, hjh, ejh⟩ := fa_ix7 (by decide) (fa_ifn h_ns (by first | exact c_10 | exact Decidable.not_not.mp c_10))
      refine lv_aload_nN hx hb dX3_takeSeal_13 rfl (lv_at hl 0 rfl) ?_
      refine lv_ifnullN (tgt := 27) hx hb dX3_takeSeal_14 (by decide) ?_
      refine lv_iconst (v := (-1 : Int32)) hx hb dX3_takeSeal_27 (by decide) ?_
      exact RET _ _ _ _ _ _ _ HX1178 dX3_takeSeal_28 (⟨rfl, ⟨⟨(fun A hok hc => fb_rs (fb_liftA_n (hc.find0 hf_none)) rfl hc), hI⟩, fa_fr.rf⟩⟩)
  · have hf_q1175 := h1173.1 q1175 rfl
    have hq1175 := hf_q1175.1
    have hiq1175 := fa_isF_in hq1175
    refine lv_astore_n (lv' := [(3, .ref (fa_B G + (q1175))), (0, .ref (fa_B G + (b))), (1, .int (a1)), (2, .int (a2))]) hx hb dX3_takeSeal_5 rfl hl (by decide) rfl (fun ls hl => ?_)
    refine lv_iload_n hx hb dX3_takeSeal_6 rfl (lv_at hl 2 rfl) ?_
    refine fa_callSNip (As := [.int (a1)]) (rest := []) CX HX1174 (c_X6_isNoHolder l G n v r (a1)) (by decide +kernel) ln_X3_98 rfl rfl (Nat.le_of_ble_eq_true rfl) hl.1 ⟨Nat.le_of_ble_eq_true rfl, Nat.le_of_ble_eq_true rfl⟩ ⟨Nat.le_refl _, Nat.le_refl _⟩ dX3_takeSeal_7 (fun x1180 H locs h1179 HX1181 => ?_)
    have h_ns := h1179
    refine lv_if_ne (tgt := 27) hx hb dX3_takeSeal_10 (by decide) (fun c_10 => ?_) (fun c_10 => ?_)
    · refine lv_iconst (v := (-1 : Int32)) hx hb dX3_takeSeal_27 (by decide) ?_
      exact RET _ _ _ _ _ _ _ HX1181 dX3_takeSeal_28 (⟨rfl, ⟨⟨(fun A hok hc => by (obtain ⟨p, hp, eq, ix, -⟩ := hc.find1 hf_q1175; exact fb_rs (fb_liftA_h ix (fa_ift h_ns (by first | exact c_10 | exact Decidable.not_not.mp c_10))) rfl hc)), hI⟩, fa_fr.rf⟩⟩)
    · obtain ⟨jh, hjh, ejh⟩ := fa_ix7 (by decide) (fa_ifn h_ns (by first | exact c_10 | exact Decidable.not_not.mp c_10))
      refine lv_aload_n hx hb dX3_takeSeal_13 rfl (lv_at hl 0 rfl) ?_
      refine lv_ifnull hx hb dX3_takeSeal_14 ?_
      refine lv_aload_n hx hb dX3_takeSeal_17 rfl (lv_at hl 0 rfl) ?_
      refine fa_getr (k := q1175) (j := q1175 + 1) CX HX1181 fl_X3_102 (fa_isF_lt hB hq1175 hn) (fa_isF_sh hB hq1175) rfl (fa_isF_ref hr hq1175) dX3_takeSeal_18 ?_
      refine lv_iload_n hx hb dX3_takeSeal_21 rfl (lv_at hl 2 rfl) ?_
      rw [show a1 = nI (jh) from ejh]
      refine fa_iald (k := q1175 + 1) (j := jh) CX HX1181 (fa_isF_lt1 hB hq1175 hn) (fa_isF_sh1 hB hq1175) (by omega) (by first | decide | assumption) dX3_takeSeal_22 ?_
      refine lv_iconst (v := (-1 : Int32)) hx hb dX3_takeSeal_23 (by decide) ?_
      refine lv_icmp_ne (tgt := 29) hx hb dX3_takeSeal_24 (by decide) (fun c_24 => ?_) (fun c_24 => ?_)
      · refine lv_aload_n hx hb dX3_takeSeal_29 rfl (lv_at hl 0 rfl) ?_
        refine fa_getr (k := q1175) (j := q1175 + 1) CX HX1181 fl_X3_102 (fa_isF_lt hB hq1175 hn) (fa_isF_sh hB hq1175) rfl (fa_isF_ref hr hq1175) dX3_takeSeal_30 ?_
        refine lv_iload_n hx hb dX3_takeSeal_33 rfl (lv_at hl 2 rfl) ?_
        rw [show a1 = nI (jh) from ejh]
        refine lv_iconst (v := (-1 : Int32)) hx hb dX3_takeSeal_34 (by decide) ?_
        refine fa_iast (k := q1175 + 1) (j := jh) CX HX1181 (fa_isF_lt1 hB hq1175 hn) (fa_isF_sh1 hB hq1175) (by omega) (by first | decide | assumption) dX3_takeSeal_35 (fun H locs v1182 e1183 HX1184 => ?_)
        refine lv_aload_n hx hb dX3_takeSeal_36 rfl (lv_at hl 0 rfl) ?_
        refine lv_aload_n hx hb dX3_takeSeal_37 rfl (lv_at hl 1 rfl) ?_
        refine fa_geti (k := b) CX HX1184 fl_X3_45 (fa_lt hB 0 (by decide) hn) (fa_s0 hB) rfl dX3_takeSeal_38 ?_
        refine fa_callVip (As := [.int (v1182 b 0)]) (rest := []) CX HX1184 (g_holdersOn l G n hn v1182 r b hB hr (by rw [e1183]; exact fa_IS.u hI (Or.inr (Or.inr (Or.inl (fa_isF.seal hq1175))))) q1175 (v1182 b 0) hq1175 ) ln_X3_105 (fa_isF_lt hB hq1175 hn) (fa_isF_sh hB hq1175) rfl rfl rfl (Nat.le_of_ble_eq_true rfl) hl.1 ⟨Nat.le_of_ble_eq_true rfl, Nat.le_of_ble_eq_true rfl⟩ ⟨Nat.le_refl _, Nat.le_refl _⟩ dX3_takeSeal_41 (fun x1186 H locs h1185 HX1187 => ?_)
        have h_holdersOn := h1185
        refine fa_callSip (As := [.int (x1186)]) (rest := []) CX HX1187 (g_bitCount l G n v1182 r (x1186)) ln_X3_109 rfl rfl (Nat.le_of_ble_eq_true rfl) hl.1 ⟨Nat.le_of_ble_eq_true rfl, Nat.le_of_ble_eq_true rfl⟩ ⟨Nat.le_refl _, Nat.le_refl _⟩ dX3_takeSeal_44 (fun x1189 H locs h1188 HX1190 => ?_)
        have h_bitCount := h1188
        exact RET _ _ _ _ _ _ _ HX1190 dX3_takeSeal_47 (⟨rfl, ⟨⟨(fun A hok hc => by (obtain ⟨p, hp, eq, ix, -⟩ := hc.find1 hf_q1175; have z := fb_c_seal (v1 := v1182) (w := (-1 : Int32)) hok hc hp hjh (e := 0) (by decide) (by decide) (by rw [← eq]; exact e1183) (by rw [← eq]; exact h_holdersOn) h_bitCount; rw [show (-1 : Int32) + 1 = 0 by decide] at z; exact fb_rs (fb_liftA_s ix (fa_ifn h_ns (by first | exact c_10 | exact Decidable.not_not.mp c_10)) ejh hjh (fun y => c_24 (by rw [← hc.s hp hjh, ← eq] at y; exact fb_m1 y))) z.1 z.2)), (by rw [e1183]; exact fa_IS.u hI (Or.inr (Or.inr (Or.inl (fa_isF.seal hq1175)))))⟩, (by rw [e1183]; exact fa_fr.u fa_fr.rf (by omega))⟩⟩)
      · refine lv_iconst (v := (-1 : Int32)) hx hb dX3_takeSeal_27 (by decide) ?_
        exact RET _ _ _ _ _ _ _ HX1181 dX3_takeSeal_28 (⟨rfl, ⟨⟨(fun A hok hc => by (obtain ⟨p, hp, eq, ix, -⟩ := hc.find1 hf_q1175; exact fb_rs (fb_liftA_0 ix (fa_ifn h_ns (by first | exact c_10 | exact Decidable.not_not.mp c_10)) ejh hjh (by rw [← hc.s hp hjh, ← eq, show v (_ + 1) jh = (-1 : Int32) from (by first | exact c_24 | exact Decidable.not_not.mp c_24)]; decide)) rfl hc)), hI⟩, fa_fr.rf⟩⟩)
set_option maxHeartbeats 4000000 in
set_option maxRecDepth 100000 in
theorem g_putReference (l : Launch) (G : fa_G) (n : Nat) (hn : 397 ≤ n) (v : fa_V) (r : fa_R) (b : Nat) (hB : b ∈ fa_bs) (hr : fa_RS r b) (hI : fa_IS v b) (a1 : Int32) (a2 : Int32) : fa_MI l G n yX3_putReference cX3_putReference 4 (some .int) 2 [.ref (fa_B G + (b)), .int (a1), .int (a2)] v r (fa_voi r (fun x v1 => ((∀ A, fb_okA A → fb_cA v r b A → x = (fb_refA A a1 a2).1 ∧ fb_cA v1 r b (fb_refA A a1 a2).2) ∧ fa_IS v1 b) ∧ (fa_fr (b) (b + 56) v v1))) := by
  refine fa_startI (by decide +kernel) (Nat.le_of_ble_eq_true rfl) (fun p e s m args below meth c ls Q CX hl HX RET => ?_)
  have hl : lv_has ls 4 [(0, .ref (fa_B G + (b))), (1, .int (a1)), (2, .int (a2))] := hl
  have hx := CX.1.1
  have hb := CX.1.2.1
  refine lv_aload_n hx hb dX3_putReference_0 rfl (lv_at hl 0 rfl) ?_
  refine lv_iload_n hx hb dX3_putReference_1 rfl (lv_at hl 1 rfl) ?_
  refine fa_callVrp (As := [.int (a1)]) (rest := []) CX HX (g_find l G n hn v r b hB hr hI (a1) ) ln_X3_88 (fa_lt hB 0 (by decide) hn) (fa_s0 hB) rfl rfl rfl (Nat.le_of_ble_eq_true rfl) hl.1 ⟨Nat.le_of_ble_eq_true rfl, Nat.le_of_ble_eq_true rfl⟩ ⟨Nat.le_refl _, Nat.le_refl _⟩ dX3_putReference_2 (fun H locs h1191 HX1192 => ?_) (fun q1193 H locs h1191 HX1192 => ?_)
  · have hf_none := h1191.2 rfl
    refine lv_astore_nN (lv' := [(3, .null), (0, .ref (fa_B G + (b))), (1, .int (a1)), (2, .int (a2))]) hx hb dX3_putReference_5 rfl hl (by decide) rfl (fun ls hl => ?_)
    refine lv_aload_nN hx hb dX3_putReference_6 rfl (lv_at hl 0 rfl) ?_
    refine lv_ifnullN (tgt := 18) hx hb dX3_putReference_7 (by decide) ?_
    refine lv_iconst (v := (-1 : Int32)) hx hb dX3_putReference_18 (by decide) ?_
    exact RET _ _ _ _ _ _ _ HX1192 dX3_putReference_19 (⟨rfl, ⟨⟨(fun A hok hc => fb_rs (fb_refA_n (hc.find0 hf_none)) rfl hc), hI⟩, fa_fr.rf⟩⟩)
  · have hf_q1193 := h1191.1 q1193 rfl
    have hq1193 := hf_q1193.1
    have hiq1193 := fa_isF_in hq1193
    refine lv_astore_n (lv' := [(3, .ref (fa_B G + (q1193))), (0, .ref (fa_B G + (b))), (1, .int (a1)), (2, .int (a2))]) hx hb dX3_putReference_5 rfl hl (by decide) rfl (fun ls hl => ?_)
    refine lv_aload_n hx hb dX3_putReference_6 rfl (lv_at hl 0 rfl) ?_
    refine lv_ifnull hx hb dX3_putReference_7 ?_
    refine lv_aload_n hx hb dX3_putReference_10 rfl (lv_at hl 1 rfl) ?_
    refine lv_iload_n hx hb dX3_putReference_11 rfl (lv_at hl 3 rfl) ?_
    refine fa_callVrp (As := [.int (a2)]) (rest := []) CX HX1192 (g_find l G n hn v r b hB hr hI (a2) ) ln_X3_88 (fa_lt hB 0 (by decide) hn) (fa_s0 hB) rfl rfl rfl (Nat.le_of_ble_eq_true rfl) hl.1 ⟨Nat.le_of_ble_eq_true rfl, Nat.le_of_ble_eq_true rfl⟩ ⟨Nat.le_refl _, Nat.le_refl _⟩ dX3_putReference_12 (fun H locs h1194 HX1195 => ?_) (fun q1196 H locs h1194 HX1195 => ?_)
    · have hf_none := h1194.2 rfl
      refine lv_ifnonnullN hx hb dX3_putReference_15 ?_
      refine lv_iconst (v := (-1 : Int32)) hx hb dX3_putReference_18 (by decide) ?_
      exact RET _ _ _ _ _ _ _ HX1195 dX3_putReference_19 (⟨rfl, ⟨⟨(fun A hok hc => by (obtain ⟨p, hp, eq, ix, -⟩ := hc.find1 hf_q1193; exact fb_rs (fb_refA_m ix (hc.find0 hf_none)) rfl hc)), hI⟩, fa_fr.rf⟩⟩)
    · have hf_q1196 := h1194.1 q1196 rfl
      have hq1196 := hf_q1196.1
      have hiq1196 := fa_isF_in hq1196
      refine lv_ifnonnull (tgt := 20) hx hb dX3_putReference_15 (by decide) ?_
      refine lv_aload_n hx hb dX3_putReference_20 rfl (lv_at hl 0 rfl) ?_
      refine lv_iload_n hx hb dX3_putReference_21 rfl (lv_at hl 3 rfl) ?_
      refine fa_puti (k := q1193) CX HX1195 fl_X3_114 (fa_isF_lt hB hq1193 hn) (fa_isF_sh hB hq1193) rfl rfl rfl dX3_putReference_22 (fun H locs v1197 e1198 HX1199 => ?_)
      refine lv_aload_n hx hb dX3_putReference_25 rfl (lv_at hl 1 rfl) ?_
      refine lv_iload_n hx hb dX3_putReference_26 rfl (lv_at hl 3 rfl) ?_
      refine fa_callVip (As := [.int (a2)]) (rest := []) CX HX1199 (g_referrersOf l G n hn v1197 r b hB hr (by rw [e1198]; exact fa_IS.u hI (Or.inr (Or.inl ⟨hq1193, by decide⟩))) (a2) ) ln_X3_117 (fa_lt hB 0 (by decide) hn) (fa_s0 hB) rfl rfl rfl (Nat.le_of_ble_eq_true rfl) hl.1 ⟨Nat.le_of_ble_eq_true rfl, Nat.le_of_ble_eq_true rfl⟩ ⟨Nat.le_refl _, Nat.le_refl _⟩ dX3_putReference_27 (fun x1201 H locs h1200 HX1202 => ?_)
      have h_referrersOf := h1200
      exact RET _ _ _ _ _ _ _ HX1202 dX3_putReference_30 (⟨rfl, ⟨⟨(fun A hok hc => by (obtain ⟨p, hp, eq, ix, -⟩ := hc.find1 hf_q1193; obtain ⟨k, hk, -, ix2, ek⟩ := hc.find1 hf_q1196; have z := fb_c_ref (v1 := v1197) hok hc hp hk ek (by rw [← eq]; exact e1198); exact fb_rs (fb_refA_s ix ix2) (h_referrersOf.trans (z.1.refs z.2)) z.1)), (by rw [e1198]; exact fa_IS.u hI (Or.inr (Or.inl ⟨hq1193, by decide⟩)))⟩, (by rw [e1198]; exact fa_fr.u fa_fr.rf (by omega))⟩⟩)
set_option maxHeartbeats 4000000 in
set_option maxRecDepth 100000 in
theorem g_putReservation (l : Launch) (G : fa_G) (n : Nat) (hn : 397 ≤ n) (v : fa_V) (r : fa_R) (b : Nat) (hB : b ∈ fa_bs) (hr : fa_RS r b) (hI : fa_IS v b) (a1 : Int32) (a2 : Int32) : fa_MI l G n yX3_putReservation cX3_putReservation 3 (some .int) 3 [.ref (fa_B G + (b)), .int (a1), .int (a2)] v r (fa_voi r (fun x v1 => ((∀ A, fb_okA A → fb_cA v r b A → x = (fb_resA A a1 a2).1 ∧ fb_cA v1 r b (fb_resA A a1 a2).2) ∧ fa_IS v1 b) ∧ (fa_fr (b) (b + 56) v v1))) := by
  refine fa_startI (by decide +kernel) (Nat.le_of_ble_eq_true rfl) (fun p e s m args below meth c ls Q CX hl HX RET => ?_)
  have hl : lv_has ls 3 [(0, .ref (fa_B G + (b))), (1, .int (a1)), (2, .int (a2))] := hl
  have hx := CX.1.1
  have hb := CX.1.2.1
  refine lv_aload_n hx hb dX3_putReservation_0 rfl (lv_at hl 0 rfl) ?_
  refine lv_iload_n hx hb dX3_putReservation_1 rfl (lv_at hl 1 rfl) ?_
  refine fa_callVrp (As := [.int (a1)]) (rest := []) CX HX (g_find l G n hn v r b hB hr hI (a1) ) ln_X3_88 (fa_lt hB 0 (by decide) hn) (fa_s0 hB) rfl rfl rfl (Nat.le_of_ble_eq_true rfl) hl.1 ⟨Nat.le_of_ble_eq_true rfl, Nat.le_of_ble_eq_true rfl⟩ ⟨Nat.le_refl _, Nat.le_refl _⟩ dX3_putReservation_2 (fun H locs h1203 HX1204 => ?_) (fun q1205 H locs h1203 HX1204 => ?_)
  · have hf_none := h1203.2 rfl
    refine lv_ifnonnullN hx hb dX3_putReservation_5 ?_
    refine lv_iconst (v := (-1 : Int32)) hx hb dX3_putReservation_8 (by decide) ?_
    exact RET _ _ _ _ _ _ _ HX1204 dX3_putReservation_9 (⟨rfl, ⟨⟨(fun A hok hc => fb_rs (fb_resA_n (hc.find0 hf_none)) rfl hc), hI⟩, fa_fr.rf⟩⟩)
  · have hf_q1205 := h1203.1 q1205 rfl
    have hq1205 := hf_q1205.1
    have hiq1205 := fa_isF_in hq1205
    refine lv_ifnonnull (tgt := 10) hx hb dX3_putReservation_5 (by decide) ?_
    refine lv_iload_n hx hb dX3_putReservation_10 rfl (lv_at hl 2 rfl) ?_
    refine lv_aload_n hx hb dX3_putReservation_11 rfl (lv_at hl 0 rfl) ?_
    refine fa_geti (k := b) CX HX1204 fl_X3_45 (fa_lt hB 0 (by decide) hn) (fa_s0 hB) rfl dX3_putReservation_12 ?_
    refine lv_icmp_le (tgt := 25) hx hb dX3_putReservation_15 (by decide) (fun c_15 => ?_) (fun c_15 => ?_)
    · refine lv_bipush (v := (-2 : Int32)) hx hb dX3_putReservation_25 (by decide) ?_
      exact RET _ _ _ _ _ _ _ HX1204 dX3_putReservation_27 (⟨rfl, ⟨⟨(fun A hok hc => by (obtain ⟨p, hp, eq, ix, -⟩ := hc.find1 hf_q1205; exact fb_rs (fb_resA_b ix (Or.inl (by rw [← hc.now]; exact c_15))) rfl hc)), hI⟩, fa_fr.rf⟩⟩)
    · refine lv_iload_n hx hb dX3_putReservation_18 rfl (lv_at hl 2 rfl) ?_
      refine lv_sipush (v := nI (9999)) hx hb dX3_putReservation_19 (by decide) ?_
      refine lv_icmp_le (tgt := 28) hx hb dX3_putReservation_22 (by decide) (fun c_22 => ?_) (fun c_22 => ?_)
      · refine lv_aload_n hx hb dX3_putReservation_28 rfl (lv_at hl 0 rfl) ?_
        refine fa_getr (k := b) (j := b + 2) CX HX1204 fl_X3_20 (fa_lt hB 0 (by decide) hn) (fa_s0 hB) rfl hr.2.1 dX3_putReservation_29 ?_
        refine lv_iload_n hx hb dX3_putReservation_32 rfl (lv_at hl 1 rfl) ?_
        refine lv_iload_n hx hb dX3_putReservation_33 rfl (lv_at hl 2 rfl) ?_
        refine fa_callVip (As := [.int (a1), .int (a2)]) (rest := []) CX HX1204 (g_placeOf l G n hn v r b hB hr hI (a1) (a2) ) ln_X3_120 (fa_lt hB 2 (by decide) hn) (fa_s2 hB) rfl rfl rfl (Nat.le_of_ble_eq_true rfl) hl.1 ⟨Nat.le_of_ble_eq_true rfl, Nat.le_of_ble_eq_true rfl⟩ ⟨Nat.le_refl _, Nat.le_refl _⟩ dX3_putReservation_34 (fun x1207 H locs h1206 HX1208 => ?_)
        have h_placeOf := h1206
        refine lv_if_lt (tgt := 43) hx hb dX3_putReservation_37 (by decide) (fun c_37 => ?_) (fun c_37 => ?_)
        · refine lv_aload_n hx hb dX3_putReservation_43 rfl (lv_at hl 0 rfl) ?_
          refine fa_getr (k := b) (j := b + 2) CX HX1208 fl_X3_20 (fa_lt hB 0 (by decide) hn) (fa_s0 hB) rfl hr.2.1 dX3_putReservation_44 ?_
          refine fa_geti (k := b + 2) CX HX1208 fl_X3_124 (fa_lt hB 2 (by decide) hn) (fa_s2 hB) rfl dX3_putReservation_47 ?_
          refine lv_bipush (v := nI (8)) hx hb dX3_putReservation_50 (by decide) ?_
          refine lv_icmp_lt (tgt := 58) hx hb dX3_putReservation_52 (by decide) (fun c_52 => ?_) (fun c_52 => ?_)
          · refine lv_aload_n hx hb dX3_putReservation_58 rfl (lv_at hl 0 rfl) ?_
            refine fa_getr (k := b) (j := b + 2) CX HX1208 fl_X3_20 (fa_lt hB 0 (by decide) hn) (fa_s0 hB) rfl hr.2.1 dX3_putReservation_59 ?_
            refine lv_iload_n hx hb dX3_putReservation_62 rfl (lv_at hl 1 rfl) ?_
            refine lv_iload_n hx hb dX3_putReservation_63 rfl (lv_at hl 2 rfl) ?_
            refine fa_callVvu (As := [.int (a1), .int (a2)]) (rest := []) CX HX1208 (g_insert l G n hn v r b hB hr hI (a1) (a2) ) ln_X3_127 (fa_lt hB 2 (by decide) hn) (fa_s2 hB) rfl rfl rfl (Nat.le_of_ble_eq_true rfl) hl.1 ⟨Nat.le_of_ble_eq_true rfl, Nat.le_of_ble_eq_true rfl⟩ ⟨Nat.le_refl _, Nat.le_refl _⟩ dX3_putReservation_64 (fun v1210 H locs h1209 HX1211 => ?_)
            have h_insert := h1209.1
            have hIS_v1210 : fa_IS v1210 b := h1209.1.2
            refine lv_aload_n hx hb dX3_putReservation_67 rfl (lv_at hl 0 rfl) ?_
            refine fa_getr (k := b) (j := b + 2) CX HX1211 fl_X3_20 (fa_lt hB 0 (by decide) hn) (fa_s0 hB) rfl hr.2.1 dX3_putReservation_68 ?_
            refine fa_geti (k := b + 2) CX HX1211 fl_X3_124 (fa_lt hB 2 (by decide) hn) (fa_s2 hB) rfl dX3_putReservation_71 ?_
            exact RET _ _ _ _ _ _ _ HX1211 dX3_putReservation_74 (⟨rfl, ⟨⟨(fun A hok hc => by (obtain ⟨p, hp, eq, ix, -⟩ := hc.find1 hf_q1205; have hp := fb_c_plc hc.2.2.2.2.1 h_placeOf; have h8 := fb_res7 hI c_52; obtain ⟨pl, hpl⟩ := h_insert.1 h8; have z := hc.2.2.2.2.1.len; rw [z.2.2] at h8 hpl; obtain ⟨L, hL, hP, hS⟩ := id hc.2.2.2.2.1; exact fb_rs (fb_resA_s ix (fun z => z.elim (fun z => c_15 (by rw [hc.now]; exact z)) (fun z => z c_22)) (hp.resolve_right (fun z => z.1 c_37)).2 (by omega)) (by rw [hpl.2.1]) (hc.res h1209.2 (fb_c_ins hL hP hS hP.length_eq.symm h8 (hp.resolve_right (fun z => z.1 c_37)).2 hpl)))), hIS_v1210⟩, (fa_fr.tr fa_fr.rf (fa_fr.wide h1209.2 (by omega) (by omega)))⟩⟩)
          · refine lv_bipush (v := (-4 : Int32)) hx hb dX3_putReservation_55 (by decide) ?_
            exact RET _ _ _ _ _ _ _ HX1208 dX3_putReservation_57 (⟨rfl, ⟨⟨(fun A hok hc => by (obtain ⟨p, hp, eq, ix, -⟩ := hc.find1 hf_q1205; have hp := fb_c_plc hc.2.2.2.2.1 h_placeOf; exact fb_rs (fb_resA_m ix (fun z => z.elim (fun z => c_15 (by rw [hc.now]; exact z)) (fun z => z c_22)) (hp.resolve_right (fun z => z.1 c_37)).2 (by rw [← hc.2.2.2.2.1.len.2.2]; exact fb_res8 hI c_52)) rfl hc)), hI⟩, fa_fr.rf⟩⟩)
        · refine lv_bipush (v := (-5 : Int32)) hx hb dX3_putReservation_40 (by decide) ?_
          exact RET _ _ _ _ _ _ _ HX1208 dX3_putReservation_42 (⟨rfl, ⟨⟨(fun A hok hc => by (obtain ⟨p, hp, eq, ix, -⟩ := hc.find1 hf_q1205; have hp := fb_c_plc hc.2.2.2.2.1 h_placeOf; exact fb_rs (fb_resA_p ix (fun z => z.elim (fun z => c_15 (by rw [hc.now]; exact z)) (fun z => z c_22)) (hp.resolve_left (fun z => c_37 z.1)).2.1) rfl hc)), hI⟩, fa_fr.rf⟩⟩)
      · refine lv_bipush (v := (-2 : Int32)) hx hb dX3_putReservation_25 (by decide) ?_
        exact RET _ _ _ _ _ _ _ HX1204 dX3_putReservation_27 (⟨rfl, ⟨⟨(fun A hok hc => by (obtain ⟨p, hp, eq, ix, -⟩ := hc.find1 hf_q1205; exact fb_rs (fb_resA_b ix (Or.inr c_22)) rfl hc)), hI⟩, fa_fr.rf⟩⟩)
set_option maxHeartbeats 4000000 in
set_option maxRecDepth 100000 in
theorem g_takeReservation (l : Launch) (G : fa_G) (n : Nat) (hn : 397 ≤ n) (v : fa_V) (r : fa_R) (b : Nat) (hB : b ∈ fa_bs) (hr : fa_RS r b) (hI : fa_IS v b) (a1 : Int32) (a2 : Int32) : fa_MI l G n yX3_takeReservation cX3_takeReservation 4 (some .int) 2 [.ref (fa_B G + (b)), .int (a1), .int (a2)] v r (fa_voi r (fun x v1 => ((∀ A, fb_okA A → fb_cA v r b A → x = (fb_canA A a1 a2).1 ∧ fb_cA v1 r b (fb_canA A a1 a2).2) ∧ fa_IS v1 b) ∧ (fa_fr (b) (b + 56) v v1))) := by
  refine fa_startI (by decide +kernel) (Nat.le_of_ble_eq_true rfl) (fun p e s m args below meth c ls Q CX hl HX RET => ?_)
  have hl : lv_has ls 4 [(0, .ref (fa_B G + (b))), (1, .int (a1)), (2, .int (a2))] := hl
  have hx := CX.1.1
  have hb := CX.1.2.1
  refine lv_aload_n hx hb dX3_takeReservation_0 rfl (lv_at hl 0 rfl) ?_
  refine fa_getr (k := b) (j := b + 2) CX HX fl_X3_20 (fa_lt hB 0 (by decide) hn) (fa_s0 hB) rfl hr.2.1 dX3_takeReservation_1 ?_
  refine lv_iload_n hx hb dX3_takeReservation_4 rfl (lv_at hl 1 rfl) ?_
  refine lv_iload_n hx hb dX3_takeReservation_5 rfl (lv_at hl 2 rfl) ?_
  refine fa_callVip (As := [.int (a1), .int (a2)]) (rest := []) CX HX (g_placeOf l G n hn v r b hB hr hI (a1) (a2) ) ln_X3_120 (fa_lt hB 2 (by decide) hn) (fa_s2 hB) rfl rfl rfl (Nat.le_of_ble_eq_true rfl) hl.1 ⟨Nat.le_of_ble_eq_true rfl, Nat.le_of_ble_eq_true rfl⟩ ⟨Nat.le_refl _, Nat.le_refl _⟩ dX3_takeReservation_6 (fun x1213 H locs h1212 HX1214 => ?_)
  have h_placeOf := h1212
  refine lv_istore_n (lv' := [(3, .int (x1213)), (0, .ref (fa_B G + (b))), (1, .int (a1)), (2, .int (a2))]) hx hb dX3_takeReservation_9 rfl hl (by decide) rfl (fun ls hl => ?_)
  refine lv_iload_n hx hb dX3_takeReservation_10 rfl (lv_at hl 0 rfl) ?_
  refine lv_if_ge (tgt := 16) hx hb dX3_takeReservation_11 (by decide) (fun c_11 => ?_) (fun c_11 => ?_)
  · refine lv_aload_n hx hb dX3_takeReservation_16 rfl (lv_at hl 1 rfl) ?_
    refine fa_getr (k := b) (j := b + 2) CX HX1214 fl_X3_20 (fa_lt hB 0 (by decide) hn) (fa_s0 hB) rfl hr.2.1 dX3_takeReservation_17 ?_
    refine lv_iload_n hx hb dX3_takeReservation_20 rfl (lv_at hl 0 rfl) ?_
    refine fa_callVvu (As := [.int (x1213)]) (rest := []) CX HX1214 (g_removeAt l G n hn v r b hB hr hI (x1213) ) ln_X3_131 (fa_lt hB 2 (by decide) hn) (fa_s2 hB) rfl rfl rfl (Nat.le_of_ble_eq_true rfl) hl.1 ⟨Nat.le_of_ble_eq_true rfl, Nat.le_of_ble_eq_true rfl⟩ ⟨Nat.le_refl _, Nat.le_refl _⟩ dX3_takeReservation_21 (fun v1216 H locs h1215 HX1217 => ?_)
    have h_removeAt := h1215.1
    have hIS_v1216 : fa_IS v1216 b := h1215.1.2
    refine lv_aload_n hx hb dX3_takeReservation_24 rfl (lv_at hl 1 rfl) ?_
    refine fa_getr (k := b) (j := b + 2) CX HX1217 fl_X3_20 (fa_lt hB 0 (by decide) hn) (fa_s0 hB) rfl hr.2.1 dX3_takeReservation_25 ?_
    refine fa_geti (k := b + 2) CX HX1217 fl_X3_124 (fa_lt hB 2 (by decide) hn) (fa_s2 hB) rfl dX3_takeReservation_28 ?_
    exact RET _ _ _ _ _ _ _ HX1217 dX3_takeReservation_31 (⟨rfl, ⟨⟨(fun A hok hc => by (have hp := fb_c_plc hc.2.2.2.2.1 h_placeOf; obtain ⟨-, m, k, L, hL, hP, hS, hk, ek, eL⟩ := hp.resolve_left (fun z => absurd z.1 (Int32.not_lt.mpr c_11)); have hr := h_removeAt.1 k ek (by rw [hL.n]; exact hk); rw [hL.n] at hr; exact fb_rs (fb_canA_s m) (by rw [hr.1, hP.length_eq]) (hc.res h1215.2 (fb_c_rem hL hP hS rfl hk eL hr)))), hIS_v1216⟩, (fa_fr.tr fa_fr.rf (fa_fr.wide h1215.2 (by omega) (by omega)))⟩⟩)
  · refine lv_iconst (v := (-1 : Int32)) hx hb dX3_takeReservation_14 (by decide) ?_
    exact RET _ _ _ _ _ _ _ HX1214 dX3_takeReservation_15 (⟨rfl, ⟨⟨(fun A hok hc => by (have hp := fb_c_plc hc.2.2.2.2.1 h_placeOf; exact fb_rs (fb_canA_n (hp.resolve_right (fun z => c_11 (Int32.not_lt.mp z.1))).2) rfl hc)), hI⟩, fa_fr.rf⟩⟩)
set_option maxHeartbeats 4000000 in
set_option maxRecDepth 100000 in
theorem g_changeSetting (l : Launch) (G : fa_G) (n : Nat) (hn : 397 ≤ n) (v : fa_V) (r : fa_R) (b : Nat) (hB : b ∈ fa_bs) (hr : fa_RS r b) (hI : fa_IS v b) (a1 : Int32) (a2 : Int32) : fa_MI l G n yX3_changeSetting cX3_changeSetting 4 (some .int) 2 [.ref (fa_B G + (b)), .int (a1), .int (a2)] v r (fa_voi r (fun x v1 => ((∀ A, fb_okA A → fb_cA v r b A → x = (fb_setA A a1 a2).1 ∧ fb_cA v1 r b (fb_setA A a1 a2).2) ∧ fa_IS v1 b) ∧ (fa_fr (b) (b + 56) v v1))) := by
  refine fa_startI (by decide +kernel) (Nat.le_of_ble_eq_true rfl) (fun p e s m args below meth c ls Q CX hl HX RET => ?_)
  have hl : lv_has ls 4 [(0, .ref (fa_B G + (b))), (1, .int (a1)), (2, .int (a2))] := hl
  have hx := CX.1.1
  have hb := CX.1.2.1
  refine lv_iload_n hx hb dX3_changeSetting_0 rfl (lv_at hl 1 rfl) ?_
  refine fa_callSNip (As := [.int (a1)]) (rest := []) CX HX (c_X6_isNoSetting l G n v r (a1)) (by decide +kernel) ln_X3_138 rfl rfl (Nat.le_of_ble_eq_true rfl) hl.1 ⟨Nat.le_of_ble_eq_true rfl, Nat.le_of_ble_eq_true rfl⟩ ⟨Nat.le_refl _, Nat.le_refl _⟩ dX3_changeSetting_1 (fun x1219 H locs h1218 HX1220 => ?_)
  have h_ns := h1218
  refine lv_if_eq (tgt := 9) hx hb dX3_changeSetting_4 (by decide) (fun c_4 => ?_) (fun c_4 => ?_)
  · obtain ⟨jh, hjh, ejh⟩ := fa_ix7 (by decide) (fa_ifn h_ns c_4)
    refine lv_iload_n hx hb dX3_changeSetting_9 rfl (lv_at hl 2 rfl) ?_
    refine fa_getst (j := 1) CX HX1220 (by decide) (by decide +kernel) dX3_changeSetting_10 ?_
    refine lv_iload_n hx hb dX3_changeSetting_13 rfl (lv_at hl 1 rfl) ?_
    rw [show a1 = nI (jh) from ejh]
    refine fa_sald (j := 1) (i := jh) CX HX1220 (by decide) (by omega) dX3_changeSetting_14 ?_
    refine lv_icmp_lt (tgt := 27) hx hb dX3_changeSetting_15 (by decide) (fun c_15 => ?_) (fun c_15 => ?_)
    · refine lv_bipush (v := (-2 : Int32)) hx hb dX3_changeSetting_27 (by decide) ?_
      exact RET _ _ _ _ _ _ _ HX1220 dX3_changeSetting_29 (⟨rfl, ⟨⟨(fun A hok hc => fb_rs (fb_setA_2 (fa_ifn h_ns c_4) ejh hjh (Or.inl c_15)) rfl hc), hI⟩, fa_fr.rf⟩⟩)
    · refine lv_iload_n hx hb dX3_changeSetting_18 rfl (lv_at hl 2 rfl) ?_
      refine fa_getst (j := 2) CX HX1220 (by decide) (by decide +kernel) dX3_changeSetting_19 ?_
      refine lv_iload_n hx hb dX3_changeSetting_22 rfl (lv_at hl 1 rfl) ?_
      rw [show a1 = nI (jh) from ejh]
      refine fa_sald (j := 2) (i := jh) CX HX1220 (by decide) (by omega) dX3_changeSetting_23 ?_
      refine lv_icmp_le (tgt := 30) hx hb dX3_changeSetting_24 (by decide) (fun c_24 => ?_) (fun c_24 => ?_)
      · refine lv_aload_n hx hb dX3_changeSetting_30 rfl (lv_at hl 0 rfl) ?_
        refine fa_getr (k := b) (j := b + 7) CX HX1220 fl_X3_31 (fa_lt hB 0 (by decide) hn) (fa_s0 hB) rfl hr.2.2.2.1 dX3_changeSetting_31 ?_
        refine lv_iload_n hx hb dX3_changeSetting_34 rfl (lv_at hl 1 rfl) ?_
        rw [show a1 = nI (jh) from ejh]
        refine fa_iald (k := b + 7) (j := jh) CX HX1220 (fa_lt hB 7 (by decide) hn) (fa_s7 hB) (by omega) (by first | decide | assumption) dX3_changeSetting_35 ?_
        refine lv_istore_n (lv' := [(3, .int (v (b + 7) jh)), (0, .ref (fa_B G + (b))), (1, .int (a1)), (2, .int (a2))]) hx hb dX3_changeSetting_36 rfl hl (by decide) rfl (fun ls hl => ?_)
        refine lv_aload_n hx hb dX3_changeSetting_37 rfl (lv_at hl 1 rfl) ?_
        refine fa_getr (k := b) (j := b + 7) CX HX1220 fl_X3_31 (fa_lt hB 0 (by decide) hn) (fa_s0 hB) rfl hr.2.2.2.1 dX3_changeSetting_38 ?_
        refine lv_iload_n hx hb dX3_changeSetting_41 rfl (lv_at hl 2 rfl) ?_
        rw [show a1 = nI (jh) from ejh]
        refine lv_iload_n hx hb dX3_changeSetting_42 rfl (lv_at hl 3 rfl) ?_
        refine fa_iast (k := b + 7) (j := jh) CX HX1220 (fa_lt hB 7 (by decide) hn) (fa_s7 hB) (by omega) (by first | decide | assumption) dX3_changeSetting_43 (fun H locs v1221 e1222 HX1223 => ?_)
        refine lv_iload_n hx hb dX3_changeSetting_44 rfl (lv_at hl 0 rfl) ?_
        exact RET _ _ _ _ _ _ _ HX1223 dX3_changeSetting_45 (⟨rfl, ⟨⟨(fun A hok hc => fb_rs (fb_setA_3 (fa_ifn h_ns c_4) ejh hjh (fun z => z.elim c_15 (fun z => z c_24))) (hc.set hjh) (by rw [show v1221 = _ from e1222]; exact hc.uset hjh)), (by rw [e1222]; exact fa_IS.u hI (Or.inr (Or.inr (Or.inr (Or.inr (Or.inr (Or.inr (Or.inr (Or.inl rfl)))))))))⟩, (by rw [e1222]; exact fa_fr.u fa_fr.rf (by omega))⟩⟩)
      · refine lv_bipush (v := (-2 : Int32)) hx hb dX3_changeSetting_27 (by decide) ?_
        exact RET _ _ _ _ _ _ _ HX1220 dX3_changeSetting_29 (⟨rfl, ⟨⟨(fun A hok hc => fb_rs (fb_setA_2 (fa_ifn h_ns c_4) ejh hjh (Or.inr c_24)) rfl hc), hI⟩, fa_fr.rf⟩⟩)
  · refine lv_iconst (v := (-1 : Int32)) hx hb dX3_changeSetting_7 (by decide) ?_
    exact RET _ _ _ _ _ _ _ HX1220 dX3_changeSetting_8 (⟨rfl, ⟨⟨(fun A hok hc => fb_rs (fb_setA_1 (fa_ift h_ns c_4)) rfl hc), hI⟩, fa_fr.rf⟩⟩)
set_option maxHeartbeats 4000000 in
set_option maxRecDepth 100000 in
theorem g_burnUnmarked (l : Launch) (G : fa_G) (n : Nat) (hn : 397 ≤ n) (v : fa_V) (r : fa_R) (b : Nat) (hB : b ∈ fa_bs) (hr : fa_RS r b) (hI : fa_IS v b) : fa_MI l G n yX3_burnUnmarked cX3_burnUnmarked 5 (some .int) 3 [.ref (fa_B G + (b))] v r (fun x w => (∀ A, fb_okA A → fb_cA v r b A → (∀ p, p < A.n → v (fa_pf r b p) 8 = fb_why A p) → x = (fb_burnA A).1 ∧ fb_cA w.1 w.2 b (fb_burnA A).2) ∧ (fa_IS w.1 b) ∧ (fa_RS w.2 b) ∧ (fa_fr b (b + 56) v w.1) ∧ (∀ k, ¬ k = b + 1 → w.2 k = r k)) := by
  refine fa_startI (by decide +kernel) (Nat.le_of_ble_eq_true rfl) (fun p e s m args below meth c ls Q CX hl HX RET => ?_)
  have hl : lv_has ls 5 [(0, .ref (fa_B G + (b)))] := hl
  have hx := CX.1.1
  have hb := CX.1.2.1
  obtain ⟨n0, en0⟩ : ∃ n0, n0 = fa_N (v b 1) := ⟨_, rfl⟩
  obtain ⟨hn0, h1⟩ := hI.n1 en0
  refine lv_aload_n hx hb dX3_burnUnmarked_0 rfl (lv_at hl 0 rfl) ?_
  refine lv_dup hx hb dX3_burnUnmarked_1 rfl ?_
  refine fa_geti (k := b) CX HX fl_X3_67 (fa_lt hB 0 (by decide) hn) (fa_s0 hB) rfl dX3_burnUnmarked_2 ?_
  refine lv_iconst (v := nI (1)) hx hb dX3_burnUnmarked_5 (by decide) ?_
  refine lv_iadd hx hb dX3_burnUnmarked_6 ?_
  refine fa_puti (k := b) CX HX fl_X3_67 (fa_lt hB 0 (by decide) hn) (fa_s0 hB) rfl rfl rfl dX3_burnUnmarked_7 (fun H locs v1224 e1225 HX1226 => ?_)
  refine lv_aload_n hx hb dX3_burnUnmarked_10 rfl (lv_at hl 0 rfl) ?_
  refine fa_geti (k := b) CX HX1226 fl_X3_49 (fa_lt hB 0 (by decide) hn) (fa_s0 hB) rfl dX3_burnUnmarked_11 ?_
  rw [show v1224 b 1 = nI (n0) from (by rw [e1225, fa_u_n _ _ (by omega)]; exact h1)]
  refine lv_istore_n (lv' := [(1, .int (nI (n0))), (0, .ref (fa_B G + (b)))]) hx hb dX3_burnUnmarked_14 rfl hl (by decide) rfl (fun ls hl => ?_)
  refine lv_iconst (v := nI (0)) hx hb dX3_burnUnmarked_15 (by decide) ?_
  refine lv_istore_n (lv' := [(2, .int (nI (0))), (1, .int (nI (n0))), (0, .ref (fa_B G + (b)))]) hx hb dX3_burnUnmarked_16 rfl hl (by decide) rfl (fun ls hl => ?_)
  refine lv_iconst (v := nI (0)) hx hb dX3_burnUnmarked_17 (by decide) ?_
  refine lv_istore_n (lv' := [(3, .int (nI (0))), (2, .int (nI (0))), (1, .int (nI (n0))), (0, .ref (fa_B G + (b)))]) hx hb dX3_burnUnmarked_18 rfl hl (by decide) rfl (fun ls hl => ?_)
  have LOOP_19 : ∀ (fu : Nat) (j : Nat) (kp : Nat) (v1227 : fa_V) (r1228 : fa_R) (H : Heap) (locs : List Loc) (ls : Array Slot), n0 - j < fu → (j ≤ n0 ∧ kp ≤ j ∧ fa_IS v1227 b ∧ fa_RS r1228 b ∧ fa_fr b (b + 56) v v1227 ∧ (∀ k, ¬ k = b + 1 → r1228 k = r k) ∧ (∀ A, fb_okA A → fb_cA v r b A → (∀ p, p < A.n → v (fa_pf r b p) 8 = fb_why A p) → fb_buI A v v1227 r r1228 b j kp)) → lv_has ls 5 [(0, .ref (fa_B G + (b))), (1, .int (nI (n0))), (2, .int (nI (kp))), (3, .int (nI (j)))] → fa_HX G (n) v1227 r1228 s H locs → W p l e (fa_rm 3) s m args below meth c H locs (0) (0) Q (F0 m 19 ls []) := by
    intro fu
    induction fu with
    | zero => intro j kp v1227 r1228 H locs ls hk; exact absurd hk (Nat.not_lt_zero _)
    | succ fu ih_19 =>
      intro j kp v1227 r1228 H locs ls hk_19 hi_19 hl HX1229
      have hr_r1228 := hi_19.2.2.2.1
      refine lv_iload_n hx hb dX3_burnUnmarked_19 rfl (lv_at hl 3 rfl) ?_
      refine lv_iload_n hx hb dX3_burnUnmarked_20 rfl (lv_at hl 1 rfl) ?_
      refine lv_icmp_ge (tgt := 109) hx hb dX3_burnUnmarked_21 (by decide) (fun c_21 => ?_) (fun c_21 => ?_)
      · have hjn : j = n0 := by
          have := fa_leN (by omega) (by omega) c_21
          omega
        refine lv_aload_n hx hb dX3_burnUnmarked_109 rfl (lv_at hl 0 rfl) ?_
        refine lv_iload_n hx hb dX3_burnUnmarked_110 rfl (lv_at hl 2 rfl) ?_
        refine fa_puti (k := b) CX HX1229 fl_X3_49 (fa_lt hB 0 (by decide) hn) (fa_s0 hB) rfl rfl rfl dX3_burnUnmarked_111 (fun H locs v1230 e1231 HX1232 => ?_)
        refine lv_iload_n hx hb dX3_burnUnmarked_114 rfl (lv_at hl 1 rfl) ?_
        refine lv_iload_n hx hb dX3_burnUnmarked_115 rfl (lv_at hl 2 rfl) ?_
        refine lv_isub hx hb dX3_burnUnmarked_116 ?_
        exact RET _ _ _ _ _ _ _ HX1232 dX3_burnUnmarked_117 (⟨(fun A hok hc hw => by (have z := hi_19.2.2.2.2.2.2 A hok hc hw; rw [show j = A.n by rw [← hc.n, ← en0]; exact hjn] at z; have y := z.e hc hr_r1228 e1231; exact ⟨by rw [← y.2, ← hc.n, ← en0], y.1⟩)), (by rw [e1231]; exact fa_IS.set1 hi_19.2.2.1 (by omega)), hr_r1228, (by rw [e1231]; exact fa_fr.u (fa_fr.tr fa_fr.rf (fa_fr.wide hi_19.2.2.2.2.1 (by omega) (by omega))) (by omega)), hi_19.2.2.2.2.2.1⟩)
      · have hj := fa_ltN (by omega) (by omega) c_21
        refine lv_aload_n hx hb dX3_burnUnmarked_24 rfl (lv_at hl 0 rfl) ?_
        refine fa_getr (k := b) (j := b + 1) CX HX1229 fl_X3_11 (fa_lt hB 0 (by decide) hn) (fa_s0 hB) rfl hr_r1228.1 dX3_burnUnmarked_25 ?_
        refine lv_iload_n hx hb dX3_burnUnmarked_28 rfl (lv_at hl 3 rfl) ?_
        refine fa_aald (k := b + 1) (j := j) (q := fa_pf r1228 b j) CX HX1229 (fa_lt hB 1 (by decide) hn) (fa_s1 hB) rfl (by decide) (by omega) (by first | decide | assumption) (fa_pf_at hr_r1228 (by omega)) dX3_burnUnmarked_29 ?_
        refine lv_astore (lv' := [(4, .ref (fa_B G + (fa_pf r1228 b j))), (0, .ref (fa_B G + (b))), (1, .int (nI (n0))), (2, .int (nI (kp))), (3, .int (nI (j)))]) hx hb dX3_burnUnmarked_30 hl (by decide) rfl (fun ls hl => ?_)
        refine lv_aload hx hb dX3_burnUnmarked_32 (lv_at hl 0 rfl) ?_
        refine fa_geti (k := fa_pf r1228 b j) CX HX1229 fl_X3_168 (fa_isF_lt hB (fa_pf_isF hr_r1228 (by omega)) hn) (fa_isF_sh hB (fa_pf_isF hr_r1228 (by omega))) rfl dX3_burnUnmarked_34 ?_
        refine lv_if_ne (tgt := 80) hx hb dX3_burnUnmarked_37 (by decide) (fun c_37 => ?_) (fun c_37 => ?_)
        · refine lv_aload_n hx hb dX3_burnUnmarked_80 rfl (lv_at hl 1 rfl) ?_
          refine fa_getr (k := b) (j := b + 1) CX HX1229 fl_X3_11 (fa_lt hB 0 (by decide) hn) (fa_s0 hB) rfl hr_r1228.1 dX3_burnUnmarked_81 ?_
          refine lv_iload_n hx hb dX3_burnUnmarked_84 rfl (lv_at hl 4 rfl) ?_
          refine lv_aload_n hx hb dX3_burnUnmarked_85 rfl (lv_at hl 1 rfl) ?_
          refine fa_getr (k := b) (j := b + 1) CX HX1229 fl_X3_11 (fa_lt hB 0 (by decide) hn) (fa_s0 hB) rfl hr_r1228.1 dX3_burnUnmarked_86 ?_
          refine lv_iload_n hx hb dX3_burnUnmarked_89 rfl (lv_at hl 3 rfl) ?_
          refine fa_aald (k := b + 1) (j := kp) (q := fa_pf r1228 b kp) CX HX1229 (fa_lt hB 1 (by decide) hn) (fa_s1 hB) rfl (by decide) (by omega) (by first | decide | assumption) (fa_pf_at hr_r1228 (by omega)) dX3_burnUnmarked_90 ?_
          refine fa_aast (k := b + 1) (j := j) (q := fa_pf r1228 b kp) CX HX1229 (fa_lt hB 1 (by decide) hn) (fa_s1 hB) rfl (by decide) (by omega) (by first | decide | assumption) (fa_isF_lt hB (fa_pf_isF hr_r1228 (by omega)) hn) (fa_isF_sh hB (fa_pf_isF hr_r1228 (by omega))) rfl dX3_burnUnmarked_91 (fun H locs r1233 e1234 HX1235 => ?_)
          have hr_r1233 : fa_RS r1233 b := by rw [e1234]; exact fa_RS.set hr_r1228 (fa_pf_isF hr_r1228 (by omega))
          refine lv_aload_n hx hb dX3_burnUnmarked_92 rfl (lv_at hl 1 rfl) ?_
          refine fa_getr (k := b) (j := b + 1) CX HX1235 fl_X3_11 (fa_lt hB 0 (by decide) hn) (fa_s0 hB) rfl hr_r1233.1 dX3_burnUnmarked_93 ?_
          refine lv_iload_n hx hb dX3_burnUnmarked_96 rfl (lv_at hl 3 rfl) ?_
          refine lv_aload hx hb dX3_burnUnmarked_97 (lv_at hl 0 rfl) ?_
          refine fa_aast (k := b + 1) (j := kp) (q := fa_pf r1228 b j) CX HX1235 (fa_lt hB 1 (by decide) hn) (fa_s1 hB) rfl (by decide) (by omega) (by first | decide | assumption) (fa_isF_lt hB (fa_pf_isF hr_r1228 (by omega)) hn) (fa_isF_sh hB (fa_pf_isF hr_r1228 (by omega))) rfl dX3_burnUnmarked_99 (fun H locs r1236 e1237 HX1238 => ?_)
          have hr_r1236 : fa_RS r1236 b := by rw [e1237]; exact fa_RS.set hr_r1233 (fa_pf_isF hr_r1228 (by omega))
          refine lv_iinc (v := nI (kp + 1)) (lv' := [(2, .int (nI (kp + 1))), (4, .ref (fa_B G + (fa_pf r1228 b j))), (0, .ref (fa_B G + (b))), (1, .int (nI (n0))), (3, .int (nI (j)))]) hx hb dX3_burnUnmarked_100 hl (k := 3) rfl (nI_add (kp) 1) (by decide) rfl (fun ls hl => ?_)
          refine lv_iinc (v := nI (j + 1)) (lv' := [(3, .int (nI (j + 1))), (2, .int (nI (kp + 1))), (4, .ref (fa_B G + (fa_pf r1228 b j))), (0, .ref (fa_B G + (b))), (1, .int (nI (n0)))]) hx hb dX3_burnUnmarked_103 hl (k := 4) rfl (nI_add (j) 1) (by decide) rfl (fun ls hl => ?_)
          refine lv_goto (tgt := 19) hx hb dX3_burnUnmarked_106 (by decide) ?_
          exact ih_19 (j + 1) (kp + 1) v1227 r1236 _ _ _ (by omega) (⟨by omega, by omega, hi_19.2.2.1, hr_r1236, (fa_fr.tr fa_fr.rf (fa_fr.wide hi_19.2.2.2.2.1 (by omega) (by omega))), (fun k hk => by rw [e1237, fa_u_k _ _ hk, e1234, fa_u_k _ _ hk]; exact hi_19.2.2.2.2.2.1 k hk), (fun A hok hc hw => (hi_19.2.2.2.2.2.2 A hok hc hw).keep hc (by rw [← hc.n, ← en0]; exact hj) hw c_37 e1234 e1237)⟩) (lv_sub hl [3, 4, 1, 0] rfl) HX1238
        · refine lv_aload_n hx hb dX3_burnUnmarked_40 rfl (lv_at hl 1 rfl) ?_
          refine lv_dup hx hb dX3_burnUnmarked_41 rfl ?_
          refine fa_geti (k := b) CX HX1229 fl_X3_55 (fa_lt hB 0 (by decide) hn) (fa_s0 hB) rfl dX3_burnUnmarked_42 ?_
          refine lv_iconst (v := nI (1)) hx hb dX3_burnUnmarked_45 (by decide) ?_
          refine lv_iadd hx hb dX3_burnUnmarked_46 ?_
          refine fa_puti (k := b) CX HX1229 fl_X3_55 (fa_lt hB 0 (by decide) hn) (fa_s0 hB) rfl rfl rfl dX3_burnUnmarked_47 (fun H locs v1239 e1240 HX1241 => ?_)
          refine lv_aload_n hx hb dX3_burnUnmarked_50 rfl (lv_at hl 1 rfl) ?_
          refine lv_dup hx hb dX3_burnUnmarked_51 rfl ?_
          refine fa_geti (k := b) CX HX1241 fl_X3_58 (fa_lt hB 0 (by decide) hn) (fa_s0 hB) rfl dX3_burnUnmarked_52 ?_
          refine lv_aload hx hb dX3_burnUnmarked_55 (lv_at hl 0 rfl) ?_
          refine fa_geti (k := fa_pf r1228 b j) CX HX1241 fl_X3_183 (fa_isF_lt hB (fa_pf_isF hr_r1228 (by omega)) hn) (fa_isF_sh hB (fa_pf_isF hr_r1228 (by omega))) rfl dX3_burnUnmarked_57 ?_
          refine lv_iadd hx hb dX3_burnUnmarked_60 ?_
          refine fa_puti (k := b) CX HX1241 fl_X3_58 (fa_lt hB 0 (by decide) hn) (fa_s0 hB) rfl rfl rfl dX3_burnUnmarked_61 (fun H locs v1242 e1243 HX1244 => ?_)
          refine lv_aload_n hx hb dX3_burnUnmarked_64 rfl (lv_at hl 1 rfl) ?_
          refine fa_getr (k := b) (j := b + 5) CX HX1244 fl_X3_27 (fa_lt hB 0 (by decide) hn) (fa_s0 hB) rfl hr_r1228.2.2.1 dX3_burnUnmarked_65 ?_
          refine lv_aload hx hb dX3_burnUnmarked_68 (lv_at hl 0 rfl) ?_
          refine lv_aload_n hx hb dX3_burnUnmarked_70 rfl (lv_at hl 1 rfl) ?_
          refine fa_geti (k := b) CX HX1244 fl_X3_45 (fa_lt hB 0 (by decide) hn) (fa_s0 hB) rfl dX3_burnUnmarked_71 ?_
          refine fa_callVvu (As := [.ref (fa_B G + (fa_pf r1228 b j)), .int (v1242 b 0)]) (rest := []) CX HX1244 (g_leave l G n hn v1242 r1228 b hB hr_r1228 (by rw [e1243]; exact fa_IS.u (by rw [e1240]; exact fa_IS.u hi_19.2.2.1 (Or.inl ⟨rfl, by decide⟩)) (Or.inl ⟨rfl, by decide⟩)) (fa_pf r1228 b j) (v1242 b 0) (fa_pf_isF hr_r1228 (by omega))) ln_X3_186 (fa_lt hB 5 (by decide) hn) (fa_s5 hB) rfl rfl rfl (Nat.le_of_ble_eq_true rfl) hl.1 ⟨Nat.le_of_ble_eq_true rfl, Nat.le_of_ble_eq_true rfl⟩ ⟨Nat.le_refl _, Nat.le_refl _⟩ dX3_burnUnmarked_74 (fun v1246 H locs h1245 HX1247 => ?_)
          have h_leave := h1245.1
          have hIS_v1246 : fa_IS v1246 b := h1245.1.2
          refine lv_goto (tgt := 103) hx hb dX3_burnUnmarked_77 (by decide) ?_
          refine lv_iinc (v := nI (j + 1)) (lv' := [(3, .int (nI (j + 1))), (4, .ref (fa_B G + (fa_pf r1228 b j))), (0, .ref (fa_B G + (b))), (1, .int (nI (n0))), (2, .int (nI (kp)))]) hx hb dX3_burnUnmarked_103 hl (k := 4) rfl (nI_add (j) 1) (by decide) rfl (fun ls hl => ?_)
          refine lv_goto (tgt := 19) hx hb dX3_burnUnmarked_106 (by decide) ?_
          exact ih_19 (j + 1) (kp) v1246 r1228 _ _ _ (by omega) (⟨by omega, by omega, hIS_v1246, hr_r1228, (fa_fr.tr (by rw [e1243]; exact fa_fr.u (by rw [e1240]; exact fa_fr.u (fa_fr.tr fa_fr.rf (fa_fr.wide hi_19.2.2.2.2.1 (by omega) (by omega))) (by omega)) (by omega)) (fa_fr.wide h1245.2 (by omega) (by omega))), (fun k hk => hi_19.2.2.2.2.2.1 k hk), (fun A hok hc hw => (hi_19.2.2.2.2.2.2 A hok hc hw).burn hc (by rw [← hc.n, ← en0]; exact hj) hw (by first | exact c_37 | exact Decidable.not_not.mp c_37) e1240 e1243 h1245.2 h_leave.1)⟩) (lv_sub hl [2, 3, 4, 0] rfl) HX1247
  exact LOOP_19 (n0 - 0 + 1) (0) (0) v1224 r _ _ _ (Nat.lt_succ_self _) (⟨Nat.zero_le _, Nat.zero_le _, (by rw [e1225]; exact fa_IS.u hI (Or.inl ⟨rfl, by decide⟩)), hr, (by rw [e1225]; exact fa_fr.u fa_fr.rf (by omega)), fun k _ => rfl, fun A hok hc hw => fb_buI.start hc e1225⟩) (lv_sub hl [3, 2, 1, 0] rfl) HX1226
set_option maxHeartbeats 4000000 in
set_option maxRecDepth 100000 in
theorem g_askReserved (l : Launch) (G : fa_G) (n : Nat) (hn : 397 ≤ n) (v : fa_V) (r : fa_R) (b : Nat) (hB : b ∈ fa_bs) (hr : fa_RS r b) (hI : fa_IS v b) : fa_MV l G n yX3_askReserved cX3_askReserved 3 2 [.ref (fa_B G + (b))] v r (fa_vo r (fun v1 => ((∀ A, fb_okR A → fb_cA v r b A → fb_cA v1 r b (fb_rsvA A (A.g 7))) ∧ fa_IS v1 b) ∧ (fa_fr (b) (b + 56) v v1))) := by
  refine fa_startV (by decide +kernel) (Nat.le_of_ble_eq_true rfl) (fun p e s m args below meth c ls Q CX hl HX RET => ?_)
  have hl : lv_has ls 3 [(0, .ref (fa_B G + (b)))] := hl
  have hx := CX.1.1
  have hb := CX.1.2.1
  refine lv_iconst (v := nI (0)) hx hb dX3_askReserved_0 (by decide) ?_
  refine lv_istore_n (lv' := [(1, .int (nI (0))), (0, .ref (fa_B G + (b)))]) hx hb dX3_askReserved_1 rfl hl (by decide) rfl (fun ls hl => ?_)
  have LOOP_2 : ∀ (fu : Nat) (j : Nat) (v1248 : fa_V) (H : Heap) (locs : List Loc) (ls : Array Slot), 8 - j < fu → (j ≤ 8 ∧ fa_IS v1248 b ∧ fa_fr b (b + 56) v v1248 ∧ (∀ A L, fb_okR A → fb_cA v r b A → fb_cL v b L → L.Perm A.q → L.Pairwise fb_bef → fb_arI A L v1248 r b j)) → lv_has ls 3 [(0, .ref (fa_B G + (b))), (1, .int (nI (j)))] → fa_HX G (n) v1248 r s H locs → W p l e (fa_rm 2) s m args below meth c H locs (0) (0) Q (F0 m 2 ls []) := by
    intro fu
    induction fu with
    | zero => intro j v1248 H locs ls hk; exact absurd hk (Nat.not_lt_zero _)
    | succ fu ih_2 =>
      intro j v1248 H locs ls hk_2 hi_2 hl HX1249
      refine lv_iload_n hx hb dX3_askReserved_2 rfl (lv_at hl 1 rfl) ?_
      refine lv_bipush (v := nI (8)) hx hb dX3_askReserved_3 (by decide) ?_
      refine lv_icmp_ge (tgt := 72) hx hb dX3_askReserved_5 (by decide) (fun c_5 => ?_) (fun c_5 => ?_)
      · exact RET _ _ _ _ _ _ HX1249 dX3_askReserved_72 (⟨rfl, ⟨⟨(fun A hok hc => by (obtain ⟨L, hL, hP, hS⟩ := id hc.2.2.2.2.1; exact (hi_2.2.2.2 A L hok hc hL hP hS).e hok hP hS (Or.inr (Or.inr (fa_leN (by omega) (by omega) c_5))))), hi_2.2.1⟩, (fa_fr.tr fa_fr.rf (fa_fr.wide hi_2.2.2.1 (by omega) (by omega)))⟩⟩)
      · have hj := fa_ltN (by omega) (by omega) c_5
        refine lv_aload_n hx hb dX3_askReserved_8 rfl (lv_at hl 0 rfl) ?_
        refine fa_getr (k := b) (j := b + 2) CX HX1249 fl_X3_20 (fa_lt hB 0 (by decide) hn) (fa_s0 hB) rfl hr.2.1 dX3_askReserved_9 ?_
        refine fa_geti (k := b + 2) CX HX1249 fl_X3_124 (fa_lt hB 2 (by decide) hn) (fa_s2 hB) rfl dX3_askReserved_12 ?_
        refine lv_if_eq (tgt := 34) hx hb dX3_askReserved_15 (by decide) (fun c_15 => ?_) (fun c_15 => ?_)
        · exact RET _ _ _ _ _ _ HX1249 dX3_askReserved_34 (⟨rfl, ⟨⟨(fun A hok hc => by (obtain ⟨L, hL, hP, hS⟩ := id hc.2.2.2.2.1; exact (hi_2.2.2.2 A L hok hc hL hP hS).e hok hP hS (Or.inl c_15))), hi_2.2.1⟩, (fa_fr.tr fa_fr.rf (fa_fr.wide hi_2.2.2.1 (by omega) (by omega)))⟩⟩)
        · refine lv_aload_n hx hb dX3_askReserved_18 rfl (lv_at hl 0 rfl) ?_
          refine fa_getr (k := b) (j := b + 2) CX HX1249 fl_X3_20 (fa_lt hB 0 (by decide) hn) (fa_s0 hB) rfl hr.2.1 dX3_askReserved_19 ?_
          refine fa_getr (k := b + 2) (j := b + 4) CX HX1249 fl_X3_156 (fa_lt hB 2 (by decide) hn) (fa_s2 hB) rfl hr.2.2.2.2.2.1 dX3_askReserved_22 ?_
          refine lv_iconst (v := nI (0)) hx hb dX3_askReserved_25 (by decide) ?_
          refine fa_iald (k := b + 4) (j := 0) CX HX1249 (fa_lt hB 4 (by decide) hn) (fa_s4 hB) (by omega) (by first | decide | assumption) dX3_askReserved_26 ?_
          refine lv_aload_n hx hb dX3_askReserved_27 rfl (lv_at hl 0 rfl) ?_
          refine fa_geti (k := b) CX HX1249 fl_X3_45 (fa_lt hB 0 (by decide) hn) (fa_s0 hB) rfl dX3_askReserved_28 ?_
          refine lv_icmp_eq (tgt := 35) hx hb dX3_askReserved_31 (by decide) (fun c_31 => ?_) (fun c_31 => ?_)
          · refine lv_aload_n hx hb dX3_askReserved_35 rfl (lv_at hl 0 rfl) ?_
            refine lv_aload_n hx hb dX3_askReserved_36 rfl (lv_at hl 0 rfl) ?_
            refine fa_getr (k := b) (j := b + 2) CX HX1249 fl_X3_20 (fa_lt hB 0 (by decide) hn) (fa_s0 hB) rfl hr.2.1 dX3_askReserved_37 ?_
            refine fa_getr (k := b + 2) (j := b + 3) CX HX1249 fl_X3_159 (fa_lt hB 2 (by decide) hn) (fa_s2 hB) rfl hr.2.2.2.2.1 dX3_askReserved_40 ?_
            refine lv_iconst (v := nI (0)) hx hb dX3_askReserved_43 (by decide) ?_
            refine fa_iald (k := b + 3) (j := 0) CX HX1249 (fa_lt hB 3 (by decide) hn) (fa_s3 hB) (by omega) (by first | decide | assumption) dX3_askReserved_44 ?_
            refine fa_callVrp (As := [.int (v1248 (b + 3) 0)]) (rest := []) CX HX1249 (g_find l G n hn v1248 r b hB hr hi_2.2.1 (v1248 (b + 3) 0) ) ln_X3_88 (fa_lt hB 0 (by decide) hn) (fa_s0 hB) rfl rfl rfl (Nat.le_of_ble_eq_true rfl) hl.1 ⟨Nat.le_of_ble_eq_true rfl, Nat.le_of_ble_eq_true rfl⟩ ⟨Nat.le_refl _, Nat.le_refl _⟩ dX3_askReserved_45 (fun H locs h1250 HX1251 => ?_) (fun q1252 H locs h1250 HX1251 => ?_)
            · have hf_none := h1250.2 rfl
              refine lv_astore_nN (lv' := [(2, .null), (0, .ref (fa_B G + (b))), (1, .int (nI (j)))]) hx hb dX3_askReserved_48 rfl hl (by decide) rfl (fun ls hl => ?_)
              refine lv_aload_n hx hb dX3_askReserved_49 rfl (lv_at hl 1 rfl) ?_
              refine fa_getr (k := b) (j := b + 2) CX HX1251 fl_X3_20 (fa_lt hB 0 (by decide) hn) (fa_s0 hB) rfl hr.2.1 dX3_askReserved_50 ?_
              refine lv_iconst (v := nI (0)) hx hb dX3_askReserved_53 (by decide) ?_
              refine fa_callVvu (As := [.int (nI (0))]) (rest := []) CX HX1251 (g_removeAt l G n hn v1248 r b hB hr hi_2.2.1 (nI (0)) ) ln_X3_131 (fa_lt hB 2 (by decide) hn) (fa_s2 hB) rfl rfl rfl (Nat.le_of_ble_eq_true rfl) hl.1 ⟨Nat.le_of_ble_eq_true rfl, Nat.le_of_ble_eq_true rfl⟩ ⟨Nat.le_refl _, Nat.le_refl _⟩ dX3_askReserved_54 (fun v1254 H locs h1253 HX1255 => ?_)
              have h_removeAt := h1253.1
              have hIS_v1254 : fa_IS v1254 b := h1253.1.2
              refine lv_aload_nN hx hb dX3_askReserved_57 rfl (lv_at hl 0 rfl) ?_
              refine lv_ifnullN (tgt := 66) hx hb dX3_askReserved_58 (by decide) ?_
              refine lv_iinc (v := nI (j + 1)) (lv' := [(1, .int (nI (j + 1))), (2, .null), (0, .ref (fa_B G + (b)))]) hx hb dX3_askReserved_66 hl (k := 2) rfl (nI_add (j) 1) (by decide) rfl (fun ls hl => ?_)
              refine lv_goto (tgt := 2) hx hb dX3_askReserved_69 (by decide) ?_
              exact ih_2 (j + 1) v1254 _ _ _ (by omega) (⟨by omega, hIS_v1254, (fa_fr.tr (fa_fr.tr fa_fr.rf (fa_fr.wide hi_2.2.2.1 (by omega) (by omega))) (fa_fr.wide h1253.2 (by omega) (by omega))), (fun A L hok hc hL hP hS => ((hi_2.2.2.2 A L hok hc hL hP hS).has hok hP c_15 hf_none).elim)⟩) (lv_sub hl [2, 0] rfl) HX1255
            · have hf_q1252 := h1250.1 q1252 rfl
              have hq1252 := hf_q1252.1
              have hiq1252 := fa_isF_in hq1252
              refine lv_astore_n (lv' := [(2, .ref (fa_B G + (q1252))), (0, .ref (fa_B G + (b))), (1, .int (nI (j)))]) hx hb dX3_askReserved_48 rfl hl (by decide) rfl (fun ls hl => ?_)
              refine lv_aload_n hx hb dX3_askReserved_49 rfl (lv_at hl 1 rfl) ?_
              refine fa_getr (k := b) (j := b + 2) CX HX1251 fl_X3_20 (fa_lt hB 0 (by decide) hn) (fa_s0 hB) rfl hr.2.1 dX3_askReserved_50 ?_
              refine lv_iconst (v := nI (0)) hx hb dX3_askReserved_53 (by decide) ?_
              refine fa_callVvu (As := [.int (nI (0))]) (rest := []) CX HX1251 (g_removeAt l G n hn v1248 r b hB hr hi_2.2.1 (nI (0)) ) ln_X3_131 (fa_lt hB 2 (by decide) hn) (fa_s2 hB) rfl rfl rfl (Nat.le_of_ble_eq_true rfl) hl.1 ⟨Nat.le_of_ble_eq_true rfl, Nat.le_of_ble_eq_true rfl⟩ ⟨Nat.le_refl _, Nat.le_refl _⟩ dX3_askReserved_54 (fun v1257 H locs h1256 HX1258 => ?_)
              have h_removeAt := h1256.1
              have hIS_v1257 : fa_IS v1257 b := h1256.1.2
              refine lv_aload_n hx hb dX3_askReserved_57 rfl (lv_at hl 0 rfl) ?_
              refine lv_ifnull hx hb dX3_askReserved_58 ?_
              refine lv_aload_n hx hb dX3_askReserved_61 rfl (lv_at hl 1 rfl) ?_
              refine lv_aload_n hx hb dX3_askReserved_62 rfl (lv_at hl 0 rfl) ?_
              refine fa_callVvu (As := [.ref (fa_B G + (q1252))]) (rest := []) CX HX1258 (g_askStored l G n hn v1257 r b hB hr hIS_v1257 (q1252) hq1252) ln_X3_92 (fa_lt hB 0 (by decide) hn) (fa_s0 hB) rfl rfl rfl (Nat.le_of_ble_eq_true rfl) hl.1 ⟨Nat.le_of_ble_eq_true rfl, Nat.le_of_ble_eq_true rfl⟩ ⟨Nat.le_refl _, Nat.le_refl _⟩ dX3_askReserved_63 (fun v1260 H locs h1259 HX1261 => ?_)
              have h_ask_v1260 := h1259.1
              refine lv_iinc (v := nI (j + 1)) (lv' := [(1, .int (nI (j + 1))), (2, .ref (fa_B G + (q1252))), (0, .ref (fa_B G + (b)))]) hx hb dX3_askReserved_66 hl (k := 2) rfl (nI_add (j) 1) (by decide) rfl (fun ls hl => ?_)
              refine lv_goto (tgt := 2) hx hb dX3_askReserved_69 (by decide) ?_
              exact ih_2 (j + 1) v1260 _ _ _ (by omega) (⟨by omega, (by rw [h_ask_v1260]; exact fa_ask_IS hIS_v1257 hq1252), (fa_fr.tr (fa_fr.tr (fa_fr.tr fa_fr.rf (fa_fr.wide hi_2.2.2.1 (by omega) (by omega))) (fa_fr.wide h1256.2 (by omega) (by omega))) (fa_fr.wide h1259.2 (by omega) (by omega))), (fun A L hok hc hL hP hS => (hi_2.2.2.2 A L hok hc hL hP hS).s hok hP hS c_15 (by first | exact c_31 | exact Decidable.not_not.mp c_31) hf_q1252 h_removeAt.1 h1256.2 h_ask_v1260)⟩) (lv_sub hl [2, 0] rfl) HX1261
          · exact RET _ _ _ _ _ _ HX1249 dX3_askReserved_34 (⟨rfl, ⟨⟨(fun A hok hc => by (obtain ⟨L, hL, hP, hS⟩ := id hc.2.2.2.2.1; exact (hi_2.2.2.2 A L hok hc hL hP hS).e hok hP hS (Or.inr (Or.inl c_31)))), hi_2.2.1⟩, (fa_fr.tr fa_fr.rf (fa_fr.wide hi_2.2.2.1 (by omega) (by omega)))⟩⟩)
  exact LOOP_2 (8 - 0 + 1) (0) v _ _ _ (Nat.lt_succ_self _) (⟨Nat.zero_le _, hI, fa_fr.rf, fun A L hok hc hL hP hS => fb_arI.start hc hL hP⟩) (lv_sub hl [1, 0] rfl) HX
set_option maxHeartbeats 4000000 in
set_option maxRecDepth 100000 in
theorem g_passDay (l : Launch) (G : fa_G) (n : Nat) (hn : 397 ≤ n) (v : fa_V) (r : fa_R) (b : Nat) (hB : b ∈ fa_bs) (hr : fa_RS r b) (hI : fa_IS v b) : fa_MI l G n yX3_passDay cX3_passDay 1 (some .int) 5 [.ref (fa_B G + (b))] v r (fun x w => (∀ A, fb_okA A → A.g 7 < nI 9999 → fb_cA v r b A → x = (fb_dayA A).1 ∧ fb_cA w.1 w.2 b (fb_dayA A).2) ∧ (fa_IS w.1 b) ∧ (fa_RS w.2 b) ∧ (fa_fr b (b + 56) v w.1) ∧ (∀ k, ¬ k = b + 1 → w.2 k = r k)) := by
  refine fa_startI (by decide +kernel) (Nat.le_of_ble_eq_true rfl) (fun p e s m args below meth c ls Q CX hl HX RET => ?_)
  have hl : lv_has ls 1 [(0, .ref (fa_B G + (b)))] := hl
  have hx := CX.1.1
  have hb := CX.1.2.1
  refine lv_aload_n hx hb dX3_passDay_0 rfl (lv_at hl 0 rfl) ?_
  refine lv_dup hx hb dX3_passDay_1 rfl ?_
  refine fa_geti (k := b) CX HX fl_X3_45 (fa_lt hB 0 (by decide) hn) (fa_s0 hB) rfl dX3_passDay_2 ?_
  refine lv_iconst (v := nI (1)) hx hb dX3_passDay_5 (by decide) ?_
  refine lv_iadd hx hb dX3_passDay_6 ?_
  refine fa_puti (k := b) CX HX fl_X3_45 (fa_lt hB 0 (by decide) hn) (fa_s0 hB) rfl rfl rfl dX3_passDay_7 (fun H locs v1262 e1263 HX1264 => ?_)
  refine lv_aload_n hx hb dX3_passDay_10 rfl (lv_at hl 0 rfl) ?_
  refine fa_callVvu (As := []) (rest := []) CX HX1264 (g_askReserved l G n hn v1262 r b hB hr (by rw [e1263]; exact fa_IS.u hI (Or.inl ⟨rfl, by decide⟩))  ) ln_X3_147 (fa_lt hB 0 (by decide) hn) (fa_s0 hB) rfl rfl rfl (Nat.le_of_ble_eq_true rfl) hl.1 ⟨Nat.le_of_ble_eq_true rfl, Nat.le_of_ble_eq_true rfl⟩ ⟨Nat.le_refl _, Nat.le_refl _⟩ dX3_passDay_11 (fun v1266 H locs h1265 HX1267 => ?_)
  have h_askReserved := h1265.1
  have hIS_v1266 : fa_IS v1266 b := h1265.1.2
  refine lv_aload_n hx hb dX3_passDay_14 rfl (lv_at hl 0 rfl) ?_
  refine fa_geti (k := b) CX HX1267 fl_X3_45 (fa_lt hB 0 (by decide) hn) (fa_s0 hB) rfl dX3_passDay_15 ?_
  refine lv_bipush (v := nI (90)) hx hb dX3_passDay_18 (by decide) ?_
  refine lv_irem hx hb dX3_passDay_20 (by decide) ?_
  refine lv_if_eq (tgt := 26) hx hb dX3_passDay_21 (by decide) (fun c_21 => ?_) (fun c_21 => ?_)
  · refine lv_aload_n hx hb dX3_passDay_26 rfl (lv_at hl 0 rfl) ?_
    refine fa_callVvu (As := []) (rest := []) CX HX1267 (g_markReasons l G n hn v1266 r b hB hr hIS_v1266  ) ln_X3_150 (fa_lt hB 0 (by decide) hn) (fa_s0 hB) rfl rfl rfl (Nat.le_of_ble_eq_true rfl) hl.1 ⟨Nat.le_of_ble_eq_true rfl, Nat.le_of_ble_eq_true rfl⟩ ⟨Nat.le_refl _, Nat.le_refl _⟩ dX3_passDay_27 (fun v1269 H locs h1268 HX1270 => ?_)
    have h_markReasons := h1268.1.1
    have h_mr2 := h1268.1.2
    refine lv_aload_n hx hb dX3_passDay_30 rfl (lv_at hl 0 rfl) ?_
    refine fa_callVi (As := []) (rest := []) CX HX1270 (g_burnUnmarked l G n hn v1269 r b hB hr (fa_rsn.IS h1268.1.1 hIS_v1266)  ) ln_X3_153 (fa_lt hB 0 (by decide) hn) (fa_s0 hB) rfl rfl rfl (Nat.le_of_ble_eq_true rfl) hl.1 ⟨Nat.le_of_ble_eq_true rfl, Nat.le_of_ble_eq_true rfl⟩ ⟨Nat.le_refl _, Nat.le_refl _⟩ dX3_passDay_31 (fun x1272 v1273 r1274 H locs h1271 HX1275 => ?_)
    dsimp only at h1271
    have hIS_v1273 := h1271.2.1
    have hr_r1274 := h1271.2.2.1
    have hrr_r1274 := h1271.2.2.2.2
    have h_burnUnmarked := h1271.1
    exact RET _ _ _ _ _ _ _ HX1275 dX3_passDay_34 (⟨(fun A hok hl hc => by (have z := fb_c_morn hok hl hc e1263 h_askReserved.1; rw [fb_dayA_1 (by rw [← z.2.2]; exact c_21)]; have y := h_burnUnmarked _ z.2.1 (z.1.rsn h_markReasons) (h_mr2 _ z.2.1 z.1); exact y)), hIS_v1273, hr_r1274, (fa_fr.tr (fa_fr.tr (fa_fr.tr (by rw [e1263]; exact fa_fr.u fa_fr.rf (by omega)) (fa_fr.wide h1265.2 (by omega) (by omega))) (fa_fr.wide h1268.2 (by omega) (by omega))) (fa_fr.wide h1271.2.2.2.1 (by omega) (by omega))), h1271.2.2.2.2⟩)
  · refine lv_iconst (v := nI (0)) hx hb dX3_passDay_24 (by decide) ?_
    exact RET _ _ _ _ _ _ _ HX1267 dX3_passDay_25 (⟨(fun A hok hl hc => by (have z := fb_c_morn hok hl hc e1263 h_askReserved.1; rw [fb_dayA_0 (by rw [← z.2.2]; exact c_21)]; exact ⟨rfl, z.1⟩)), hIS_v1266, hr, (fa_fr.tr (by rw [e1263]; exact fa_fr.u fa_fr.rf (by omega)) (fa_fr.wide h1265.2 (by omega) (by omega))), (fun k _ => rfl)⟩)
set_option maxHeartbeats 4000000 in
set_option maxRecDepth 100000 in
theorem g_passDays (l : Launch) (G : fa_G) (n : Nat) (hn : 397 ≤ n) (v : fa_V) (r : fa_R) (b : Nat) (hB : b ∈ fa_bs) (hr : fa_RS r b) (hI : fa_IS v b) (a1 : Int32) : fa_MI l G n yX3_passDays cX3_passDays 4 (some .int) 6 [.ref (fa_B G + (b)), .int (a1)] v r (fun x w => (∀ A, fb_okA A → fb_cA v r b A → x = (fb_passA A a1).1 ∧ fb_cA w.1 w.2 b (fb_passA A a1).2) ∧ (fa_IS w.1 b) ∧ (fa_RS w.2 b) ∧ (fa_fr b (b + 56) v w.1) ∧ (∀ k, ¬ k = b + 1 → w.2 k = r k)) := by
  refine fa_startI (by decide +kernel) (Nat.le_of_ble_eq_true rfl) (fun p e s m args below meth c ls Q CX hl HX RET => ?_)
  have hl : lv_has ls 4 [(0, .ref (fa_B G + (b))), (1, .int (a1))] := hl
  have hx := CX.1.1
  have hb := CX.1.2.1
  refine lv_iload_n hx hb dX3_passDays_0 rfl (lv_at hl 1 rfl) ?_
  refine lv_iconst (v := nI (1)) hx hb dX3_passDays_1 (by decide) ?_
  refine lv_icmp_lt (tgt := 12) hx hb dX3_passDays_2 (by decide) (fun c_2 => ?_) (fun c_2 => ?_)
  · refine lv_bipush (v := (-2 : Int32)) hx hb dX3_passDays_12 (by decide) ?_
    exact RET _ _ _ _ _ _ _ HX dX3_passDays_14 (⟨(fun A hok hc => by (rw [fb_passA_1 (Or.inl c_2)]; exact ⟨rfl, hc⟩)), hI, hr, fa_fr.rf, (fun k _ => rfl)⟩)
  · refine lv_iload_n hx hb dX3_passDays_5 rfl (lv_at hl 1 rfl) ?_
    refine lv_sipush (v := nI (400)) hx hb dX3_passDays_6 (by decide) ?_
    refine lv_icmp_le (tgt := 15) hx hb dX3_passDays_9 (by decide) (fun c_9 => ?_) (fun c_9 => ?_)
    · obtain ⟨ka, hka1, hka, eka⟩ := fa_natIn (by decide) c_2 c_9
      refine lv_aload_n hx hb dX3_passDays_15 rfl (lv_at hl 0 rfl) ?_
      refine fa_geti (k := b) CX HX fl_X3_45 (fa_lt hB 0 (by decide) hn) (fa_s0 hB) rfl dX3_passDays_16 ?_
      refine lv_iload_n hx hb dX3_passDays_19 rfl (lv_at hl 1 rfl) ?_
      refine lv_iadd hx hb dX3_passDays_20 ?_
      refine lv_sipush (v := nI (9999)) hx hb dX3_passDays_21 (by decide) ?_
      refine lv_icmp_le (tgt := 30) hx hb dX3_passDays_24 (by decide) (fun c_24 => ?_) (fun c_24 => ?_)
      · refine lv_iconst (v := nI (0)) hx hb dX3_passDays_30 (by decide) ?_
        refine lv_istore_n (lv' := [(2, .int (nI (0))), (0, .ref (fa_B G + (b))), (1, .int (a1))]) hx hb dX3_passDays_31 rfl hl (by decide) rfl (fun ls hl => ?_)
        refine lv_iconst (v := nI (0)) hx hb dX3_passDays_32 (by decide) ?_
        refine lv_istore_n (lv' := [(3, .int (nI (0))), (2, .int (nI (0))), (0, .ref (fa_B G + (b))), (1, .int (a1))]) hx hb dX3_passDays_33 rfl hl (by decide) rfl (fun ls hl => ?_)
        have LOOP_34 : ∀ (fu : Nat) (j : Nat) (bu : Int32) (v1276 : fa_V) (r1277 : fa_R) (H : Heap) (locs : List Loc) (ls : Array Slot), ka - j < fu → (j ≤ ka ∧ fa_IS v1276 b ∧ fa_RS r1277 b ∧ fa_fr b (b + 56) v v1276 ∧ (∀ k, ¬ k = b + 1 → r1277 k = r k) ∧ (∀ A, fb_okA A → fb_cA v r b A → A.g 7 + a1 ≤ nI 9999 → bu = (fb_daysA A j).1 ∧ fb_cA v1276 r1277 b (fb_daysA A j).2)) → lv_has ls 4 [(0, .ref (fa_B G + (b))), (1, .int (a1)), (2, .int (bu)), (3, .int (nI (j)))] → fa_HX G (n) v1276 r1277 s H locs → W p l e (fa_rm 6) s m args below meth c H locs (0) (0) Q (F0 m 34 ls []) := by
          intro fu
          induction fu with
          | zero => intro j bu v1276 r1277 H locs ls hk; exact absurd hk (Nat.not_lt_zero _)
          | succ fu ih_34 =>
            intro j bu v1276 r1277 H locs ls hk_34 hi_34 hl HX1278
            have hr_r1277 := hi_34.2.2.1
            refine lv_iload_n hx hb dX3_passDays_34 rfl (lv_at hl 3 rfl) ?_
            refine lv_iload_n hx hb dX3_passDays_35 rfl (lv_at hl 1 rfl) ?_
            refine lv_icmp_ge (tgt := 52) hx hb dX3_passDays_36 (by decide) (fun c_36 => ?_) (fun c_36 => ?_)
            · have hjn : j = ka := by
                rw [eka] at c_36
                have := fa_leN (by omega) (by omega) c_36
                omega
              refine lv_iload_n hx hb dX3_passDays_52 rfl (lv_at hl 2 rfl) ?_
              exact RET _ _ _ _ _ _ _ HX1278 dX3_passDays_53 (⟨(fun A hok hc => by (have h9 : A.g 7 + a1 ≤ nI 9999 := (by rw [← hc.now]; exact c_24); rw [fb_passA_3 (fun z => z.elim c_2 (fun z => z c_9)) h9 eka (by omega)]; have z := hi_34.2.2.2.2.2 A hok hc h9; rw [show j = ka by exact hjn] at z; exact z)), hi_34.2.1, hr_r1277, (fa_fr.tr fa_fr.rf (fa_fr.wide hi_34.2.2.2.1 (by omega) (by omega))), hi_34.2.2.2.2.1⟩)
            · have hj : j < ka := by
                rw [eka] at c_36
                exact fa_ltN (by omega) (by omega) c_36
              refine lv_iload_n hx hb dX3_passDays_39 rfl (lv_at hl 2 rfl) ?_
              refine lv_aload_n hx hb dX3_passDays_40 rfl (lv_at hl 0 rfl) ?_
              refine fa_callVi (As := []) (rest := [.int (bu)]) CX HX1278 (g_passDay l G n hn v1276 r1277 b hB hr_r1277 hi_34.2.1  ) ln_X3_135 (fa_lt hB 0 (by decide) hn) (fa_s0 hB) rfl rfl rfl (Nat.le_of_ble_eq_true rfl) hl.1 ⟨Nat.le_of_ble_eq_true rfl, Nat.le_of_ble_eq_true rfl⟩ ⟨Nat.le_refl _, Nat.le_refl _⟩ dX3_passDays_41 (fun x1280 v1281 r1282 H locs h1279 HX1283 => ?_)
              dsimp only at h1279
              have hIS_v1281 := h1279.2.1
              have hr_r1282 := h1279.2.2.1
              have hrr_r1282 := h1279.2.2.2.2
              have h_passDay := h1279.1
              refine lv_iadd hx hb dX3_passDays_44 ?_
              refine lv_istore_n (lv' := [(2, .int ((bu) + (x1280))), (0, .ref (fa_B G + (b))), (1, .int (a1)), (3, .int (nI (j)))]) hx hb dX3_passDays_45 rfl hl (by decide) rfl (fun ls hl => ?_)
              refine lv_iinc (v := nI (j + 1)) (lv' := [(3, .int (nI (j + 1))), (2, .int ((bu) + (x1280))), (0, .ref (fa_B G + (b))), (1, .int (a1))]) hx hb dX3_passDays_46 hl (k := 3) rfl (nI_add (j) 1) (by decide) rfl (fun ls hl => ?_)
              refine lv_goto (tgt := 34) hx hb dX3_passDays_49 (by decide) ?_
              exact ih_34 (j + 1) ((bu) + (x1280)) v1281 r1282 _ _ _ (by omega) (⟨by omega, hIS_v1281, hr_r1282, (fa_fr.tr (fa_fr.tr fa_fr.rf (fa_fr.wide hi_34.2.2.2.1 (by omega) (by omega))) (fa_fr.wide h1279.2.2.2.1 (by omega) (by omega))), (fun k hk => (h1279.2.2.2.2 k hk).trans (hi_34.2.2.2.2.1 k hk)), (fun A hok hc h9 => by (have z := hi_34.2.2.2.2.2 A hok hc h9; obtain ⟨d, hd, e⟩ := hok.1.2.1; have h8 : d + ka ≤ 9999 := (by rw [e, eka, nI_add] at h9; exact (nI_leI (by omega) (by decide)).mp h9); have y := hok.days e j (by omega); have w := h_passDay _ y.1 (by rw [y.2]; exact nI_lt (by omega) (by decide)) z.2; exact ⟨by (rw [z.1, w.1]; rfl), w.2⟩))⟩) (lv_sub hl [2, 3, 1, 0] rfl) HX1283
        exact LOOP_34 (ka - 0 + 1) (0) (nI (0)) v r _ _ _ (Nat.lt_succ_self _) (⟨Nat.zero_le _, hI, hr, fa_fr.rf, fun k _ => rfl, fun A hok hc _ => ⟨rfl, hc⟩⟩) (lv_sub hl [2, 3, 1, 0] rfl) HX
      · refine lv_bipush (v := (-5 : Int32)) hx hb dX3_passDays_27 (by decide) ?_
        exact RET _ _ _ _ _ _ _ HX dX3_passDays_29 (⟨(fun A hok hc => by (rw [fb_passA_2 (fun z => z.elim c_2 (fun z => z c_9)) (by rw [← hc.now]; exact c_24)]; exact ⟨rfl, hc⟩)), hI, hr, fa_fr.rf, (fun k _ => rfl)⟩)
    · refine lv_bipush (v := (-2 : Int32)) hx hb dX3_passDays_12 (by decide) ?_
      exact RET _ _ _ _ _ _ _ HX dX3_passDays_14 (⟨(fun A hok hc => by (rw [fb_passA_1 (Or.inr c_9)]; exact ⟨rfl, hc⟩)), hI, hr, fa_fr.rf, (fun k _ => rfl)⟩)
