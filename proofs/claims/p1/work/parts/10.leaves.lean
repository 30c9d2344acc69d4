set_option maxHeartbeats 4000000 in
set_option maxRecDepth 100000 in
theorem c_X3_find (l : Launch) (G : fa_G) (n : Nat) (hn : 397 ≤ n) (v : fa_V) (r : fa_R) (b : Nat) (hB : b ∈ fa_bs) (hr : fa_RS r b) (a1 : Int32) (h1 : v b 1 = 0) : fa_MR l G n yX3_find cX3_find 3 (some (.object RX4)) 1 [.ref (fa_B G + (b)), .int (a1)] v r (fun x w => w = (v, r) ∧ (x = none)) := by
  refine fa_startR (by decide +kernel) (Nat.le_of_ble_eq_true rfl) (fun p e s m args below meth c ls Q CX hl HX RET => ?_)
  have hl : lv_has ls 3 [(0, .ref (fa_B G + (b))), (1, .int (a1))] := hl
  have hx := CX.1.1
  have hb := CX.1.2.1
  refine lv_iconst (v := nI (0)) hx hb dX3_find_0 (by decide) ?_
  refine lv_istore_n (lv' := [(2, .int (nI (0))), (0, .ref (fa_B G + (b))), (1, .int (a1))]) hx hb dX3_find_1 rfl hl (by decide) rfl (fun ls hl => ?_)
  refine lv_iload_n hx hb dX3_find_2 rfl (lv_at hl 0 rfl) ?_
  refine lv_aload_n hx hb dX3_find_3 rfl (lv_at hl 1 rfl) ?_
  refine fa_geti (k := b) CX HX fl_X3_49 (fa_lt hB 0 (by decide) hn) (fa_s0 hB) rfl dX3_find_4 ?_
  refine lv_icmp_ge (tgt := 36) hx hb dX3_find_7 (by decide) (fun c_7 => ?_) (fun c_7 => ?_)
  · refine lv_null hx hb dX3_find_36 ?_
    exact RET none _ _ _ _ _ _ _ HX dX3_find_37 rfl (⟨rfl, rfl⟩)
  · exact absurd (by rw [h1]; decide) c_7
