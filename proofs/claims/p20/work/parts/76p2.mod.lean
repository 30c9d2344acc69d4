set_option maxHeartbeats 4000000 in
set_option maxRecDepth 100000 in
theorem r_find (l : Launch) (G : fa_G) (n : Nat) (hn : 406 ≤ n) (v : fa_V) (r : fa_R) (hM : fa_RM r) (hS : fa_MS (v 398)) (a1 : Int32) (a2 : Int32) : fa_MI l G n yX7_find cX7_find 5 (some .int) 1 [.ref (fa_B G + (397)), .int (a1), .int (a2)] v r (fun x w => w = (v, r) ∧ ((fa_pl (fa_N (v 398 15)) x) ∧ fb_fd (v 398) a1 a2 (fa_N (v 398 15)) x)) := by
  refine fa_startI (by decide +kernel) (Nat.le_of_ble_eq_true rfl) (fun p e s m args below meth c ls Q CX hl HX RET => ?_)
  have hl : lv_has ls 5 [(0, .ref (fa_B G + (397))), (1, .int (a1)), (2, .int (a2))] := hl
  have hx := CX.1.1
  have hb := CX.1.2.1
  obtain ⟨n4, en4⟩ : ∃ m, m = fa_N (v 398 14) := ⟨_, rfl⟩
  obtain ⟨hn4, g4⟩ := hS.n4 en4
  obtain ⟨n5, en5⟩ : ∃ m, m = fa_N (v 398 15) := ⟨_, rfl⟩
  obtain ⟨hn5, g5⟩ := hS.n5 en5
  obtain ⟨n6, en6⟩ : ∃ m, m = fa_N (v 398 16) := ⟨_, rfl⟩
  obtain ⟨hn6, g6⟩ := hS.n6 en6
  refine lv_iconst (v := (-1 : Int32)) hx hb dX7_find_0 (by decide) ?_
  refine lv_istore_n (lv' := [(3, .int ((-1 : Int32))), (0, .ref (fa_B G + (397))), (1, .int (a1)), (2, .int (a2))]) hx hb dX7_find_1 rfl hl (by decide) rfl (fun ls hl => ?_)
  refine lv_iconst (v := nI (0)) hx hb dX7_find_2 (by decide) ?_
  refine lv_istore (lv' := [(4, .int (nI (0))), (3, .int ((-1 : Int32))), (0, .ref (fa_B G + (397))), (1, .int (a1)), (2, .int (a2))]) hx hb dX7_find_3 hl (by decide) rfl (fun ls hl => ?_)
  have LOOP_5 : ∀ (fu : Nat) (j : Nat) (fo : Int32) (H : Heap) (locs : List Loc) (ls : Array Slot), n5 - j < fu → (j ≤ n5 ∧ fa_pl n5 fo ∧ fb_fd (v 398) a1 a2 j fo) → lv_has ls 5 [(0, .ref (fa_B G + (397))), (1, .int (a1)), (2, .int (a2)), (3, .int (fo)), (4, .int (nI (j)))] → fa_HX G (n) v r s H locs → W p l e (fa_rm 1) s m args below meth c H locs (0) (0) Q (F0 m 5 ls []) := by
    intro fu
    induction fu with
    | zero => intro j fo H locs ls hk; exact absurd hk (Nat.not_lt_zero _)
    | succ fu ih_5 =>
      intro j fo H locs ls hk_5 hi_5 hl HX2117
      refine lv_iload hx hb dX7_find_5 (lv_at hl 4 rfl) ?_
      refine lv_aload_n hx hb dX7_find_7 rfl (lv_at hl 0 rfl) ?_
      refine fa_getr (k := 397) (j := 398) CX HX2117 fl_X7_7 (by omega) rfl rfl hM.1 dX7_find_8 ?_
      refine lv_bipush (v := nI (15)) hx hb dX7_find_11 (by decide) ?_
      refine fa_iald (k := 398) (j := 15) CX HX2117 (by omega) rfl (by omega) (by first | decide | assumption) dX7_find_13 ?_
      rw [show v 398 15 = nI (n5) from g5]
      refine lv_icmp_ge (tgt := 66) hx hb dX7_find_14 (by decide) (fun c_14 => ?_) (fun c_14 => ?_)
      · have hjn : j = n5 := by
          have := fa_leN (by omega) (by omega) c_14
          omega
        refine lv_iload_n hx hb dX7_find_66 rfl (lv_at hl 3 rfl) ?_
        exact RET _ _ _ _ _ _ _ HX2117 dX7_find_67 (⟨rfl, (by rw [← en5]; exact ⟨hi_5.2.1, (by have z := hi_5.2.2; rw [hjn] at z; exact z)⟩)⟩)
      · have hj := fa_ltN (by omega) (by omega) c_14
        refine lv_aload_n hx hb dX7_find_17 rfl (lv_at hl 0 rfl) ?_
        refine fa_getr (k := 397) (j := 398) CX HX2117 fl_X7_7 (by omega) rfl rfl hM.1 dX7_find_18 ?_
        refine lv_sipush (v := nI (377)) hx hb dX7_find_21 (by decide) ?_
        refine lv_iconst (v := nI (2)) hx hb dX7_find_24 (by decide) ?_
        refine lv_iload hx hb dX7_find_25 (lv_at hl 4 rfl) ?_
        refine fa_imulN hx hb dX7_find_27 ?_
        refine fa_iaddN hx hb dX7_find_28 ?_
        refine fa_iald (k := 398) (j := 377 + (2 * j)) CX HX2117 (by omega) rfl (by omega) (by first | decide | assumption) dX7_find_29 ?_
        refine lv_iload_n hx hb dX7_find_30 rfl (lv_at hl 1 rfl) ?_
        refine lv_icmp_ne (tgt := 58) hx hb dX7_find_31 (by decide) (fun c_31 => ?_) (fun c_31 => ?_)
        · refine lv_iload_n hx hb dX7_find_58 rfl (lv_at hl 3 rfl) ?_
          refine lv_istore_n (lv' := [(3, .int (fo)), (0, .ref (fa_B G + (397))), (1, .int (a1)), (2, .int (a2)), (4, .int (nI (j)))]) hx hb dX7_find_59 rfl hl (by decide) rfl (fun ls hl => ?_)
          refine lv_iinc (v := nI (j + 1)) (lv' := [(4, .int (nI (j + 1))), (3, .int (fo)), (0, .ref (fa_B G + (397))), (1, .int (a1)), (2, .int (a2))]) hx hb dX7_find_60 hl (k := 4) rfl (nI_add (j) 1) (by decide) rfl (fun ls hl => ?_)
          refine lv_goto (tgt := 5) hx hb dX7_find_63 (by decide) ?_
          exact ih_5 (j + 1) (fo)  _ _ _ (by omega) (⟨by omega, hi_5.2.1, hi_5.2.2.f (fun z => c_31 z.1)⟩) (lv_sub hl [2, 3, 4, 1, 0] rfl) HX2117
        · refine lv_aload_n hx hb dX7_find_34 rfl (lv_at hl 0 rfl) ?_
          refine fa_getr (k := 397) (j := 398) CX HX2117 fl_X7_7 (by omega) rfl rfl hM.1 dX7_find_35 ?_
          refine lv_sipush (v := nI (377)) hx hb dX7_find_38 (by decide) ?_
          refine lv_iconst (v := nI (2)) hx hb dX7_find_41 (by decide) ?_
          refine lv_iload hx hb dX7_find_42 (lv_at hl 4 rfl) ?_
          refine fa_imulN hx hb dX7_find_44 ?_
          refine fa_iaddN hx hb dX7_find_45 ?_
          refine lv_iconst (v := nI (1)) hx hb dX7_find_46 (by decide) ?_
          refine fa_iaddN hx hb dX7_find_47 ?_
          refine fa_iald (k := 398) (j := 377 + (2 * j) + 1) CX HX2117 (by omega) rfl (by omega) (by first | decide | assumption) dX7_find_48 ?_
          refine lv_iload_n hx hb dX7_find_49 rfl (lv_at hl 2 rfl) ?_
          refine lv_icmp_ne (tgt := 58) hx hb dX7_find_50 (by decide) (fun c_50 => ?_) (fun c_50 => ?_)
          · refine lv_iload_n hx hb dX7_find_58 rfl (lv_at hl 3 rfl) ?_
            refine lv_istore_n (lv' := [(3, .int (fo)), (0, .ref (fa_B G + (397))), (1, .int (a1)), (2, .int (a2)), (4, .int (nI (j)))]) hx hb dX7_find_59 rfl hl (by decide) rfl (fun ls hl => ?_)
            refine lv_iinc (v := nI (j + 1)) (lv' := [(4, .int (nI (j + 1))), (3, .int (fo)), (0, .ref (fa_B G + (397))), (1, .int (a1)), (2, .int (a2))]) hx hb dX7_find_60 hl (k := 4) rfl (nI_add (j) 1) (by decide) rfl (fun ls hl => ?_)
            refine lv_goto (tgt := 5) hx hb dX7_find_63 (by decide) ?_
            exact ih_5 (j + 1) (fo)  _ _ _ (by omega) (⟨by omega, hi_5.2.1, hi_5.2.2.f (fun z => c_50 z.2)⟩) (lv_sub hl [2, 3, 4, 1, 0] rfl) HX2117
          · refine lv_iload hx hb dX7_find_53 (lv_at hl 4 rfl) ?_
            refine lv_goto (tgt := 59) hx hb dX7_find_55 (by decide) ?_
            refine lv_istore_n (lv' := [(3, .int (nI (j))), (0, .ref (fa_B G + (397))), (1, .int (a1)), (2, .int (a2)), (4, .int (nI (j)))]) hx hb dX7_find_59 rfl hl (by decide) rfl (fun ls hl => ?_)
            refine lv_iinc (v := nI (j + 1)) (lv' := [(4, .int (nI (j + 1))), (3, .int (nI (j))), (0, .ref (fa_B G + (397))), (1, .int (a1)), (2, .int (a2))]) hx hb dX7_find_60 hl (k := 4) rfl (nI_add (j) 1) (by decide) rfl (fun ls hl => ?_)
            refine lv_goto (tgt := 5) hx hb dX7_find_63 (by decide) ?_
            exact ih_5 (j + 1) (nI (j))  _ _ _ (by omega) (⟨by omega, Or.inr ⟨j, by omega, rfl⟩, fb_fd_t (by first | exact c_31 | exact Decidable.not_not.mp c_31) (by first | exact c_50 | exact Decidable.not_not.mp c_50)⟩) (lv_sub hl [2, 3, 4, 1, 0] rfl) HX2117
  exact LOOP_5 (n5 - 0 + 1) (0) ((-1 : Int32))  _ _ _ (Nat.lt_succ_self _) (⟨Nat.zero_le _, Or.inl rfl, fb_fd_0⟩) (lv_sub hl [2, 3, 4, 1, 0] rfl) HX
