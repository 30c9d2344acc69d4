set_option maxHeartbeats 4000000 in
set_option maxRecDepth 100000 in
theorem r_ahead (l : Launch) (G : fa_G) (n : Nat) (hn : 406 ≤ n) (v : fa_V) (r : fa_R) (hM : fa_RM r) (hS : fa_MS (v 398)) (u : Nat) (hu : u < 24) : fa_MI l G n yX7_ahead cX7_ahead 5 (some .int) 1 [.ref (fa_B G + (397)), .int (nI (u))] v r (fun x w => w = (v, r) ∧ (x = fb_ahm (v 398) u (fa_N (v 398 15)))) := by
  refine fa_startI (by decide +kernel) (Nat.le_of_ble_eq_true rfl) (fun p e s m args below meth c ls Q CX hl HX RET => ?_)
  have hl : lv_has ls 5 [(0, .ref (fa_B G + (397))), (1, .int (nI (u)))] := hl
  have hx := CX.1.1
  have hb := CX.1.2.1
  obtain ⟨n4, en4⟩ : ∃ m, m = fa_N (v 398 14) := ⟨_, rfl⟩
  obtain ⟨hn4, g4⟩ := hS.n4 en4
  obtain ⟨n5, en5⟩ : ∃ m, m = fa_N (v 398 15) := ⟨_, rfl⟩
  obtain ⟨hn5, g5⟩ := hS.n5 en5
  obtain ⟨n6, en6⟩ : ∃ m, m = fa_N (v 398 16) := ⟨_, rfl⟩
  obtain ⟨hn6, g6⟩ := hS.n6 en6
  refine lv_iconst (v := nI (0)) hx hb dX7_ahead_0 (by decide) ?_
  refine lv_istore_n (lv' := [(2, .int (nI (0))), (0, .ref (fa_B G + (397))), (1, .int (nI (u)))]) hx hb dX7_ahead_1 rfl hl (by decide) rfl (fun ls hl => ?_)
  refine lv_iconst (v := nI (0)) hx hb dX7_ahead_2 (by decide) ?_
  refine lv_istore_n (lv' := [(3, .int (nI (0))), (2, .int (nI (0))), (0, .ref (fa_B G + (397))), (1, .int (nI (u)))]) hx hb dX7_ahead_3 rfl hl (by decide) rfl (fun ls hl => ?_)
  have LOOP_4 : ∀ (fu : Nat) (j : Nat) (ac : Int32) (H : Heap) (locs : List Loc) (ls : Array Slot), n5 - j < fu → (j ≤ n5 ∧ ac = fa_sum (fun k => if v 398 (377 + (2 * k) + 1) - v 398 (377 + (2 * u) + 1) < 0 ∨ (v 398 (377 + (2 * k) + 1) - v 398 (377 + (2 * u) + 1) = 0 ∧ ¬ v 398 (377 + (2 * u)) ≤ v 398 (377 + (2 * k))) then 1 else 0) j) → lv_has ls 5 [(0, .ref (fa_B G + (397))), (1, .int (nI (u))), (2, .int (ac)), (3, .int (nI (j)))] → fa_HX G (n) v r s H locs → W p l e (fa_rm 1) s m args below meth c H locs (0) (0) Q (F0 m 4 ls []) := by
    intro fu
    induction fu with
    | zero => intro j ac H locs ls hk; exact absurd hk (Nat.not_lt_zero _)
    | succ fu ih_4 =>
      intro j ac H locs ls hk_4 hi_4 hl HX2118
      refine lv_iload_n hx hb dX7_ahead_4 rfl (lv_at hl 3 rfl) ?_
      refine lv_aload_n hx hb dX7_ahead_5 rfl (lv_at hl 0 rfl) ?_
      refine fa_getr (k := 397) (j := 398) CX HX2118 fl_X7_7 (by omega) rfl rfl hM.1 dX7_ahead_6 ?_
      refine lv_bipush (v := nI (15)) hx hb dX7_ahead_9 (by decide) ?_
      refine fa_iald (k := 398) (j := 15) CX HX2118 (by omega) rfl (by omega) (by first | decide | assumption) dX7_ahead_11 ?_
      rw [show v 398 15 = nI (n5) from g5]
      refine lv_icmp_ge (tgt := 97) hx hb dX7_ahead_12 (by decide) (fun c_12 => ?_) (fun c_12 => ?_)
      · have hjn : j = n5 := by
          have := fa_leN (by omega) (by omega) c_12
          omega
        refine lv_iload_n hx hb dX7_ahead_97 rfl (lv_at hl 2 rfl) ?_
        exact RET _ _ _ _ _ _ _ HX2118 dX7_ahead_98 (⟨rfl, (by unfold fb_ahm; rw [← en5, ← hjn]; exact hi_4.2)⟩)
      · have hj := fa_ltN (by omega) (by omega) c_12
        refine lv_aload_n hx hb dX7_ahead_15 rfl (lv_at hl 0 rfl) ?_
        refine fa_getr (k := 397) (j := 398) CX HX2118 fl_X7_7 (by omega) rfl rfl hM.1 dX7_ahead_16 ?_
        refine lv_sipush (v := nI (377)) hx hb dX7_ahead_19 (by decide) ?_
        refine lv_iconst (v := nI (2)) hx hb dX7_ahead_22 (by decide) ?_
        refine lv_iload_n hx hb dX7_ahead_23 rfl (lv_at hl 3 rfl) ?_
        refine fa_imulN hx hb dX7_ahead_24 ?_
        refine fa_iaddN hx hb dX7_ahead_25 ?_
        refine lv_iconst (v := nI (1)) hx hb dX7_ahead_26 (by decide) ?_
        refine fa_iaddN hx hb dX7_ahead_27 ?_
        refine fa_iald (k := 398) (j := 377 + (2 * j) + 1) CX HX2118 (by omega) rfl (by omega) (by first | decide | assumption) dX7_ahead_28 ?_
        refine lv_aload_n hx hb dX7_ahead_29 rfl (lv_at hl 0 rfl) ?_
        refine fa_getr (k := 397) (j := 398) CX HX2118 fl_X7_7 (by omega) rfl rfl hM.1 dX7_ahead_30 ?_
        refine lv_sipush (v := nI (377)) hx hb dX7_ahead_33 (by decide) ?_
        refine lv_iconst (v := nI (2)) hx hb dX7_ahead_36 (by decide) ?_
        refine lv_iload_n hx hb dX7_ahead_37 rfl (lv_at hl 1 rfl) ?_
        refine fa_imulN hx hb dX7_ahead_38 ?_
        refine fa_iaddN hx hb dX7_ahead_39 ?_
        refine lv_iconst (v := nI (1)) hx hb dX7_ahead_40 (by decide) ?_
        refine fa_iaddN hx hb dX7_ahead_41 ?_
        refine fa_iald (k := 398) (j := 377 + (2 * u) + 1) CX HX2118 (by omega) rfl (by omega) (by first | decide | assumption) dX7_ahead_42 ?_
        refine lv_isub hx hb dX7_ahead_43 ?_
        refine lv_istore (lv' := [(4, .int ((v 398 (377 + (2 * j) + 1)) - (v 398 (377 + (2 * u) + 1)))), (0, .ref (fa_B G + (397))), (1, .int (nI (u))), (2, .int (ac)), (3, .int (nI (j)))]) hx hb dX7_ahead_44 hl (by decide) rfl (fun ls hl => ?_)
        refine lv_iload_n hx hb dX7_ahead_46 rfl (lv_at hl 3 rfl) ?_
        refine lv_iload hx hb dX7_ahead_47 (lv_at hl 0 rfl) ?_
        refine lv_if_lt (tgt := 84) hx hb dX7_ahead_49 (by decide) (fun c_49 => ?_) (fun c_49 => ?_)
        · refine lv_iconst (v := nI (1)) hx hb dX7_ahead_84 (by decide) ?_
          refine lv_goto (tgt := 89) hx hb dX7_ahead_85 (by decide) ?_
          refine lv_iadd hx hb dX7_ahead_89 ?_
          refine lv_istore_n (lv' := [(2, .int ((ac) + (nI (1)))), (4, .int ((v 398 (377 + (2 * j) + 1)) - (v 398 (377 + (2 * u) + 1)))), (0, .ref (fa_B G + (397))), (1, .int (nI (u))), (3, .int (nI (j)))]) hx hb dX7_ahead_90 rfl hl (by decide) rfl (fun ls hl => ?_)
          refine lv_iinc (v := nI (j + 1)) (lv' := [(3, .int (nI (j + 1))), (2, .int ((ac) + (nI (1)))), (4, .int ((v 398 (377 + (2 * j) + 1)) - (v 398 (377 + (2 * u) + 1)))), (0, .ref (fa_B G + (397))), (1, .int (nI (u)))]) hx hb dX7_ahead_91 hl (k := 4) rfl (nI_add (j) 1) (by decide) rfl (fun ls hl => ?_)
          refine lv_goto (tgt := 4) hx hb dX7_ahead_94 (by decide) ?_
          exact ih_4 (j + 1) ((ac) + (nI (1)))  _ _ _ (by omega) (⟨by omega, by rw [hi_4.2]; exact fa_sum_t (Or.inl c_49)⟩) (lv_sub hl [3, 4, 1, 0] rfl) HX2118
        · refine lv_iload hx hb dX7_ahead_52 (lv_at hl 0 rfl) ?_
          refine lv_if_ne (tgt := 88) hx hb dX7_ahead_54 (by decide) (fun c_54 => ?_) (fun c_54 => ?_)
          · refine lv_iconst (v := nI (0)) hx hb dX7_ahead_88 (by decide) ?_
            refine lv_iadd hx hb dX7_ahead_89 ?_
            refine lv_istore_n (lv' := [(2, .int ((ac) + (nI (0)))), (4, .int ((v 398 (377 + (2 * j) + 1)) - (v 398 (377 + (2 * u) + 1)))), (0, .ref (fa_B G + (397))), (1, .int (nI (u))), (3, .int (nI (j)))]) hx hb dX7_ahead_90 rfl hl (by decide) rfl (fun ls hl => ?_)
            refine lv_iinc (v := nI (j + 1)) (lv' := [(3, .int (nI (j + 1))), (2, .int ((ac) + (nI (0)))), (4, .int ((v 398 (377 + (2 * j) + 1)) - (v 398 (377 + (2 * u) + 1)))), (0, .ref (fa_B G + (397))), (1, .int (nI (u)))]) hx hb dX7_ahead_91 hl (k := 4) rfl (nI_add (j) 1) (by decide) rfl (fun ls hl => ?_)
            refine lv_goto (tgt := 4) hx hb dX7_ahead_94 (by decide) ?_
            exact ih_4 (j + 1) ((ac) + (nI (0)))  _ _ _ (by omega) (⟨by omega, by rw [hi_4.2]; exact (Int32.add_zero _).trans (fa_sum_f (fun z => z.elim c_49 (fun y => c_54 y.1)))⟩) (lv_sub hl [3, 4, 1, 0] rfl) HX2118
          · refine lv_aload_n hx hb dX7_ahead_57 rfl (lv_at hl 1 rfl) ?_
            refine fa_getr (k := 397) (j := 398) CX HX2118 fl_X7_7 (by omega) rfl rfl hM.1 dX7_ahead_58 ?_
            refine lv_sipush (v := nI (377)) hx hb dX7_ahead_61 (by decide) ?_
            refine lv_iconst (v := nI (2)) hx hb dX7_ahead_64 (by decide) ?_
            refine lv_iload_n hx hb dX7_ahead_65 rfl (lv_at hl 4 rfl) ?_
            refine fa_imulN hx hb dX7_ahead_66 ?_
            refine fa_iaddN hx hb dX7_ahead_67 ?_
            refine fa_iald (k := 398) (j := 377 + (2 * j)) CX HX2118 (by omega) rfl (by omega) (by first | decide | assumption) dX7_ahead_68 ?_
            refine lv_aload_n hx hb dX7_ahead_69 rfl (lv_at hl 1 rfl) ?_
            refine fa_getr (k := 397) (j := 398) CX HX2118 fl_X7_7 (by omega) rfl rfl hM.1 dX7_ahead_70 ?_
            refine lv_sipush (v := nI (377)) hx hb dX7_ahead_73 (by decide) ?_
            refine lv_iconst (v := nI (2)) hx hb dX7_ahead_76 (by decide) ?_
            refine lv_iload_n hx hb dX7_ahead_77 rfl (lv_at hl 2 rfl) ?_
            refine fa_imulN hx hb dX7_ahead_78 ?_
            refine fa_iaddN hx hb dX7_ahead_79 ?_
            refine fa_iald (k := 398) (j := 377 + (2 * u)) CX HX2118 (by omega) rfl (by omega) (by first | decide | assumption) dX7_ahead_80 ?_
            refine lv_icmp_ge (tgt := 88) hx hb dX7_ahead_81 (by decide) (fun c_81 => ?_) (fun c_81 => ?_)
            · refine lv_iconst (v := nI (0)) hx hb dX7_ahead_88 (by decide) ?_
              refine lv_iadd hx hb dX7_ahead_89 ?_
              refine lv_istore_n (lv' := [(2, .int ((ac) + (nI (0)))), (4, .int ((v 398 (377 + (2 * j) + 1)) - (v 398 (377 + (2 * u) + 1)))), (0, .ref (fa_B G + (397))), (1, .int (nI (u))), (3, .int (nI (j)))]) hx hb dX7_ahead_90 rfl hl (by decide) rfl (fun ls hl => ?_)
              refine lv_iinc (v := nI (j + 1)) (lv' := [(3, .int (nI (j + 1))), (2, .int ((ac) + (nI (0)))), (4, .int ((v 398 (377 + (2 * j) + 1)) - (v 398 (377 + (2 * u) + 1)))), (0, .ref (fa_B G + (397))), (1, .int (nI (u)))]) hx hb dX7_ahead_91 hl (k := 4) rfl (nI_add (j) 1) (by decide) rfl (fun ls hl => ?_)
              refine lv_goto (tgt := 4) hx hb dX7_ahead_94 (by decide) ?_
              exact ih_4 (j + 1) ((ac) + (nI (0)))  _ _ _ (by omega) (⟨by omega, by rw [hi_4.2]; exact (Int32.add_zero _).trans (fa_sum_f (fun z => z.elim c_49 (fun y => y.2 c_81)))⟩) (lv_sub hl [3, 4, 1, 0] rfl) HX2118
            · refine lv_iconst (v := nI (1)) hx hb dX7_ahead_84 (by decide) ?_
              refine lv_goto (tgt := 89) hx hb dX7_ahead_85 (by decide) ?_
              refine lv_iadd hx hb dX7_ahead_89 ?_
              refine lv_istore_n (lv' := [(2, .int ((ac) + (nI (1)))), (4, .int ((v 398 (377 + (2 * j) + 1)) - (v 398 (377 + (2 * u) + 1)))), (0, .ref (fa_B G + (397))), (1, .int (nI (u))), (3, .int (nI (j)))]) hx hb dX7_ahead_90 rfl hl (by decide) rfl (fun ls hl => ?_)
              refine lv_iinc (v := nI (j + 1)) (lv' := [(3, .int (nI (j + 1))), (2, .int ((ac) + (nI (1)))), (4, .int ((v 398 (377 + (2 * j) + 1)) - (v 398 (377 + (2 * u) + 1)))), (0, .ref (fa_B G + (397))), (1, .int (nI (u)))]) hx hb dX7_ahead_91 hl (k := 4) rfl (nI_add (j) 1) (by decide) rfl (fun ls hl => ?_)
              refine lv_goto (tgt := 4) hx hb dX7_ahead_94 (by decide) ?_
              exact ih_4 (j + 1) ((ac) + (nI (1)))  _ _ _ (by omega) (⟨by omega, by rw [hi_4.2]; exact fa_sum_t (Or.inr ⟨(by first | exact c_54 | exact Decidable.not_not.mp c_54), c_81⟩)⟩) (lv_sub hl [3, 4, 1, 0] rfl) HX2118
  exact LOOP_4 (n5 - 0 + 1) (0) (nI (0))  _ _ _ (Nat.lt_succ_self _) (⟨Nat.zero_le _, rfl⟩) (lv_sub hl [2, 3, 1, 0] rfl) HX
