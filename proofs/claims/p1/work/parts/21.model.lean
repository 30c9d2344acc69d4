set_option maxHeartbeats 4000000 in
set_option maxRecDepth 100000 in
theorem p1m_adds (l : Launch) (G : fa_G) (n : Nat) (hn : 406 ≤ n) (v : fa_V) (r : fa_R) (hM : fa_RM r) (a1 : Int32) (a2 : Int32) (f0 : v 398 14 = (0 : Int32)) (f1 : v 398 8 = (0 : Int32)) (f2 : v 398 6 = (300 : Int32)) : fa_MI l G n yX7_adds cX7_adds 5 (some .int) 3 [.ref (fa_B G + (397)), .int (a1), .int (a2)] v r (fa_voi r (fun x v1 => (x = if a1 < 0 ∨ nI 4 < a1 ∨ a2 < nI 1 ∨ ¬ a2 ≤ nI 50 then (-2 : Int32) else nI 0) ∧ (fa_fr (398) (399) v v1))) := by
  refine fa_startI (by decide +kernel) (Nat.le_of_ble_eq_true rfl) (fun p e s m args below meth c ls Q CX hl HX RET => ?_)
  have hl : lv_has ls 5 [(0, .ref (fa_B G + (397))), (1, .int (a1)), (2, .int (a2))] := hl
  have hx := CX.1.1
  have hb := CX.1.2.1
  refine lv_iload_n hx hb dX7_adds_0 rfl (lv_at hl 1 rfl) ?_
  refine lv_iconst (v := nI (0)) hx hb dX7_adds_1 (by decide) ?_
  refine lv_iconst (v := nI (4)) hx hb dX7_adds_2 (by decide) ?_
  refine fa_callSip (As := [.int (a1), .int (nI (0)), .int (nI (4))]) (rest := []) CX HX (c_X7_in l G n v r (a1) (nI (0)) (nI (4))) ln_X7_86 rfl rfl (Nat.le_of_ble_eq_true rfl) hl.1 ⟨Nat.le_of_ble_eq_true rfl, Nat.le_of_ble_eq_true rfl⟩ ⟨Nat.le_refl _, Nat.le_refl _⟩ dX7_adds_3 (fun x347 H locs h346 HX348 => ?_)
  have h_in_3 := h346
  refine lv_if_eq (tgt := 19) hx hb dX7_adds_6 (by decide) (fun c_6 => ?_) (fun c_6 => ?_)
  · refine lv_bipush (v := (-2 : Int32)) hx hb dX7_adds_19 (by decide) ?_
    exact RET _ _ _ _ _ _ _ HX348 dX7_adds_21 (⟨rfl, ⟨(by have z : a1 < 0 ∨ nI 4 < a1 := fa_in0 h_in_3 c_6; rw [if_pos (by rcases z with z | z; exact Or.inl z; exact Or.inr (Or.inl z))]), fa_fr.rf⟩⟩)
  · refine lv_iload_n hx hb dX7_adds_9 rfl (lv_at hl 2 rfl) ?_
    refine lv_iconst (v := nI (1)) hx hb dX7_adds_10 (by decide) ?_
    refine lv_bipush (v := nI (50)) hx hb dX7_adds_11 (by decide) ?_
    refine fa_callSip (As := [.int (a2), .int (nI (1)), .int (nI (50))]) (rest := []) CX HX348 (c_X7_in l G n v r (a2) (nI (1)) (nI (50))) ln_X7_86 rfl rfl (Nat.le_of_ble_eq_true rfl) hl.1 ⟨Nat.le_of_ble_eq_true rfl, Nat.le_of_ble_eq_true rfl⟩ ⟨Nat.le_refl _, Nat.le_refl _⟩ dX7_adds_13 (fun x350 H locs h349 HX351 => ?_)
    have h_in_13 := h349
    refine lv_if_ne (tgt := 22) hx hb dX7_adds_16 (by decide) (fun c_16 => ?_) (fun c_16 => ?_)
    · refine lv_aload_n hx hb dX7_adds_22 rfl (lv_at hl 0 rfl) ?_
      refine fa_getr (k := 397) (j := 398) CX HX351 fl_X7_7 (by omega) rfl rfl hM.1 dX7_adds_23 ?_
      refine lv_bipush (v := nI (14)) hx hb dX7_adds_26 (by decide) ?_
      refine fa_iald (k := 398) (j := 14) CX HX351 (by omega) rfl (by omega) (by first | decide | assumption) dX7_adds_28 ?_
      refine lv_bipush (v := nI (24)) hx hb dX7_adds_29 (by decide) ?_
      have kx_31 : v 398 14 = (0 : Int32) := f0
      refine lv_icmp_eq (tgt := 63) hx hb dX7_adds_31 (by decide) (fun c_31 => ?_) (fun c_31 => ?_)
      · exact absurd c_31 (by rw [kx_31]; try decide)
      · refine lv_aload_n hx hb dX7_adds_34 rfl (lv_at hl 0 rfl) ?_
        refine fa_getr (k := 397) (j := 398) CX HX351 fl_X7_7 (by omega) rfl rfl hM.1 dX7_adds_35 ?_
        refine lv_bipush (v := nI (8)) hx hb dX7_adds_38 (by decide) ?_
        refine fa_iald (k := 398) (j := 8) CX HX351 (by omega) rfl (by omega) (by first | decide | assumption) dX7_adds_40 ?_
        refine lv_sipush (v := nI (200)) hx hb dX7_adds_41 (by decide) ?_
        have kx_44 : v 398 8 = (0 : Int32) := f1
        refine lv_icmp_eq (tgt := 63) hx hb dX7_adds_44 (by decide) (fun c_44 => ?_) (fun c_44 => ?_)
        · exact absurd c_44 (by rw [kx_44]; try decide)
        · refine lv_aload_n hx hb dX7_adds_47 rfl (lv_at hl 0 rfl) ?_
          refine fa_callVip (As := []) (rest := []) CX HX351 (p1m_pages l G n hn v r hM  f0) ln_X7_90 (by omega) rfl rfl rfl rfl (Nat.le_of_ble_eq_true rfl) hl.1 ⟨Nat.le_of_ble_eq_true rfl, Nat.le_of_ble_eq_true rfl⟩ ⟨Nat.le_refl _, Nat.le_refl _⟩ dX7_adds_48 (fun x353 H locs h352 HX354 => ?_)
          have hv_pages := h352
          refine lv_iload_n hx hb dX7_adds_51 rfl (lv_at hl 2 rfl) ?_
          refine lv_iadd hx hb dX7_adds_52 ?_
          refine lv_aload_n hx hb dX7_adds_53 rfl (lv_at hl 0 rfl) ?_
          refine fa_getr (k := 397) (j := 398) CX HX354 fl_X7_7 (by omega) rfl rfl hM.1 dX7_adds_54 ?_
          refine lv_bipush (v := nI (6)) hx hb dX7_adds_57 (by decide) ?_
          refine fa_iald (k := 398) (j := 6) CX HX354 (by omega) rfl (by omega) (by first | decide | assumption) dX7_adds_59 ?_
          refine lv_icmp_le (tgt := 66) hx hb dX7_adds_60 (by decide) (fun c_60 => ?_) (fun c_60 => ?_)
          · refine lv_aload_n hx hb dX7_adds_66 rfl (lv_at hl 0 rfl) ?_
            refine fa_getr (k := 397) (j := 398) CX HX354 fl_X7_7 (by omega) rfl rfl hM.1 dX7_adds_67 ?_
            refine lv_bipush (v := nI (14)) hx hb dX7_adds_70 (by decide) ?_
            refine fa_iald (k := 398) (j := 14) CX HX354 (by omega) rfl (by omega) (by first | decide | assumption) dX7_adds_72 ?_
            rw [show v 398 14 = nI (0) from f0]
            refine fa_callSip (As := [.int (nI (0))]) (rest := []) CX HX354 (c_X7_f l G n v r (0)) ln_X7_36 rfl rfl (Nat.le_of_ble_eq_true rfl) hl.1 ⟨Nat.le_of_ble_eq_true rfl, Nat.le_of_ble_eq_true rfl⟩ ⟨Nat.le_refl _, Nat.le_refl _⟩ dX7_adds_73 (fun x356 H locs h355 HX357 => ?_)
            subst h355
            refine lv_istore_n (lv' := [(3, .int (nI (17 + 15 * 0))), (0, .ref (fa_B G + (397))), (1, .int (a1)), (2, .int (a2))]) hx hb dX7_adds_76 rfl hl (by decide) rfl (fun ls hl => ?_)
            refine lv_iconst (v := nI (0)) hx hb dX7_adds_77 (by decide) ?_
            refine lv_istore (lv' := [(4, .int (nI (0))), (3, .int (nI (17 + 15 * 0))), (0, .ref (fa_B G + (397))), (1, .int (a1)), (2, .int (a2))]) hx hb dX7_adds_78 hl (by decide) rfl (fun ls hl => ?_)
            have LOOP_80 : ∀ (fu : Nat) (k : Nat) (v358 : fa_V) (H : Heap) (locs : List Loc) (ls : Array Slot), 15 - k < fu → (k ≤ 15 ∧ (∀ i, i < 17 → v358 398 i = v 398 i) ∧ fa_fr 398 399 v v358) → lv_has ls 5 [(0, .ref (fa_B G + (397))), (1, .int (a1)), (2, .int (a2)), (3, .int (nI (17 + 15 * 0))), (4, .int (nI (k)))] → fa_HX G (n) v358 r s H locs → W p l e (fa_rm 3) s m args below meth c H locs (0) (0) Q (F0 m 80 ls []) := by
              intro fu
              induction fu with
              | zero => intro k v358 H locs ls hk; exact absurd hk (Nat.not_lt_zero _)
              | succ fu ih_80 =>
                intro k v358 H locs ls hk_80 hi_80 hl HX359
                refine lv_iload hx hb dX7_adds_80 (lv_at hl 4 rfl) ?_
                refine lv_bipush (v := nI (15)) hx hb dX7_adds_82 (by decide) ?_
                refine lv_icmp_ge (tgt := 103) hx hb dX7_adds_84 (by decide) (fun c_84 => ?_) (fun c_84 => ?_)
                · refine lv_aload_n hx hb dX7_adds_103 rfl (lv_at hl 0 rfl) ?_
                  refine fa_getr (k := 397) (j := 398) CX HX359 fl_X7_7 (by omega) rfl rfl hM.1 dX7_adds_104 ?_
                  refine lv_iload_n hx hb dX7_adds_107 rfl (lv_at hl 3 rfl) ?_
                  refine lv_aload_n hx hb dX7_adds_108 rfl (lv_at hl 0 rfl) ?_
                  refine fa_getr (k := 397) (j := 398) CX HX359 fl_X7_7 (by omega) rfl rfl hM.1 dX7_adds_109 ?_
                  refine lv_bipush (v := nI (8)) hx hb dX7_adds_112 (by decide) ?_
                  refine fa_iald (k := 398) (j := 8) CX HX359 (by omega) rfl (by omega) (by first | decide | assumption) dX7_adds_114 ?_
                  refine fa_iast (k := 398) (j := 17 + 15 * 0) CX HX359 (by omega) rfl (by omega) (by first | decide | assumption) dX7_adds_115 (fun H locs v360 e361 HX362 => ?_)
                  refine lv_aload_n hx hb dX7_adds_116 rfl (lv_at hl 0 rfl) ?_
                  refine fa_getr (k := 397) (j := 398) CX HX362 fl_X7_7 (by omega) rfl rfl hM.1 dX7_adds_117 ?_
                  refine lv_iload_n hx hb dX7_adds_120 rfl (lv_at hl 3 rfl) ?_
                  refine lv_iconst (v := nI (1)) hx hb dX7_adds_121 (by decide) ?_
                  refine fa_iaddN hx hb dX7_adds_122 ?_
                  refine lv_iload_n hx hb dX7_adds_123 rfl (lv_at hl 1 rfl) ?_
                  refine fa_iast (k := 398) (j := 17 + 15 * 0 + 1) CX HX362 (by omega) rfl (by omega) (by first | decide | assumption) dX7_adds_124 (fun H locs v363 e364 HX365 => ?_)
                  refine lv_aload_n hx hb dX7_adds_125 rfl (lv_at hl 0 rfl) ?_
                  refine fa_getr (k := 397) (j := 398) CX HX365 fl_X7_7 (by omega) rfl rfl hM.1 dX7_adds_126 ?_
                  refine lv_iload_n hx hb dX7_adds_129 rfl (lv_at hl 3 rfl) ?_
                  refine lv_iconst (v := nI (2)) hx hb dX7_adds_130 (by decide) ?_
                  refine fa_iaddN hx hb dX7_adds_131 ?_
                  refine lv_iload_n hx hb dX7_adds_132 rfl (lv_at hl 2 rfl) ?_
                  refine fa_iast (k := 398) (j := 17 + 15 * 0 + 2) CX HX365 (by omega) rfl (by omega) (by first | decide | assumption) dX7_adds_133 (fun H locs v366 e367 HX368 => ?_)
                  refine lv_aload_n hx hb dX7_adds_134 rfl (lv_at hl 0 rfl) ?_
                  refine fa_getr (k := 397) (j := 398) CX HX368 fl_X7_7 (by omega) rfl rfl hM.1 dX7_adds_135 ?_
                  refine lv_iload_n hx hb dX7_adds_138 rfl (lv_at hl 3 rfl) ?_
                  refine lv_iconst (v := nI (3)) hx hb dX7_adds_139 (by decide) ?_
                  refine fa_iaddN hx hb dX7_adds_140 ?_
                  refine lv_aload_n hx hb dX7_adds_141 rfl (lv_at hl 0 rfl) ?_
                  refine fa_getr (k := 397) (j := 398) CX HX368 fl_X7_7 (by omega) rfl rfl hM.1 dX7_adds_142 ?_
                  refine lv_bipush (v := nI (7)) hx hb dX7_adds_145 (by decide) ?_
                  refine fa_iald (k := 398) (j := 7) CX HX368 (by omega) rfl (by omega) (by first | decide | assumption) dX7_adds_147 ?_
                  refine fa_iast (k := 398) (j := 17 + 15 * 0 + 3) CX HX368 (by omega) rfl (by omega) (by first | decide | assumption) dX7_adds_148 (fun H locs v369 e370 HX371 => ?_)
                  refine lv_aload_n hx hb dX7_adds_149 rfl (lv_at hl 0 rfl) ?_
                  refine fa_getr (k := 397) (j := 398) CX HX371 fl_X7_7 (by omega) rfl rfl hM.1 dX7_adds_150 ?_
                  refine lv_iload_n hx hb dX7_adds_153 rfl (lv_at hl 3 rfl) ?_
                  refine lv_iconst (v := nI (4)) hx hb dX7_adds_154 (by decide) ?_
                  refine fa_iaddN hx hb dX7_adds_155 ?_
                  refine lv_iconst (v := (-1 : Int32)) hx hb dX7_adds_156 (by decide) ?_
                  refine fa_iast (k := 398) (j := 17 + 15 * 0 + 4) CX HX371 (by omega) rfl (by omega) (by first | decide | assumption) dX7_adds_157 (fun H locs v372 e373 HX374 => ?_)
                  refine lv_aload_n hx hb dX7_adds_158 rfl (lv_at hl 0 rfl) ?_
                  refine fa_getr (k := 397) (j := 398) CX HX374 fl_X7_7 (by omega) rfl rfl hM.1 dX7_adds_159 ?_
                  refine lv_iload_n hx hb dX7_adds_162 rfl (lv_at hl 3 rfl) ?_
                  refine lv_bipush (v := nI (6)) hx hb dX7_adds_163 (by decide) ?_
                  refine fa_iaddN hx hb dX7_adds_165 ?_
                  refine lv_iconst (v := (-1 : Int32)) hx hb dX7_adds_166 (by decide) ?_
                  refine fa_iast (k := 398) (j := 17 + 15 * 0 + 6) CX HX374 (by omega) rfl (by omega) (by first | decide | assumption) dX7_adds_167 (fun H locs v375 e376 HX377 => ?_)
                  refine lv_aload_n hx hb dX7_adds_168 rfl (lv_at hl 0 rfl) ?_
                  refine fa_getr (k := 397) (j := 398) CX HX377 fl_X7_7 (by omega) rfl rfl hM.1 dX7_adds_169 ?_
                  refine lv_bipush (v := nI (14)) hx hb dX7_adds_172 (by decide) ?_
                  refine lv_dup2_11 hx hb dX7_adds_174 rfl rfl ?_
                  refine fa_iald (k := 398) (j := 14) CX HX377 (by omega) rfl (by omega) (by first | decide | assumption) dX7_adds_175 ?_
                  refine lv_iconst (v := nI (1)) hx hb dX7_adds_176 (by decide) ?_
                  refine lv_iadd hx hb dX7_adds_177 ?_
                  refine fa_iast (k := 398) (j := 14) CX HX377 (by omega) rfl (by omega) (by first | decide | assumption) dX7_adds_178 (fun H locs v378 e379 HX380 => ?_)
                  refine lv_aload_n hx hb dX7_adds_179 rfl (lv_at hl 0 rfl) ?_
                  refine fa_getr (k := 397) (j := 398) CX HX380 fl_X7_7 (by omega) rfl rfl hM.1 dX7_adds_180 ?_
                  refine lv_bipush (v := nI (8)) hx hb dX7_adds_183 (by decide) ?_
                  refine lv_dup2_11 hx hb dX7_adds_185 rfl rfl ?_
                  refine fa_iald (k := 398) (j := 8) CX HX380 (by omega) rfl (by omega) (by first | decide | assumption) dX7_adds_186 ?_
                  refine lv_iconst (v := nI (1)) hx hb dX7_adds_187 (by decide) ?_
                  refine lv_iadd hx hb dX7_adds_188 ?_
                  refine fa_iast (k := 398) (j := 8) CX HX380 (by omega) rfl (by omega) (by first | decide | assumption) dX7_adds_189 (fun H locs v381 e382 HX383 => ?_)
                  refine lv_aload_n hx hb dX7_adds_190 rfl (lv_at hl 0 rfl) ?_
                  refine fa_getr (k := 397) (j := 398) CX HX383 fl_X7_7 (by omega) rfl rfl hM.1 dX7_adds_191 ?_
                  refine lv_bipush (v := nI (8)) hx hb dX7_adds_194 (by decide) ?_
                  refine fa_iald (k := 398) (j := 8) CX HX383 (by omega) rfl (by omega) (by first | decide | assumption) dX7_adds_196 ?_
                  refine lv_iconst (v := nI (1)) hx hb dX7_adds_197 (by decide) ?_
                  refine lv_isub hx hb dX7_adds_198 ?_
                  exact RET _ _ _ _ _ _ _ HX383 dX7_adds_199 (⟨rfl, ⟨(by rw [show (v381 398 8) - (nI (1)) = nI 0 from (show (v381 398 8) - (nI (1)) = (0 : Int32) from by rw [show v381 398 8 = (1 : Int32) from (by simp [(show (v378 398 8) + (nI (1)) = (1 : Int32) from by rw [show v378 398 8 = (0 : Int32) from (by simp [f1, hi_80.2.1 8 , e361, fa_u, e364, e367, e370, e373, e376, e379] <;> rfl), show nI (1) = (1 : Int32) from (by decide)]; decide), e382, fa_u] <;> rfl), show nI (1) = (1 : Int32) from (by decide)]; decide), if_neg (fa_addn (fa_in1 h_in_3 c_6) (fa_in1 h_in_13 c_16))]), (by rw [e382]; exact fa_fr.u (by rw [e379]; exact fa_fr.u (by rw [e376]; exact fa_fr.u (by rw [e373]; exact fa_fr.u (by rw [e370]; exact fa_fr.u (by rw [e367]; exact fa_fr.u (by rw [e364]; exact fa_fr.u (by rw [e361]; exact fa_fr.u (fa_fr.tr fa_fr.rf (fa_fr.wide hi_80.2.2 (by omega) (by omega))) (by omega)) (by omega)) (by omega)) (by omega)) (by omega)) (by omega)) (by omega)) (by omega))⟩⟩)
                · have hk := fa_ltN (by omega) (by omega) c_84
                  refine lv_aload_n hx hb dX7_adds_87 rfl (lv_at hl 0 rfl) ?_
                  refine fa_getr (k := 397) (j := 398) CX HX359 fl_X7_7 (by omega) rfl rfl hM.1 dX7_adds_88 ?_
                  refine lv_iload_n hx hb dX7_adds_91 rfl (lv_at hl 3 rfl) ?_
                  refine lv_iload hx hb dX7_adds_92 (lv_at hl 4 rfl) ?_
                  refine fa_iaddN hx hb dX7_adds_94 ?_
                  refine lv_iconst (v := nI (0)) hx hb dX7_adds_95 (by decide) ?_
                  refine fa_iast (k := 398) (j := 17 + 15 * 0 + k) CX HX359 (by omega) rfl (by omega) (by first | decide | assumption) dX7_adds_96 (fun H locs v384 e385 HX386 => ?_)
                  refine lv_iinc (v := nI (k + 1)) (lv' := [(4, .int (nI (k + 1))), (0, .ref (fa_B G + (397))), (1, .int (a1)), (2, .int (a2)), (3, .int (nI (17 + 15 * 0)))]) hx hb dX7_adds_97 hl (k := 4) rfl (nI_add (k) 1) (by decide) rfl (fun ls hl => ?_)
                  refine lv_goto (tgt := 80) hx hb dX7_adds_100 (by decide) ?_
                  exact ih_80 (k + 1) v384 _ _ _ (by omega) (⟨by omega, fun i hi => by (rw [e385, fa_u_n _ _ (fun z => absurd z.2 (by omega))]; exact hi_80.2.1 i hi), (by rw [e385]; exact fa_fr.u (fa_fr.tr fa_fr.rf (fa_fr.wide hi_80.2.2 (by omega) (by omega))) (by omega))⟩) (lv_sub hl [1, 2, 3, 4, 0] rfl) HX386
            exact LOOP_80 (15 - 0 + 1) (0) v _ _ _ (Nat.lt_succ_self _) (⟨Nat.zero_le _, fun _ _ => rfl, fa_fr.rf⟩) (lv_sub hl [2, 3, 4, 1, 0] rfl) HX357
          · exact absurd (by rw [show v 398 6 = nI 300 from f2, hv_pages]; exact fa_add300 (Int32.not_lt.mp (fun z => fa_in1 h_in_13 c_16 (Or.inr z)))) c_60
    · refine lv_bipush (v := (-2 : Int32)) hx hb dX7_adds_19 (by decide) ?_
      exact RET _ _ _ _ _ _ _ HX351 dX7_adds_21 (⟨rfl, ⟨(by have z : a2 < nI 1 ∨ nI 50 < a2 := fa_in0 h_in_13 c_16; rw [if_pos (by rcases z with z | z; exact Or.inr (Or.inr (Or.inl z)); exact Or.inr (Or.inr (Or.inr (Int32.not_le.mpr z))))]), fa_fr.rf⟩⟩)
set_option maxHeartbeats 4000000 in
set_option maxRecDepth 100000 in
theorem p1m_asksFor (l : Launch) (G : fa_G) (n : Nat) (hn : 406 ≤ n) (v : fa_V) (r : fa_R) (hM : fa_RM r) (a1 : Int32) (f0 : v 398 8 = (0 : Int32)) : fa_MI l G n yX7_asksFor cX7_asksFor 3 (some .int) 2 [.ref (fa_B G + (397)), .int (a1)] v r (fun x w => w = (v, r) ∧ (x = (-1 : Int32))) := by
  refine fa_startI (by decide +kernel) (Nat.le_of_ble_eq_true rfl) (fun p e s m args below meth c ls Q CX hl HX RET => ?_)
  have hl : lv_has ls 3 [(0, .ref (fa_B G + (397))), (1, .int (a1))] := hl
  have hx := CX.1.1
  have hb := CX.1.2.1
  refine lv_iload_n hx hb dX7_asksFor_0 rfl (lv_at hl 1 rfl) ?_
  refine lv_iconst (v := nI (0)) hx hb dX7_asksFor_1 (by decide) ?_
  refine lv_aload_n hx hb dX7_asksFor_2 rfl (lv_at hl 0 rfl) ?_
  refine fa_getr (k := 397) (j := 398) CX HX fl_X7_7 (by omega) rfl rfl hM.1 dX7_asksFor_3 ?_
  refine lv_bipush (v := nI (8)) hx hb dX7_asksFor_6 (by decide) ?_
  refine fa_iald (k := 398) (j := 8) CX HX (by omega) rfl (by omega) (by first | decide | assumption) dX7_asksFor_8 ?_
  refine lv_iconst (v := nI (1)) hx hb dX7_asksFor_9 (by decide) ?_
  refine lv_isub hx hb dX7_asksFor_10 ?_
  refine fa_callSip (As := [.int (a1), .int (nI (0)), .int ((v 398 8) - (nI (1)))]) (rest := []) CX HX (c_X7_in l G n v r (a1) (nI (0)) ((v 398 8) - (nI (1)))) ln_X7_86 rfl rfl (Nat.le_of_ble_eq_true rfl) hl.1 ⟨Nat.le_of_ble_eq_true rfl, Nat.le_of_ble_eq_true rfl⟩ ⟨Nat.le_refl _, Nat.le_refl _⟩ dX7_asksFor_11 (fun x388 H locs h387 HX389 => ?_)
  have h_in_11 := h387
  refine lv_if_ne (tgt := 19) hx hb dX7_asksFor_14 (by decide) (fun c_14 => ?_) (fun c_14 => ?_)
  · exact absurd (fa_in1 h_in_11 c_14) (fun z => fa_inno (show (v 398 8) - (nI (1)) = (-1 : Int32) from by rw [show v 398 8 = (0 : Int32) from f0, show nI (1) = (1 : Int32) from (by decide)]; decide) z)
  · refine lv_iconst (v := (-1 : Int32)) hx hb dX7_asksFor_17 (by decide) ?_
    exact RET _ _ _ _ _ _ _ HX389 dX7_asksFor_18 (⟨rfl, rfl⟩)
set_option maxHeartbeats 4000000 in
set_option maxRecDepth 100000 in
theorem p1m_seals (l : Launch) (G : fa_G) (n : Nat) (hn : 406 ≤ n) (v : fa_V) (r : fa_R) (hM : fa_RM r) (a1 : Int32) (a2 : Int32) (a3 : Int32) (f0 : v 398 14 = (0 : Int32)) : fa_MI l G n yX7_seals cX7_seals 5 (some .int) 3 [.ref (fa_B G + (397)), .int (a1), .int (a2), .int (a3)] v r (fun x w => w = (v, r) ∧ (x = (-1 : Int32))) := by
  refine fa_startI (by decide +kernel) (Nat.le_of_ble_eq_true rfl) (fun p e s m args below meth c ls Q CX hl HX RET => ?_)
  have hl : lv_has ls 5 [(0, .ref (fa_B G + (397))), (1, .int (a1)), (2, .int (a2)), (3, .int (a3))] := hl
  have hx := CX.1.1
  have hb := CX.1.2.1
  refine lv_aload_n hx hb dX7_seals_0 rfl (lv_at hl 0 rfl) ?_
  refine lv_iload_n hx hb dX7_seals_1 rfl (lv_at hl 2 rfl) ?_
  refine fa_callVip (As := [.int (a2)]) (rest := []) CX HX (p1m_placeOf l G n hn v r hM (a2) f0) ln_X7_60 (by omega) rfl rfl rfl rfl (Nat.le_of_ble_eq_true rfl) hl.1 ⟨Nat.le_of_ble_eq_true rfl, Nat.le_of_ble_eq_true rfl⟩ ⟨Nat.le_refl _, Nat.le_refl _⟩ dX7_seals_2 (fun x391 H locs h390 HX392 => ?_)
  have hv_placeOf := h390
  refine lv_istore (lv' := [(4, .int (x391)), (0, .ref (fa_B G + (397))), (1, .int (a1)), (2, .int (a2)), (3, .int (a3))]) hx hb dX7_seals_5 hl (by decide) rfl (fun ls hl => ?_)
  refine lv_iload_n hx hb dX7_seals_7 rfl (lv_at hl 2 rfl) ?_
  refine lv_iconst (v := nI (0)) hx hb dX7_seals_8 (by decide) ?_
  refine lv_bipush (v := nI (7)) hx hb dX7_seals_9 (by decide) ?_
  refine fa_callSip (As := [.int (a1), .int (nI (0)), .int (nI (7))]) (rest := []) CX HX392 (c_X7_in l G n v r (a1) (nI (0)) (nI (7))) ln_X7_86 rfl rfl (Nat.le_of_ble_eq_true rfl) hl.1 ⟨Nat.le_of_ble_eq_true rfl, Nat.le_of_ble_eq_true rfl⟩ ⟨Nat.le_refl _, Nat.le_refl _⟩ dX7_seals_11 (fun x394 H locs h393 HX395 => ?_)
  have h_in_11 := h393
  refine lv_if_eq (tgt := 23) hx hb dX7_seals_14 (by decide) (fun c_14 => ?_) (fun c_14 => ?_)
  · refine lv_iconst (v := (-1 : Int32)) hx hb dX7_seals_23 (by decide) ?_
    exact RET _ _ _ _ _ _ _ HX395 dX7_seals_24 (⟨rfl, rfl⟩)
  · refine lv_iload hx hb dX7_seals_17 (lv_at hl 0 rfl) ?_
    refine lv_iconst (v := (-1 : Int32)) hx hb dX7_seals_19 (by decide) ?_
    have kx_20 : x391 = (-1 : Int32) := h390
    refine lv_icmp_ne (tgt := 25) hx hb dX7_seals_20 (by decide) (fun c_20 => ?_) (fun c_20 => ?_)
    · exact absurd (by rw [kx_20]; try decide) c_20
    · refine lv_iconst (v := (-1 : Int32)) hx hb dX7_seals_23 (by decide) ?_
      exact RET _ _ _ _ _ _ _ HX395 dX7_seals_24 (⟨rfl, rfl⟩)
set_option maxHeartbeats 4000000 in
set_option maxRecDepth 100000 in
theorem p1m_lifts (l : Launch) (G : fa_G) (n : Nat) (hn : 406 ≤ n) (v : fa_V) (r : fa_R) (hM : fa_RM r) (a1 : Int32) (a2 : Int32) (f0 : v 398 14 = (0 : Int32)) : fa_MI l G n yX7_lifts cX7_lifts 4 (some .int) 3 [.ref (fa_B G + (397)), .int (a1), .int (a2)] v r (fun x w => w = (v, r) ∧ (x = (-1 : Int32))) := by
  refine fa_startI (by decide +kernel) (Nat.le_of_ble_eq_true rfl) (fun p e s m args below meth c ls Q CX hl HX RET => ?_)
  have hl : lv_has ls 4 [(0, .ref (fa_B G + (397))), (1, .int (a1)), (2, .int (a2))] := hl
  have hx := CX.1.1
  have hb := CX.1.2.1
  refine lv_aload_n hx hb dX7_lifts_0 rfl (lv_at hl 0 rfl) ?_
  refine lv_iload_n hx hb dX7_lifts_1 rfl (lv_at hl 2 rfl) ?_
  refine fa_callVip (As := [.int (a2)]) (rest := []) CX HX (p1m_placeOf l G n hn v r hM (a2) f0) ln_X7_60 (by omega) rfl rfl rfl rfl (Nat.le_of_ble_eq_true rfl) hl.1 ⟨Nat.le_of_ble_eq_true rfl, Nat.le_of_ble_eq_true rfl⟩ ⟨Nat.le_refl _, Nat.le_refl _⟩ dX7_lifts_2 (fun x397 H locs h396 HX398 => ?_)
  have hv_placeOf := h396
  refine lv_istore_n (lv' := [(3, .int (x397)), (0, .ref (fa_B G + (397))), (1, .int (a1)), (2, .int (a2))]) hx hb dX7_lifts_5 rfl hl (by decide) rfl (fun ls hl => ?_)
  refine lv_iload_n hx hb dX7_lifts_6 rfl (lv_at hl 2 rfl) ?_
  refine lv_iconst (v := nI (0)) hx hb dX7_lifts_7 (by decide) ?_
  refine lv_bipush (v := nI (7)) hx hb dX7_lifts_8 (by decide) ?_
  refine fa_callSip (As := [.int (a1), .int (nI (0)), .int (nI (7))]) (rest := []) CX HX398 (c_X7_in l G n v r (a1) (nI (0)) (nI (7))) ln_X7_86 rfl rfl (Nat.le_of_ble_eq_true rfl) hl.1 ⟨Nat.le_of_ble_eq_true rfl, Nat.le_of_ble_eq_true rfl⟩ ⟨Nat.le_refl _, Nat.le_refl _⟩ dX7_lifts_10 (fun x400 H locs h399 HX401 => ?_)
  have h_in_10 := h399
  refine lv_if_eq (tgt := 38) hx hb dX7_lifts_13 (by decide) (fun c_13 => ?_) (fun c_13 => ?_)
  · refine lv_iconst (v := (-1 : Int32)) hx hb dX7_lifts_38 (by decide) ?_
    exact RET _ _ _ _ _ _ _ HX401 dX7_lifts_39 (⟨rfl, rfl⟩)
  · refine lv_iload_n hx hb dX7_lifts_16 rfl (lv_at hl 0 rfl) ?_
    refine lv_iconst (v := (-1 : Int32)) hx hb dX7_lifts_17 (by decide) ?_
    have kx_18 : x397 = (-1 : Int32) := h396
    refine lv_icmp_eq (tgt := 38) hx hb dX7_lifts_18 (by decide) (fun c_18 => ?_) (fun c_18 => ?_)
    · refine lv_iconst (v := (-1 : Int32)) hx hb dX7_lifts_38 (by decide) ?_
      exact RET _ _ _ _ _ _ _ HX401 dX7_lifts_39 (⟨rfl, rfl⟩)
    · exact absurd (by rw [kx_18]; try decide) c_18
set_option maxHeartbeats 4000000 in
set_option maxRecDepth 100000 in
theorem p1m_refers (l : Launch) (G : fa_G) (n : Nat) (hn : 406 ≤ n) (v : fa_V) (r : fa_R) (hM : fa_RM r) (a1 : Int32) (a2 : Int32) (f0 : v 398 14 = (0 : Int32)) : fa_MI l G n yX7_refers cX7_refers 4 (some .int) 3 [.ref (fa_B G + (397)), .int (a1), .int (a2)] v r (fun x w => w = (v, r) ∧ (x = (-1 : Int32))) := by
  refine fa_startI (by decide +kernel) (Nat.le_of_ble_eq_true rfl) (fun p e s m args below meth c ls Q CX hl HX RET => ?_)
  have hl : lv_has ls 4 [(0, .ref (fa_B G + (397))), (1, .int (a1)), (2, .int (a2))] := hl
  have hx := CX.1.1
  have hb := CX.1.2.1
  refine lv_aload_n hx hb dX7_refers_0 rfl (lv_at hl 0 rfl) ?_
  refine lv_iload_n hx hb dX7_refers_1 rfl (lv_at hl 1 rfl) ?_
  refine fa_callVip (As := [.int (a1)]) (rest := []) CX HX (p1m_placeOf l G n hn v r hM (a1) f0) ln_X7_60 (by omega) rfl rfl rfl rfl (Nat.le_of_ble_eq_true rfl) hl.1 ⟨Nat.le_of_ble_eq_true rfl, Nat.le_of_ble_eq_true rfl⟩ ⟨Nat.le_refl _, Nat.le_refl _⟩ dX7_refers_2 (fun x403 H locs h402 HX404 => ?_)
  have hv_placeOf := h402
  refine lv_istore_n (lv' := [(3, .int (x403)), (0, .ref (fa_B G + (397))), (1, .int (a1)), (2, .int (a2))]) hx hb dX7_refers_5 rfl hl (by decide) rfl (fun ls hl => ?_)
  refine lv_iload_n hx hb dX7_refers_6 rfl (lv_at hl 0 rfl) ?_
  refine lv_iconst (v := (-1 : Int32)) hx hb dX7_refers_7 (by decide) ?_
  have kx_8 : x403 = (-1 : Int32) := h402
  refine lv_icmp_eq (tgt := 20) hx hb dX7_refers_8 (by decide) (fun c_8 => ?_) (fun c_8 => ?_)
  · refine lv_iconst (v := (-1 : Int32)) hx hb dX7_refers_20 (by decide) ?_
    exact RET _ _ _ _ _ _ _ HX404 dX7_refers_21 (⟨rfl, rfl⟩)
  · exact absurd (by rw [kx_8]; try decide) c_8
set_option maxHeartbeats 4000000 in
set_option maxRecDepth 100000 in
theorem p1m_reserved (l : Launch) (G : fa_G) (n : Nat) (hn : 406 ≤ n) (v : fa_V) (r : fa_R) (hM : fa_RM r) (f0 : v 398 15 = (0 : Int32)) : fa_MI l G n yX7_reserved cX7_reserved 4 (some .int) 3 [.ref (fa_B G + (397))] v r (fun x w => w = (v, r) ∧ (x = (0 : Int32))) := by
  refine fa_startI (by decide +kernel) (Nat.le_of_ble_eq_true rfl) (fun p e s m args below meth c ls Q CX hl HX RET => ?_)
  have hl : lv_has ls 4 [(0, .ref (fa_B G + (397)))] := hl
  have hx := CX.1.1
  have hb := CX.1.2.1
  refine lv_iconst (v := nI (0)) hx hb dX7_reserved_0 (by decide) ?_
  refine lv_istore_n (lv' := [(1, .int (nI (0))), (0, .ref (fa_B G + (397)))]) hx hb dX7_reserved_1 rfl hl (by decide) rfl (fun ls hl => ?_)
  refine lv_aload_n hx hb dX7_reserved_2 rfl (lv_at hl 1 rfl) ?_
  refine fa_getr (k := 397) (j := 398) CX HX fl_X7_7 (by omega) rfl rfl hM.1 dX7_reserved_3 ?_
  refine lv_bipush (v := nI (15)) hx hb dX7_reserved_6 (by decide) ?_
  refine fa_iald (k := 398) (j := 15) CX HX (by omega) rfl (by omega) (by first | decide | assumption) dX7_reserved_8 ?_
  refine lv_iconst (v := nI (1)) hx hb dX7_reserved_9 (by decide) ?_
  refine lv_isub hx hb dX7_reserved_10 ?_
  refine lv_istore_n (lv' := [(2, .int ((v 398 15) - (nI (1)))), (1, .int (nI (0))), (0, .ref (fa_B G + (397)))]) hx hb dX7_reserved_11 rfl hl (by decide) rfl (fun ls hl => ?_)
  refine lv_iload_n hx hb dX7_reserved_12 rfl (lv_at hl 0 rfl) ?_
  have kx_13 : (v 398 15) - (nI (1)) = (-1 : Int32) := (show (v 398 15) - (nI (1)) = (-1 : Int32) from by rw [show v 398 15 = (0 : Int32) from f0, show nI (1) = (1 : Int32) from (by decide)]; decide)
  refine lv_if_lt (tgt := 75) hx hb dX7_reserved_13 (by decide) (fun c_13 => ?_) (fun c_13 => ?_)
  · refine lv_iload_n hx hb dX7_reserved_75 rfl (lv_at hl 1 rfl) ?_
    exact RET _ _ _ _ _ _ _ HX dX7_reserved_76 (⟨rfl, rfl⟩)
  · exact absurd (by rw [kx_13]; try decide) c_13
set_option maxHeartbeats 4000000 in
set_option maxRecDepth 100000 in
theorem p1m_burning (l : Launch) (G : fa_G) (n : Nat) (hn : 406 ≤ n) (v : fa_V) (r : fa_R) (hM : fa_RM r) (f0 : v 398 14 = (0 : Int32)) : fa_MI l G n yX7_burning cX7_burning 5 (some .int) 3 [.ref (fa_B G + (397))] v r (fa_voi r (fun x v1 => (x = (0 : Int32)) ∧ (∀ i, ¬ i = 13 → v1 398 i = v 398 i) ∧ (fa_fr (398) (399) v v1))) := by
  refine fa_startI (by decide +kernel) (Nat.le_of_ble_eq_true rfl) (fun p e s m args below meth c ls Q CX hl HX RET => ?_)
  have hl : lv_has ls 5 [(0, .ref (fa_B G + (397)))] := hl
  have hx := CX.1.1
  have hb := CX.1.2.1
  refine lv_iconst (v := nI (0)) hx hb dX7_burning_0 (by decide) ?_
  refine lv_istore_n (lv' := [(1, .int (nI (0))), (0, .ref (fa_B G + (397)))]) hx hb dX7_burning_1 rfl hl (by decide) rfl (fun ls hl => ?_)
  refine lv_aload_n hx hb dX7_burning_2 rfl (lv_at hl 1 rfl) ?_
  refine fa_callVvp (As := []) (rest := []) CX HX (p1m_tellStaying l G n hn v r hM  f0) ln_X7_67 (by omega) rfl rfl rfl rfl (Nat.le_of_ble_eq_true rfl) hl.1 ⟨Nat.le_of_ble_eq_true rfl, Nat.le_of_ble_eq_true rfl⟩ ⟨Nat.le_refl _, Nat.le_refl _⟩ dX7_burning_3 (fun H locs h405 HX406 => ?_)
  refine lv_iconst (v := nI (0)) hx hb dX7_burning_6 (by decide) ?_
  refine lv_istore_n (lv' := [(2, .int (nI (0))), (1, .int (nI (0))), (0, .ref (fa_B G + (397)))]) hx hb dX7_burning_7 rfl hl (by decide) rfl (fun ls hl => ?_)
  refine lv_iload_n hx hb dX7_burning_8 rfl (lv_at hl 0 rfl) ?_
  refine lv_aload_n hx hb dX7_burning_9 rfl (lv_at hl 2 rfl) ?_
  refine fa_getr (k := 397) (j := 398) CX HX406 fl_X7_7 (by omega) rfl rfl hM.1 dX7_burning_10 ?_
  refine lv_bipush (v := nI (14)) hx hb dX7_burning_13 (by decide) ?_
  refine fa_iald (k := 398) (j := 14) CX HX406 (by omega) rfl (by omega) (by first | decide | assumption) dX7_burning_15 ?_
  have ky_16 : v 398 14 = (0 : Int32) := f0
  refine lv_icmp_ge (tgt := 42) hx hb dX7_burning_16 (by decide) (fun c_16 => ?_) (fun c_16 => ?_)
  · refine lv_iconst (v := nI (0)) hx hb dX7_burning_42 (by decide) ?_
    refine lv_istore_n (lv' := [(2, .int (nI (0))), (1, .int (nI (0))), (0, .ref (fa_B G + (397)))]) hx hb dX7_burning_43 rfl hl (by decide) rfl (fun ls hl => ?_)
    refine lv_iconst (v := nI (0)) hx hb dX7_burning_44 (by decide) ?_
    refine lv_istore_n (lv' := [(3, .int (nI (0))), (2, .int (nI (0))), (1, .int (nI (0))), (0, .ref (fa_B G + (397)))]) hx hb dX7_burning_45 rfl hl (by decide) rfl (fun ls hl => ?_)
    refine lv_iload_n hx hb dX7_burning_46 rfl (lv_at hl 0 rfl) ?_
    refine lv_aload_n hx hb dX7_burning_47 rfl (lv_at hl 3 rfl) ?_
    refine fa_getr (k := 397) (j := 398) CX HX406 fl_X7_7 (by omega) rfl rfl hM.1 dX7_burning_48 ?_
    refine lv_bipush (v := nI (14)) hx hb dX7_burning_51 (by decide) ?_
    refine fa_iald (k := 398) (j := 14) CX HX406 (by omega) rfl (by omega) (by first | decide | assumption) dX7_burning_53 ?_
    have ky_54 : v 398 14 = (0 : Int32) := f0
    refine lv_icmp_ge (tgt := 115) hx hb dX7_burning_54 (by decide) (fun c_54 => ?_) (fun c_54 => ?_)
    · refine lv_aload_n hx hb dX7_burning_115 rfl (lv_at hl 3 rfl) ?_
      refine fa_getr (k := 397) (j := 398) CX HX406 fl_X7_7 (by omega) rfl rfl hM.1 dX7_burning_116 ?_
      refine lv_bipush (v := nI (14)) hx hb dX7_burning_119 (by decide) ?_
      refine lv_iload_n hx hb dX7_burning_121 rfl (lv_at hl 1 rfl) ?_
      refine fa_iast (k := 398) (j := 14) CX HX406 (by omega) rfl (by omega) (by first | decide | assumption) dX7_burning_122 (fun H locs v407 e408 HX409 => ?_)
      refine lv_aload_n hx hb dX7_burning_123 rfl (lv_at hl 3 rfl) ?_
      refine fa_getr (k := 397) (j := 398) CX HX409 fl_X7_7 (by omega) rfl rfl hM.1 dX7_burning_124 ?_
      refine lv_bipush (v := nI (13)) hx hb dX7_burning_127 (by decide) ?_
      refine lv_dup2_11 hx hb dX7_burning_129 rfl rfl ?_
      refine fa_iald (k := 398) (j := 13) CX HX409 (by omega) rfl (by omega) (by first | decide | assumption) dX7_burning_130 ?_
      refine lv_iconst (v := nI (1)) hx hb dX7_burning_131 (by decide) ?_
      refine lv_iadd hx hb dX7_burning_132 ?_
      refine fa_iast (k := 398) (j := 13) CX HX409 (by omega) rfl (by omega) (by first | decide | assumption) dX7_burning_133 (fun H locs v410 e411 HX412 => ?_)
      refine lv_iload_n hx hb dX7_burning_134 rfl (lv_at hl 2 rfl) ?_
      exact RET _ _ _ _ _ _ _ HX412 dX7_burning_135 (⟨rfl, ⟨rfl, (fun i hi => by (show v410 398 i = v 398 i; rw [e411, fa_u_n _ _ (fun z => hi z.2), e408]; by_cases q : i = 14; (rw [q, fa_u_s, f0]; rfl); rw [fa_u_n _ _ (fun z => q z.2)])), (by rw [e411]; exact fa_fr.u (by rw [e408]; exact fa_fr.u fa_fr.rf (by omega)) (by omega))⟩⟩)
    · exact absurd (by rw [ky_54]; try decide) c_54
  · exact absurd (by rw [ky_16]; try decide) c_16
set_option maxHeartbeats 4000000 in
set_option maxRecDepth 100000 in
theorem p1m_day (l : Launch) (G : fa_G) (n : Nat) (hn : 406 ≤ n) (v : fa_V) (r : fa_R) (hM : fa_RM r) (f0 : v 398 14 = (0 : Int32)) (f1 : v 398 15 = (0 : Int32)) : fa_MI l G n yX7_day cX7_day 2 (some .int) 4 [.ref (fa_B G + (397))] v r (fa_voi r (fun x v1 => (x = (0 : Int32)) ∧ (∀ i, ¬ i = 7 → ¬ i = 13 → v1 398 i = v 398 i) ∧ (fa_fr (398) (399) v v1))) := by
  refine fa_startI (by decide +kernel) (Nat.le_of_ble_eq_true rfl) (fun p e s m args below meth c ls Q CX hl HX RET => ?_)
  have hl : lv_has ls 2 [(0, .ref (fa_B G + (397)))] := hl
  have hx := CX.1.1
  have hb := CX.1.2.1
  refine lv_aload_n hx hb dX7_day_0 rfl (lv_at hl 0 rfl) ?_
  refine fa_getr (k := 397) (j := 398) CX HX fl_X7_7 (by omega) rfl rfl hM.1 dX7_day_1 ?_
  refine lv_bipush (v := nI (7)) hx hb dX7_day_4 (by decide) ?_
  refine lv_dup2_11 hx hb dX7_day_6 rfl rfl ?_
  refine fa_iald (k := 398) (j := 7) CX HX (by omega) rfl (by omega) (by first | decide | assumption) dX7_day_7 ?_
  refine lv_iconst (v := nI (1)) hx hb dX7_day_8 (by decide) ?_
  refine lv_iadd hx hb dX7_day_9 ?_
  refine fa_iast (k := 398) (j := 7) CX HX (by omega) rfl (by omega) (by first | decide | assumption) dX7_day_10 (fun H locs v413 e414 HX415 => ?_)
  refine lv_aload_n hx hb dX7_day_11 rfl (lv_at hl 0 rfl) ?_
  refine fa_callVip (As := []) (rest := []) CX HX415 (p1m_reserved l G n hn v413 r hM  (by simp [f1, e414, fa_u] <;> rfl)) ln_X7_79 (by omega) rfl rfl rfl rfl (Nat.le_of_ble_eq_true rfl) hl.1 ⟨Nat.le_of_ble_eq_true rfl, Nat.le_of_ble_eq_true rfl⟩ ⟨Nat.le_refl _, Nat.le_refl _⟩ dX7_day_12 (fun x417 H locs h416 HX418 => ?_)
  have hv_reserved := h416
  refine lv_istore_n (lv' := [(1, .int (x417)), (0, .ref (fa_B G + (397)))]) hx hb dX7_day_15 rfl hl (by decide) rfl (fun ls hl => ?_)
  refine lv_aload_n hx hb dX7_day_16 rfl (lv_at hl 1 rfl) ?_
  refine fa_getr (k := 397) (j := 398) CX HX418 fl_X7_7 (by omega) rfl rfl hM.1 dX7_day_17 ?_
  refine lv_bipush (v := nI (7)) hx hb dX7_day_20 (by decide) ?_
  refine fa_iald (k := 398) (j := 7) CX HX418 (by omega) rfl (by omega) (by first | decide | assumption) dX7_day_22 ?_
  refine lv_bipush (v := nI (90)) hx hb dX7_day_23 (by decide) ?_
  refine lv_irem hx hb dX7_day_25 (by decide) ?_
  refine lv_if_ne (tgt := 36) hx hb dX7_day_26 (by decide) (fun c_26 => ?_) (fun c_26 => ?_)
  · refine lv_iconst (v := nI (0)) hx hb dX7_day_36 (by decide) ?_
    exact RET _ _ _ _ _ _ _ HX418 dX7_day_37 (⟨rfl, ⟨rfl, (fun i h7 h13 => by (show v413 398 i = v 398 i; rw [e414, fa_u_n _ _ (fun z => h7 z.2)])), (by rw [e414]; exact fa_fr.u fa_fr.rf (by omega))⟩⟩)
  · refine lv_aload_n hx hb dX7_day_29 rfl (lv_at hl 1 rfl) ?_
    refine fa_callViu (As := []) (rest := []) CX HX418 (p1m_burning l G n hn v413 r hM  (by simp [f0, e414, fa_u] <;> rfl)) ln_X7_83 (by omega) rfl rfl rfl rfl (Nat.le_of_ble_eq_true rfl) hl.1 ⟨Nat.le_of_ble_eq_true rfl, Nat.le_of_ble_eq_true rfl⟩ ⟨Nat.le_refl _, Nat.le_refl _⟩ dX7_day_30 (fun x420 v421 H locs h419 HX422 => ?_)
    have hv_burning := h419.1
    have h_burning := h419.2.1
    refine lv_goto (tgt := 37) hx hb dX7_day_33 (by decide) ?_
    exact RET _ _ _ _ _ _ _ HX422 dX7_day_37 (⟨rfl, ⟨(by assumption), (fun i h7 h13 => by (show v421 398 i = v 398 i; rw [h_burning i h13, e414, fa_u_n _ _ (fun z => h7 z.2)])), (fa_fr.tr (by rw [e414]; exact fa_fr.u fa_fr.rf (by omega)) (fa_fr.wide h419.2.2 (by omega) (by omega)))⟩⟩)
set_option maxHeartbeats 4000000 in
set_option maxRecDepth 100000 in
theorem p1m_passes (l : Launch) (G : fa_G) (n : Nat) (hn : 406 ≤ n) (v : fa_V) (r : fa_R) (hM : fa_RM r) (a1 : Int32) (f0 : v 398 14 = (0 : Int32)) (f1 : v 398 15 = (0 : Int32)) (f2 : v 398 7 = (0 : Int32)) : fa_MI l G n yX7_passes cX7_passes 4 (some .int) 5 [.ref (fa_B G + (397)), .int (a1)] v r (fa_voi r (fun x v1 => (x = if a1 < nI 1 ∨ ¬ a1 ≤ nI 400 then (-2 : Int32) else nI 0) ∧ (fa_fr (398) (399) v v1))) := by
  refine fa_startI (by decide +kernel) (Nat.le_of_ble_eq_true rfl) (fun p e s m args below meth c ls Q CX hl HX RET => ?_)
  have hl : lv_has ls 4 [(0, .ref (fa_B G + (397))), (1, .int (a1))] := hl
  have hx := CX.1.1
  have hb := CX.1.2.1
  refine lv_iload_n hx hb dX7_passes_0 rfl (lv_at hl 1 rfl) ?_
  refine lv_iconst (v := nI (1)) hx hb dX7_passes_1 (by decide) ?_
  refine lv_sipush (v := nI (400)) hx hb dX7_passes_2 (by decide) ?_
  refine fa_callSip (As := [.int (a1), .int (nI (1)), .int (nI (400))]) (rest := []) CX HX (c_X7_in l G n v r (a1) (nI (1)) (nI (400))) ln_X7_86 rfl rfl (Nat.le_of_ble_eq_true rfl) hl.1 ⟨Nat.le_of_ble_eq_true rfl, Nat.le_of_ble_eq_true rfl⟩ ⟨Nat.le_refl _, Nat.le_refl _⟩ dX7_passes_5 (fun x424 H locs h423 HX425 => ?_)
  have h_in_5 := h423
  refine lv_if_ne (tgt := 14) hx hb dX7_passes_8 (by decide) (fun c_8 => ?_) (fun c_8 => ?_)
  · have hin1 := fa_in1 h_in_5 c_8
    refine lv_aload_n hx hb dX7_passes_14 rfl (lv_at hl 0 rfl) ?_
    refine fa_getr (k := 397) (j := 398) CX HX425 fl_X7_7 (by omega) rfl rfl hM.1 dX7_passes_15 ?_
    refine lv_bipush (v := nI (7)) hx hb dX7_passes_18 (by decide) ?_
    refine fa_iald (k := 398) (j := 7) CX HX425 (by omega) rfl (by omega) (by first | decide | assumption) dX7_passes_20 ?_
    refine lv_iload_n hx hb dX7_passes_21 rfl (lv_at hl 1 rfl) ?_
    refine lv_iadd hx hb dX7_passes_22 ?_
    refine lv_sipush (v := nI (9999)) hx hb dX7_passes_23 (by decide) ?_
    refine lv_icmp_le (tgt := 32) hx hb dX7_passes_26 (by decide) (fun c_26 => ?_) (fun c_26 => ?_)
    · obtain ⟨ka, hka1, hka, eka⟩ := fa_natIn (by decide) (fun z => hin1 (Or.inl z)) (Int32.not_lt.mp (fun z => hin1 (Or.inr z)))
      refine lv_iconst (v := nI (0)) hx hb dX7_passes_32 (by decide) ?_
      refine lv_istore_n (lv' := [(2, .int (nI (0))), (0, .ref (fa_B G + (397))), (1, .int (a1))]) hx hb dX7_passes_33 rfl hl (by decide) rfl (fun ls hl => ?_)
      refine lv_iconst (v := nI (0)) hx hb dX7_passes_34 (by decide) ?_
      refine lv_istore_n (lv' := [(3, .int (nI (0))), (2, .int (nI (0))), (0, .ref (fa_B G + (397))), (1, .int (a1))]) hx hb dX7_passes_35 rfl hl (by decide) rfl (fun ls hl => ?_)
      have LOOP_36 : ∀ (fu : Nat) (j : Nat) (v426 : fa_V) (H : Heap) (locs : List Loc) (ls : Array Slot), ka - j < fu → (j ≤ ka ∧ (v426 398 14 = 0 ∧ v426 398 15 = 0 ∧ fa_fr 398 399 v v426)) → lv_has ls 4 [(0, .ref (fa_B G + (397))), (1, .int (a1)), (2, .int (nI (0))), (3, .int (nI (j)))] → fa_HX G (n) v426 r s H locs → W p l e (fa_rm 5) s m args below meth c H locs (0) (0) Q (F0 m 36 ls []) := by
        intro fu
        induction fu with
        | zero => intro j v426 H locs ls hk; exact absurd hk (Nat.not_lt_zero _)
        | succ fu ih_36 =>
          intro j v426 H locs ls hk_36 hi_36 hl HX427
          have hq := hi_36.2
          refine lv_iload_n hx hb dX7_passes_36 rfl (lv_at hl 3 rfl) ?_
          refine lv_iload_n hx hb dX7_passes_37 rfl (lv_at hl 1 rfl) ?_
          refine lv_icmp_ge (tgt := 54) hx hb dX7_passes_38 (by decide) (fun c_38 => ?_) (fun c_38 => ?_)
          · refine lv_iload_n hx hb dX7_passes_54 rfl (lv_at hl 2 rfl) ?_
            exact RET _ _ _ _ _ _ _ HX427 dX7_passes_55 (⟨rfl, ⟨(by rw [if_neg (fun z => hin1 (z.elim Or.inl (fun z => Or.inr (Int32.not_le.mp z))))]), (fa_fr.tr fa_fr.rf (fa_fr.wide hi_36.2.2.2 (by omega) (by omega)))⟩⟩)
          · have hjk : j < ka := by
              rw [eka] at c_38
              exact fa_ltN (by omega) (by omega) c_38
            refine lv_iload_n hx hb dX7_passes_41 rfl (lv_at hl 2 rfl) ?_
            refine lv_aload_n hx hb dX7_passes_42 rfl (lv_at hl 0 rfl) ?_
            refine fa_callViu (As := []) (rest := [.int (nI (0))]) CX HX427 (p1m_day l G n hn v426 r hM (hq.1) (hq.2.1)) ln_X7_99 (by omega) rfl rfl rfl rfl (Nat.le_of_ble_eq_true rfl) hl.1 ⟨Nat.le_of_ble_eq_true rfl, Nat.le_of_ble_eq_true rfl⟩ ⟨Nat.le_refl _, Nat.le_refl _⟩ dX7_passes_43 (fun x429 v430 H locs h428 HX431 => ?_)
            have hv_day := h428.1
            have h_day := h428.2.1
            refine lv_iadd hx hb dX7_passes_46 ?_
            rw [show (nI (0)) + (x429) = nI (0) from (by rw [hv_day]; rfl)]
            refine lv_istore_n (lv' := [(2, .int (nI (0))), (0, .ref (fa_B G + (397))), (1, .int (a1)), (3, .int (nI (j)))]) hx hb dX7_passes_47 rfl hl (by decide) rfl (fun ls hl => ?_)
            refine lv_iinc (v := nI (j + 1)) (lv' := [(3, .int (nI (j + 1))), (2, .int (nI (0))), (0, .ref (fa_B G + (397))), (1, .int (a1))]) hx hb dX7_passes_48 hl (k := 3) rfl (nI_add (j) 1) (by decide) rfl (fun ls hl => ?_)
            refine lv_goto (tgt := 36) hx hb dX7_passes_51 (by decide) ?_
            exact ih_36 (j + 1) v430 _ _ _ (by omega) (⟨by omega, (by rw [h_day 14 (by decide) (by decide)]; exact hq.1), (by rw [h_day 15 (by decide) (by decide)]; exact hq.2.1), (fa_fr.tr (fa_fr.tr fa_fr.rf (fa_fr.wide hi_36.2.2.2 (by omega) (by omega))) (fa_fr.wide h428.2.2 (by omega) (by omega)))⟩) (lv_sub hl [2, 3, 1, 0] rfl) HX431
      exact LOOP_36 (ka - 0 + 1) (0) v _ _ _ (Nat.lt_succ_self _) (⟨Nat.zero_le _, f0, f1, fa_fr.rf⟩) (lv_sub hl [2, 3, 1, 0] rfl) HX425
    · exact absurd (by rw [f2]; exact fa_add9999 (Int32.not_lt.mp (fun z => hin1 (Or.inr z)))) c_26
  · refine lv_bipush (v := (-2 : Int32)) hx hb dX7_passes_11 (by decide) ?_
    exact RET _ _ _ _ _ _ _ HX425 dX7_passes_13 (⟨rfl, ⟨(by have z : a1 < nI 1 ∨ nI 400 < a1 := fa_in0 h_in_5 c_8; rw [if_pos (by rcases z with z | z; exact Or.inl z; exact Or.inr (Int32.not_le.mpr z))]), fa_fr.rf⟩⟩)
