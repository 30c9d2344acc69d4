set_option maxHeartbeats 4000000 in
set_option maxRecDepth 100000 in
theorem l_acts (l : Launch) (G : fa_G) (n : Nat) (hn : 397 ≤ n) (v : fa_V) (r : fa_R) (hC : fa_CI v r) (A : fb_At) (H0 : List fb_At) (dy cm bu kn : Nat) (hV : fb_CV v r A H0) (hk : fc_ok A dy cm bu (dy / 90) kn) (hd : dy ≤ 6400) (hcm : cm ≤ 100) (hkn : kn ≤ 1000) (hi57 : fb_inj r 57) (ac : Nat) (hac : ac < 2147483648) : fa_MI l G n yL_acts cL_acts 34 (some .boolean) 8 [.ref (fa_B G + (0)), .int (nI (ac))] v r (fun x w => (x = nI 1 ∧ fc_nx w.1 w.2 dy cm kn) ∧ (fa_CI w.1 w.2) ∧ (fa_fr 0 395 v w.1) ∧ (∀ k, 395 ≤ k → w.2 k = r k)) := by
  refine fa_startZ (by decide +kernel) (Nat.le_of_ble_eq_true rfl) (fun p e s m args below meth c ls Q CX hl HX RET => ?_)
  have hl : lv_has ls 34 [(0, .ref (fa_B G + (0))), (1, .int (nI (ac)))] := hl
  have hx := CX.1.1
  have hb := CX.1.2.1
  have hB : (1 : Nat) ∈ fa_bs := by decide
  have hok := hV.1
  have hn24 : A.n ≤ 24 := hok.1.1
  have hm12 : A.m ≤ 12 := hok.2.1
  have hq8 : A.q.length ≤ 8 := hok.2.2.1
  refine lv_aload_n hx hb dL_acts_0 rfl (lv_at hl 0 rfl) ?_
  refine lv_iconst (v := nI (1)) hx hb dL_acts_1 (by decide) ?_
  refine fa_callVip (As := [.int (nI (1))]) (rest := []) CX HX (g_count l G n hn v r hC (nI (1))) ln_L_15 (by omega) rfl rfl rfl rfl (Nat.le_of_ble_eq_true rfl) hl.1 ⟨Nat.le_of_ble_eq_true rfl, Nat.le_of_ble_eq_true rfl⟩ ⟨Nat.le_refl _, Nat.le_refl _⟩ dL_acts_2 (fun x1576 H locs h1575 HX1577 => ?_)
  have h_count := h1575
  have e_2 : x1576 = nI (cm) := (((h_count A hV.1 hV.2.2.1).trans (fb_cntA_1 (by decide))).trans hk.2.1)
  subst e_2
  have JOIN_22 : ∀ (fi : Nat) (H : Heap) (locs : List Loc) (ls : Array Slot), (fi < cm ∨ (cm = 0 ∧ fi = 0)) → lv_has ls 34 [(0, .ref (fa_B G + (0))), (1, .int (nI (ac))), (2, .int (nI (fi)))] → fa_HX G (n) v r s H locs → W p l e (fa_rm 8) s m args below meth c H locs (0) (0) Q (F0 m 22 ls []) := by
    intro fi H locs ls hi_22 hl HX1578
    have JOIN_30 : ∀ (ho : Nat) (H : Heap) (locs : List Loc) (ls : Array Slot), (ho < 8) → lv_has ls 34 [(0, .ref (fa_B G + (0))), (1, .int (nI (ac))), (2, .int (nI (fi))), (3, .int (nI (ho)))] → fa_HX G (n) v r s H locs → W p l e (fa_rm 8) s m args below meth c H locs (0) (0) Q (F0 m 30 ls []) := by
      intro ho H locs ls hi_30 hl HX1579
      rcases (show (fb_ix A.F (nI fi) A.n = none ∧ cm = 0 ∧ fi = 0) ∨ (fb_ix A.F (nI fi) A.n = none ∧ fi < cm) ∨ ∃ pp, pp < A.n ∧ A.F pp 0 = nI fi from (fc_split (A := A) (nI fi)).elim (fun z => hi_22.elim (fun y => Or.inr (Or.inl ⟨z, y⟩)) (fun y => Or.inl ⟨z, y⟩)) (fun z => Or.inr (Or.inr z))) with ⟨hno, hc0, hf0⟩ | ⟨hno, hfi⟩ | ⟨pp, hpp, ep⟩
      · have hfi9 : fi ≤ cm := by omega
        refine lv_aload_n hx hb dL_acts_30 rfl (lv_at hl 0 rfl) ?_
        refine lv_iload_n hx hb dL_acts_31 rfl (lv_at hl 2 rfl) ?_
        refine lv_iconst (v := nI (0)) hx hb dL_acts_32 (by decide) ?_
        refine fa_callVip (As := [.int (nI (fi)), .int (nI (0))]) (rest := []) CX HX1579 (g_file l G n hn v r hC (nI (fi)) (nI (0))) ln_L_9 (by omega) rfl rfl rfl rfl (Nat.le_of_ble_eq_true rfl) hl.1 ⟨Nat.le_of_ble_eq_true rfl, Nat.le_of_ble_eq_true rfl⟩ ⟨Nat.le_refl _, Nat.le_refl _⟩ dL_acts_33 (fun x1581 H locs h1580 HX1582 => ?_)
        have h_file := h1580
        have e_33 : x1581 = (-1 : Int32) := ((h_file A hV.1 hV.2.2.1).trans (fb_filA_n hno))
        subst e_33
        refine lv_istore (lv' := [(4, .int ((-1 : Int32))), (0, .ref (fa_B G + (0))), (1, .int (nI (ac))), (2, .int (nI (fi))), (3, .int (nI (ho)))]) hx hb dL_acts_36 hl (by decide) rfl (fun ls hl => ?_)
        refine lv_iload_n hx hb dL_acts_38 rfl (lv_at hl 2 rfl) ?_
        refine lv_bipush (v := nI (12)) hx hb dL_acts_39 (by decide) ?_
        refine lv_irem hx hb dL_acts_41 (by decide) ?_
        rw [show (nI (ac)) - (nI (ac)) / (nI (12)) * (nI (12)) = nI (ac % 12) from pk_rem (by omega) (by decide) (by omega)]
        have JOIN_96 : ∀  (H : Heap) (locs : List Loc) (ls : Array Slot), (True) → lv_has ls 34 [(0, .ref (fa_B G + (0))), (1, .int (nI (ac))), (2, .int (nI (fi))), (3, .int (nI (ho))), (4, .int ((-1 : Int32)))] → fa_HX G (n) v r s H locs → W p l e (fa_rm 8) s m args below meth c H locs (0) (0) Q (F0 m 96 ls []) := by
          intro  H locs ls hi_96 hl HX1583
          refine lv_aload_n hx hb dL_acts_96 rfl (lv_at hl 0 rfl) ?_
          refine lv_iconst (v := nI (1)) hx hb dL_acts_97 (by decide) ?_
          refine fa_callVip (As := [.int (nI (1))]) (rest := []) CX HX1583 (g_count l G n hn v r hC (nI (1))) ln_L_15 (by omega) rfl rfl rfl rfl (Nat.le_of_ble_eq_true rfl) hl.1 ⟨Nat.le_of_ble_eq_true rfl, Nat.le_of_ble_eq_true rfl⟩ ⟨Nat.le_refl _, Nat.le_refl _⟩ dL_acts_98 (fun x1585 H locs h1584 HX1586 => ?_)
          have h_count := h1584
          have e_98 : x1585 = nI (cm) := (((h_count A hV.1 hV.2.2.1).trans (fb_cntA_1 (by decide))).trans hk.2.1)
          subst e_98
          refine lv_istore (lv' := [(5, .int (nI (cm))), (0, .ref (fa_B G + (0))), (1, .int (nI (ac))), (2, .int (nI (fi))), (3, .int (nI (ho))), (4, .int ((-1 : Int32)))]) hx hb dL_acts_101 hl (by decide) rfl (fun ls hl => ?_)
          refine lv_iconst (v := nI (1)) hx hb dL_acts_103 (by decide) ?_
          refine lv_iload_n hx hb dL_acts_104 rfl (lv_at hl 2 rfl) ?_
          refine lv_bipush (v := nI (8)) hx hb dL_acts_105 (by decide) ?_
          refine lv_ishr hx hb dL_acts_107 ?_
          rw [show (nI (ac)) >>> ((nI (8)) &&& 31) = nI (ac / 256) from fc_shr (k := 8) (by omega) (by decide)]
          refine lv_bipush (v := nI (50)) hx hb dL_acts_108 (by decide) ?_
          refine lv_irem hx hb dL_acts_110 (by decide) ?_
          rw [show (nI (ac / 256)) - (nI (ac / 256)) / (nI (50)) * (nI (50)) = nI ((ac / 256) % 50) from pk_rem (by omega) (by decide) (by omega)]
          refine fa_iaddN hx hb dL_acts_111 ?_
          refine lv_istore (lv' := [(6, .int (nI (1 + ((ac / 256) % 50)))), (5, .int (nI (cm))), (0, .ref (fa_B G + (0))), (1, .int (nI (ac))), (2, .int (nI (fi))), (3, .int (nI (ho))), (4, .int ((-1 : Int32)))]) hx hb dL_acts_112 hl (by decide) rfl (fun ls hl => ?_)
          refine lv_aload_n hx hb dL_acts_114 rfl (lv_at hl 2 rfl) ?_
          refine lv_iconst (v := nI (0)) hx hb dL_acts_115 (by decide) ?_
          refine fa_callVip (As := [.int (nI (0))]) (rest := []) CX HX1586 (g_count l G n hn v r hC (nI (0))) ln_L_15 (by omega) rfl rfl rfl rfl (Nat.le_of_ble_eq_true rfl) hl.1 ⟨Nat.le_of_ble_eq_true rfl, Nat.le_of_ble_eq_true rfl⟩ ⟨Nat.le_refl _, Nat.le_refl _⟩ dL_acts_116 (fun x1588 H locs h1587 HX1589 => ?_)
          have h_count := h1587
          have e_116 : x1588 = nI (A.n) := ((h_count A hV.1 hV.2.2.1).trans (fb_cntA_0 (by decide)))
          subst e_116
          refine lv_bipush (v := nI (24)) hx hb dL_acts_119 (by decide) ?_
          refine lv_icmp_ge (tgt := 145) hx hb dL_acts_121 (by decide) (fun c_121 => ?_) (fun c_121 => ?_)
          · have h24 : 24 ≤ A.n := fa_leN (by omega) (by omega) c_121
            refine lv_iconst (v := nI (0)) hx hb dL_acts_145 (by decide) ?_
            refine lv_istore (lv' := [(7, .int (nI (0))), (6, .int (nI (1 + ((ac / 256) % 50)))), (5, .int (nI (cm))), (0, .ref (fa_B G + (0))), (1, .int (nI (ac))), (2, .int (nI (fi))), (3, .int (nI (ho))), (4, .int ((-1 : Int32)))]) hx hb dL_acts_146 hl (by decide) rfl (fun ls hl => ?_)
            refine lv_aload_n hx hb dL_acts_148 rfl (lv_at hl 3 rfl) ?_
            refine lv_iload_n hx hb dL_acts_149 rfl (lv_at hl 4 rfl) ?_
            refine lv_iconst (v := nI (4)) hx hb dL_acts_150 (by decide) ?_
            refine lv_ishr hx hb dL_acts_151 ?_
            rw [show (nI (ac)) >>> ((nI (4)) &&& 31) = nI (ac / 16) from fc_shr (k := 4) (by omega) (by decide)]
            refine lv_iconst (v := nI (5)) hx hb dL_acts_152 (by decide) ?_
            refine lv_irem hx hb dL_acts_153 (by decide) ?_
            rw [show (nI (ac / 16)) - (nI (ac / 16)) / (nI (5)) * (nI (5)) = nI ((ac / 16) % 5) from pk_rem (by omega) (by decide) (by omega)]
            refine lv_iload hx hb dL_acts_154 (lv_at hl 1 rfl) ?_
            refine fa_callVi (As := [.int (nI ((ac / 16) % 5)), .int (nI (1 + ((ac / 256) % 50)))]) (rest := []) CX HX1589 (g_add5 l G n hn v r hC (nI ((ac / 16) % 5)) (nI (1 + ((ac / 256) % 50)))) ln_L_44 (by omega) rfl rfl rfl rfl (Nat.le_of_ble_eq_true rfl) hl.1 ⟨Nat.le_of_ble_eq_true rfl, Nat.le_of_ble_eq_true rfl⟩ ⟨Nat.le_refl _, Nat.le_refl _⟩ dL_acts_156 (fun x1591 v1592 r1593 H locs h1590 HX1594 => ?_)
            dsimp only at h1590
            have hC_v1592 := h1590.2.1
            have h_add5 := h1590.1
            obtain ⟨hr58_156, hac_156⟩ := h_add5
            obtain ⟨hx_156, hV_156⟩ := hac_156 _ _ hV
            rw [fc_add0 (k := (ac / 16) % 5) (p := 1 + (ac / 256) % 50) (by omega) (by omega) (by omega) (Or.inl h24)] at hx_156 hV_156
            have hV_156 : fb_CV v1592 r1593 A _ := hV_156
            have hI_156 : fb_inj r1593 57 := hi57.congr hr58_156
            have hk_156 := hk
            have e_156 : x1591 = (-4 : Int32) := hx_156
            subst e_156
            refine lv_istore (lv' := [(8, .int ((-4 : Int32))), (7, .int (nI (0))), (6, .int (nI (1 + ((ac / 256) % 50)))), (5, .int (nI (cm))), (0, .ref (fa_B G + (0))), (1, .int (nI (ac))), (2, .int (nI (fi))), (3, .int (nI (ho))), (4, .int ((-1 : Int32)))]) hx hb dL_acts_159 hl (by decide) rfl (fun ls hl => ?_)
            refine lv_iload hx hb dL_acts_161 (lv_at hl 1 rfl) ?_
            refine lv_if_eq (tgt := 219) hx hb dL_acts_163 (by decide) (fun c_163 => ?_) (fun c_163 => ?_)
            · refine lv_iload hx hb dL_acts_219 (lv_at hl 0 rfl) ?_
              refine lv_bipush (v := (-4 : Int32)) hx hb dL_acts_221 (by decide) ?_
              refine lv_icmp_ne (tgt := 230) hx hb dL_acts_223 (by decide) (fun c_223 => ?_) (fun c_223 => ?_)
              · exact absurd (by try decide) c_223
              · refine lv_iconst (v := nI (1)) hx hb dL_acts_226 (by decide) ?_
                refine lv_goto (tgt := 231) hx hb dL_acts_227 (by decide) ?_
                exact RET _ _ _ _ _ _ _ HX1594 dL_acts_231 (by decide) (⟨⟨rfl, A, _, dy, cm, bu, hV_156, hk_156.more (Nat.le_succ _), ⟨by omega, by omega, by omega, by omega⟩, hI_156⟩, hC_v1592, (fa_fr.tr fa_fr.rf (fa_fr.wide h1590.2.2.1 (by omega) (by omega))), (fun k hk => ((h1590.2.2.2 k hk).trans rfl))⟩)
            · exact absurd (by try decide) c_163
          · have h24 : A.n < 24 := fa_ltN (by omega) (by omega) c_121
            refine lv_aload_n hx hb dL_acts_124 rfl (lv_at hl 2 rfl) ?_
            refine lv_iconst (v := nI (2)) hx hb dL_acts_125 (by decide) ?_
            refine fa_callVip (As := [.int (nI (2))]) (rest := []) CX HX1589 (g_count l G n hn v r hC (nI (2))) ln_L_15 (by omega) rfl rfl rfl rfl (Nat.le_of_ble_eq_true rfl) hl.1 ⟨Nat.le_of_ble_eq_true rfl, Nat.le_of_ble_eq_true rfl⟩ ⟨Nat.le_refl _, Nat.le_refl _⟩ dL_acts_126 (fun x1596 H locs h1595 HX1597 => ?_)
            have h_count := h1595
            have e_126 : x1596 = fb_pgs A := ((h_count A hV.1 hV.2.2.1).trans (fb_cntA_2 (by decide)))
            subst e_126
            refine lv_iload hx hb dL_acts_129 (lv_at hl 0 rfl) ?_
            refine lv_iadd hx hb dL_acts_131 ?_
            refine lv_aload_n hx hb dL_acts_132 rfl (lv_at hl 2 rfl) ?_
            refine lv_bipush (v := nI (6)) hx hb dL_acts_133 (by decide) ?_
            refine fa_callVip (As := [.int (nI (6))]) (rest := [.int ((fb_pgs A) + (nI (1 + ((ac / 256) % 50))))]) CX HX1597 (g_setting l G n hn v r hC (nI (6))) ln_L_22 (by omega) rfl rfl rfl rfl (Nat.le_of_ble_eq_true rfl) hl.1 ⟨Nat.le_of_ble_eq_true rfl, Nat.le_of_ble_eq_true rfl⟩ ⟨Nat.le_refl _, Nat.le_refl _⟩ dL_acts_135 (fun x1599 H locs h1598 HX1600 => ?_)
            have h_setting := h1598
            have e_135 : x1599 = A.g 6 := ((h_setting A hV.1 hV.2.2.1).trans (fc_stg (k := 6) (by decide)))
            subst e_135
            refine lv_icmp_gt (tgt := 145) hx hb dL_acts_138 (by decide) (fun c_138 => ?_) (fun c_138 => ?_)
            · refine lv_iconst (v := nI (0)) hx hb dL_acts_145 (by decide) ?_
              refine lv_istore (lv' := [(7, .int (nI (0))), (6, .int (nI (1 + ((ac / 256) % 50)))), (5, .int (nI (cm))), (0, .ref (fa_B G + (0))), (1, .int (nI (ac))), (2, .int (nI (fi))), (3, .int (nI (ho))), (4, .int ((-1 : Int32)))]) hx hb dL_acts_146 hl (by decide) rfl (fun ls hl => ?_)
              refine lv_aload_n hx hb dL_acts_148 rfl (lv_at hl 3 rfl) ?_
              refine lv_iload_n hx hb dL_acts_149 rfl (lv_at hl 4 rfl) ?_
              refine lv_iconst (v := nI (4)) hx hb dL_acts_150 (by decide) ?_
              refine lv_ishr hx hb dL_acts_151 ?_
              rw [show (nI (ac)) >>> ((nI (4)) &&& 31) = nI (ac / 16) from fc_shr (k := 4) (by omega) (by decide)]
              refine lv_iconst (v := nI (5)) hx hb dL_acts_152 (by decide) ?_
              refine lv_irem hx hb dL_acts_153 (by decide) ?_
              rw [show (nI (ac / 16)) - (nI (ac / 16)) / (nI (5)) * (nI (5)) = nI ((ac / 16) % 5) from pk_rem (by omega) (by decide) (by omega)]
              refine lv_iload hx hb dL_acts_154 (lv_at hl 1 rfl) ?_
              refine fa_callVi (As := [.int (nI ((ac / 16) % 5)), .int (nI (1 + ((ac / 256) % 50)))]) (rest := []) CX HX1600 (g_add5 l G n hn v r hC (nI ((ac / 16) % 5)) (nI (1 + ((ac / 256) % 50)))) ln_L_44 (by omega) rfl rfl rfl rfl (Nat.le_of_ble_eq_true rfl) hl.1 ⟨Nat.le_of_ble_eq_true rfl, Nat.le_of_ble_eq_true rfl⟩ ⟨Nat.le_refl _, Nat.le_refl _⟩ dL_acts_156 (fun x1602 v1603 r1604 H locs h1601 HX1605 => ?_)
              dsimp only at h1601
              have hC_v1603 := h1601.2.1
              have h_add5 := h1601.1
              obtain ⟨hr58_156, hac_156⟩ := h_add5
              obtain ⟨hx_156, hV_156⟩ := hac_156 _ _ hV
              rw [fc_add0 (k := (ac / 16) % 5) (p := 1 + (ac / 256) % 50) (by omega) (by omega) (by omega) (Or.inr (Int32.not_le.mpr c_138))] at hx_156 hV_156
              have hV_156 : fb_CV v1603 r1604 A _ := hV_156
              have hI_156 : fb_inj r1604 57 := hi57.congr hr58_156
              have hk_156 := hk
              have e_156 : x1602 = (-4 : Int32) := hx_156
              subst e_156
              refine lv_istore (lv' := [(8, .int ((-4 : Int32))), (7, .int (nI (0))), (6, .int (nI (1 + ((ac / 256) % 50)))), (5, .int (nI (cm))), (0, .ref (fa_B G + (0))), (1, .int (nI (ac))), (2, .int (nI (fi))), (3, .int (nI (ho))), (4, .int ((-1 : Int32)))]) hx hb dL_acts_159 hl (by decide) rfl (fun ls hl => ?_)
              refine lv_iload hx hb dL_acts_161 (lv_at hl 1 rfl) ?_
              refine lv_if_eq (tgt := 219) hx hb dL_acts_163 (by decide) (fun c_163 => ?_) (fun c_163 => ?_)
              · refine lv_iload hx hb dL_acts_219 (lv_at hl 0 rfl) ?_
                refine lv_bipush (v := (-4 : Int32)) hx hb dL_acts_221 (by decide) ?_
                refine lv_icmp_ne (tgt := 230) hx hb dL_acts_223 (by decide) (fun c_223 => ?_) (fun c_223 => ?_)
                · exact absurd (by try decide) c_223
                · refine lv_iconst (v := nI (1)) hx hb dL_acts_226 (by decide) ?_
                  refine lv_goto (tgt := 231) hx hb dL_acts_227 (by decide) ?_
                  exact RET _ _ _ _ _ _ _ HX1605 dL_acts_231 (by decide) (⟨⟨rfl, A, _, dy, cm, bu, hV_156, hk_156.more (Nat.le_succ _), ⟨by omega, by omega, by omega, by omega⟩, hI_156⟩, hC_v1603, (fa_fr.tr fa_fr.rf (fa_fr.wide h1601.2.2.1 (by omega) (by omega))), (fun k hk => ((h1601.2.2.2 k hk).trans rfl))⟩)
              · exact absurd (by try decide) c_163
            · refine lv_iconst (v := nI (1)) hx hb dL_acts_141 (by decide) ?_
              refine lv_goto (tgt := 146) hx hb dL_acts_142 (by decide) ?_
              refine lv_istore (lv' := [(7, .int (nI (1))), (6, .int (nI (1 + ((ac / 256) % 50)))), (5, .int (nI (cm))), (0, .ref (fa_B G + (0))), (1, .int (nI (ac))), (2, .int (nI (fi))), (3, .int (nI (ho))), (4, .int ((-1 : Int32)))]) hx hb dL_acts_146 hl (by decide) rfl (fun ls hl => ?_)
              refine lv_aload_n hx hb dL_acts_148 rfl (lv_at hl 3 rfl) ?_
              refine lv_iload_n hx hb dL_acts_149 rfl (lv_at hl 4 rfl) ?_
              refine lv_iconst (v := nI (4)) hx hb dL_acts_150 (by decide) ?_
              refine lv_ishr hx hb dL_acts_151 ?_
              rw [show (nI (ac)) >>> ((nI (4)) &&& 31) = nI (ac / 16) from fc_shr (k := 4) (by omega) (by decide)]
              refine lv_iconst (v := nI (5)) hx hb dL_acts_152 (by decide) ?_
              refine lv_irem hx hb dL_acts_153 (by decide) ?_
              rw [show (nI (ac / 16)) - (nI (ac / 16)) / (nI (5)) * (nI (5)) = nI ((ac / 16) % 5) from pk_rem (by omega) (by decide) (by omega)]
              refine lv_iload hx hb dL_acts_154 (lv_at hl 1 rfl) ?_
              refine fa_callVi (As := [.int (nI ((ac / 16) % 5)), .int (nI (1 + ((ac / 256) % 50)))]) (rest := []) CX HX1600 (g_add5 l G n hn v r hC (nI ((ac / 16) % 5)) (nI (1 + ((ac / 256) % 50)))) ln_L_44 (by omega) rfl rfl rfl rfl (Nat.le_of_ble_eq_true rfl) hl.1 ⟨Nat.le_of_ble_eq_true rfl, Nat.le_of_ble_eq_true rfl⟩ ⟨Nat.le_refl _, Nat.le_refl _⟩ dL_acts_156 (fun x1607 v1608 r1609 H locs h1606 HX1610 => ?_)
              dsimp only at h1606
              have hC_v1608 := h1606.2.1
              have h_add5 := h1606.1
              obtain ⟨hr58_156, hac_156⟩ := h_add5
              obtain ⟨hx_156, hV_156⟩ := hac_156 _ _ hV
              rw [fc_add1 (k := (ac / 16) % 5) (p := 1 + (ac / 256) % 50) (by omega) (by omega) (by omega) hk.2.1 h24 (by omega) (Int32.not_lt.mp c_138)] at hx_156 hV_156
              have hV_156 : fb_CV v1608 r1609 (fc_addX A (nI ((ac / 16) % 5)) (nI (1 + (ac / 256) % 50))) _ := hV_156
              have hI_156 : fb_inj r1609 57 := hi57.congr hr58_156
              have hk_156 : fc_ok (fc_addX A (nI ((ac / 16) % 5)) (nI (1 + (ac / 256) % 50))) dy (cm + 1) bu (dy / 90) (kn + 1) := ((hk.new (kd := nI ((ac / 16) % 5)) (pg := nI (1 + (ac / 256) % 50)) ⟨_, by omega, by omega, rfl⟩ (by omega)).more (Nat.le_succ _))
              have e_156 : x1607 = nI (cm) := hx_156
              subst e_156
              refine lv_istore (lv' := [(8, .int (nI (cm))), (7, .int (nI (1))), (6, .int (nI (1 + ((ac / 256) % 50)))), (5, .int (nI (cm))), (0, .ref (fa_B G + (0))), (1, .int (nI (ac))), (2, .int (nI (fi))), (3, .int (nI (ho))), (4, .int ((-1 : Int32)))]) hx hb dL_acts_159 hl (by decide) rfl (fun ls hl => ?_)
              refine lv_iload hx hb dL_acts_161 (lv_at hl 1 rfl) ?_
              refine lv_if_eq (tgt := 219) hx hb dL_acts_163 (by decide) (fun c_163 => ?_) (fun c_163 => ?_)
              · exact absurd c_163 (by try decide)
              · refine lv_iload hx hb dL_acts_166 (lv_at hl 0 rfl) ?_
                refine lv_iload hx hb dL_acts_168 (lv_at hl 3 rfl) ?_
                refine lv_icmp_ne (tgt := 215) hx hb dL_acts_170 (by decide) (fun c_170 => ?_) (fun c_170 => ?_)
                · exact absurd rfl c_170
                · refine lv_aload_n hx hb dL_acts_173 rfl (lv_at hl 4 rfl) ?_
                  refine lv_iload hx hb dL_acts_174 (lv_at hl 0 rfl) ?_
                  refine lv_iconst (v := nI (1)) hx hb dL_acts_176 (by decide) ?_
                  refine fa_callVip (As := [.int (nI (cm)), .int (nI (1))]) (rest := []) CX HX1610 (g_file l G n hn v1608 r1609 hC_v1608 (nI (cm)) (nI (1))) ln_L_9 (by omega) rfl rfl rfl rfl (Nat.le_of_ble_eq_true rfl) hl.1 ⟨Nat.le_of_ble_eq_true rfl, Nat.le_of_ble_eq_true rfl⟩ ⟨Nat.le_refl _, Nat.le_refl _⟩ dL_acts_177 (fun x1612 H locs h1611 HX1613 => ?_)
                  have h_file := h1611
                  have e_177 : x1612 = nI (1 + (ac / 256) % 50) := (((h_file (fc_addX A (nI ((ac / 16) % 5)) (nI (1 + (ac / 256) % 50))) hV_156.1 hV_156.2.2.1).trans (fc_addQ hV_156.1 hk.2.1)).trans ((fb_filP_1 (by decide)).trans fc_addF))
                  subst e_177
                  refine lv_iload hx hb dL_acts_180 (lv_at hl 2 rfl) ?_
                  refine lv_icmp_ne (tgt := 215) hx hb dL_acts_182 (by decide) (fun c_182 => ?_) (fun c_182 => ?_)
                  · exact absurd rfl c_182
                  · refine lv_aload_n hx hb dL_acts_185 rfl (lv_at hl 4 rfl) ?_
                    refine lv_iload hx hb dL_acts_186 (lv_at hl 0 rfl) ?_
                    refine lv_iconst (v := nI (2)) hx hb dL_acts_188 (by decide) ?_
                    refine fa_callVip (As := [.int (nI (cm)), .int (nI (2))]) (rest := []) CX HX1613 (g_file l G n hn v1608 r1609 hC_v1608 (nI (cm)) (nI (2))) ln_L_9 (by omega) rfl rfl rfl rfl (Nat.le_of_ble_eq_true rfl) hl.1 ⟨Nat.le_of_ble_eq_true rfl, Nat.le_of_ble_eq_true rfl⟩ ⟨Nat.le_refl _, Nat.le_refl _⟩ dL_acts_189 (fun x1615 H locs h1614 HX1616 => ?_)
                    have h_file := h1614
                    have e_189 : x1615 = nI (dy) := ((((h_file (fc_addX A (nI ((ac / 16) % 5)) (nI (1 + (ac / 256) % 50))) hV_156.1 hV_156.2.2.1).trans (fc_addQ hV_156.1 hk.2.1)).trans ((fb_filP_2 (by decide)).trans fc_addF)).trans hk.1)
                    subst e_189
                    refine lv_aload_n hx hb dL_acts_192 rfl (lv_at hl 4 rfl) ?_
                    refine fa_callVip (As := []) (rest := [.int (nI (dy))]) CX HX1616 (g_now l G n hn v1608 r1609 hC_v1608 ) ln_L_31 (by omega) rfl rfl rfl rfl (Nat.le_of_ble_eq_true rfl) hl.1 ⟨Nat.le_of_ble_eq_true rfl, Nat.le_of_ble_eq_true rfl⟩ ⟨Nat.le_refl _, Nat.le_refl _⟩ dL_acts_193 (fun x1618 H locs h1617 HX1619 => ?_)
                    have h_now := h1617
                    have e_193 : x1618 = nI (dy) := ((h_now.trans hV_156.2.2.1.now).trans hk_156.1)
                    subst e_193
                    refine lv_icmp_ne (tgt := 215) hx hb dL_acts_196 (by decide) (fun c_196 => ?_) (fun c_196 => ?_)
                    · exact absurd rfl c_196
                    · refine lv_aload_n hx hb dL_acts_199 rfl (lv_at hl 4 rfl) ?_
                      refine lv_iload hx hb dL_acts_200 (lv_at hl 0 rfl) ?_
                      refine lv_iconst (v := nI (3)) hx hb dL_acts_202 (by decide) ?_
                      refine fa_callVip (As := [.int (nI (cm)), .int (nI (3))]) (rest := []) CX HX1619 (g_file l G n hn v1608 r1609 hC_v1608 (nI (cm)) (nI (3))) ln_L_9 (by omega) rfl rfl rfl rfl (Nat.le_of_ble_eq_true rfl) hl.1 ⟨Nat.le_of_ble_eq_true rfl, Nat.le_of_ble_eq_true rfl⟩ ⟨Nat.le_refl _, Nat.le_refl _⟩ dL_acts_203 (fun x1621 H locs h1620 HX1622 => ?_)
                      have h_file := h1620
                      have e_203 : x1621 = (-6 : Int32) := ((((h_file (fc_addX A (nI ((ac / 16) % 5)) (nI (1 + (ac / 256) % 50))) hV_156.1 hV_156.2.2.1).trans (fc_addQ hV_156.1 hk.2.1)).trans (fb_filP_3 (by decide))).trans (by rw [fc_addF]; decide))
                      subst e_203
                      refine lv_bipush (v := (-6 : Int32)) hx hb dL_acts_206 (by decide) ?_
                      refine lv_icmp_ne (tgt := 215) hx hb dL_acts_208 (by decide) (fun c_208 => ?_) (fun c_208 => ?_)
                      · exact absurd (by try decide) c_208
                      · refine lv_iconst (v := nI (1)) hx hb dL_acts_211 (by decide) ?_
                        refine lv_goto (tgt := 231) hx hb dL_acts_212 (by decide) ?_
                        exact RET _ _ _ _ _ _ _ HX1622 dL_acts_231 (by decide) (⟨⟨rfl, (fc_addX A (nI ((ac / 16) % 5)) (nI (1 + (ac / 256) % 50))), _, dy, cm + 1, bu, hV_156, hk_156.more (Nat.le_refl _), ⟨by omega, by omega, by omega, by omega⟩, hI_156⟩, hC_v1608, (fa_fr.tr fa_fr.rf (fa_fr.wide h1606.2.2.1 (by omega) (by omega))), (fun k hk => ((h1606.2.2.2 k hk).trans rfl))⟩)
        have JOIN_232 : ∀  (H : Heap) (locs : List Loc) (ls : Array Slot), (True) → lv_has ls 34 [(0, .ref (fa_B G + (0))), (1, .int (nI (ac))), (2, .int (nI (fi))), (3, .int (nI (ho))), (4, .int ((-1 : Int32)))] → fa_HX G (n) v r s H locs → W p l e (fa_rm 8) s m args below meth c H locs (0) (0) Q (F0 m 232 ls []) := by
          intro  H locs ls hi_232 hl HX1623
          refine lv_aload_n hx hb dL_acts_232 rfl (lv_at hl 0 rfl) ?_
          refine lv_iload_n hx hb dL_acts_233 rfl (lv_at hl 2 rfl) ?_
          refine lv_iconst (v := nI (4)) hx hb dL_acts_234 (by decide) ?_
          refine fa_callVip (As := [.int (nI (fi)), .int (nI (4))]) (rest := []) CX HX1623 (g_file l G n hn v r hC (nI (fi)) (nI (4))) ln_L_9 (by omega) rfl rfl rfl rfl (Nat.le_of_ble_eq_true rfl) hl.1 ⟨Nat.le_of_ble_eq_true rfl, Nat.le_of_ble_eq_true rfl⟩ ⟨Nat.le_refl _, Nat.le_refl _⟩ dL_acts_235 (fun x1625 H locs h1624 HX1626 => ?_)
          have h_file := h1624
          have e_235 : x1625 = (-1 : Int32) := ((h_file A hV.1 hV.2.2.1).trans (fb_filA_n hno))
          subst e_235
          refine lv_istore (lv' := [(9, .int ((-1 : Int32))), (0, .ref (fa_B G + (0))), (1, .int (nI (ac))), (2, .int (nI (fi))), (3, .int (nI (ho))), (4, .int ((-1 : Int32)))]) hx hb dL_acts_238 hl (by decide) rfl (fun ls hl => ?_)
          refine lv_aload_n hx hb dL_acts_240 rfl (lv_at hl 1 rfl) ?_
          refine lv_bipush (v := nI (6)) hx hb dL_acts_241 (by decide) ?_
          refine fa_callVip (As := [.int (nI (6))]) (rest := []) CX HX1626 (g_count l G n hn v r hC (nI (6))) ln_L_15 (by omega) rfl rfl rfl rfl (Nat.le_of_ble_eq_true rfl) hl.1 ⟨Nat.le_of_ble_eq_true rfl, Nat.le_of_ble_eq_true rfl⟩ ⟨Nat.le_refl _, Nat.le_refl _⟩ dL_acts_243 (fun x1628 H locs h1627 HX1629 => ?_)
          have h_count := h1627
          have e_243 : x1628 = A.g 12 := ((h_count A hV.1 hV.2.2.1).trans (fb_cntA_6 (by decide)))
          subst e_243
          refine lv_istore (lv' := [(10, .int (A.g 12)), (9, .int ((-1 : Int32))), (0, .ref (fa_B G + (0))), (1, .int (nI (ac))), (2, .int (nI (fi))), (3, .int (nI (ho))), (4, .int ((-1 : Int32)))]) hx hb dL_acts_246 hl (by decide) rfl (fun ls hl => ?_)
          refine lv_aload_n hx hb dL_acts_248 rfl (lv_at hl 2 rfl) ?_
          refine lv_iconst (v := nI (5)) hx hb dL_acts_249 (by decide) ?_
          refine fa_callVip (As := [.int (nI (5))]) (rest := []) CX HX1629 (g_count l G n hn v r hC (nI (5))) ln_L_15 (by omega) rfl rfl rfl rfl (Nat.le_of_ble_eq_true rfl) hl.1 ⟨Nat.le_of_ble_eq_true rfl, Nat.le_of_ble_eq_true rfl⟩ ⟨Nat.le_refl _, Nat.le_refl _⟩ dL_acts_250 (fun x1631 H locs h1630 HX1632 => ?_)
          have h_count := h1630
          have e_250 : x1631 = A.g 11 := ((h_count A hV.1 hV.2.2.1).trans (fb_cntA_5 (by decide)))
          subst e_250
          refine lv_istore (lv' := [(11, .int (A.g 11)), (10, .int (A.g 12)), (9, .int ((-1 : Int32))), (0, .ref (fa_B G + (0))), (1, .int (nI (ac))), (2, .int (nI (fi))), (3, .int (nI (ho))), (4, .int ((-1 : Int32)))]) hx hb dL_acts_253 hl (by decide) rfl (fun ls hl => ?_)
          refine lv_aload_n hx hb dL_acts_255 rfl (lv_at hl 3 rfl) ?_
          refine lv_iload_n hx hb dL_acts_256 rfl (lv_at hl 5 rfl) ?_
          refine fa_callVi (As := [.int (nI (fi))]) (rest := []) CX HX1632 (g_ask5 l G n hn v r hC (nI (fi))) ln_L_47 (by omega) rfl rfl rfl rfl (Nat.le_of_ble_eq_true rfl) hl.1 ⟨Nat.le_of_ble_eq_true rfl, Nat.le_of_ble_eq_true rfl⟩ ⟨Nat.le_refl _, Nat.le_refl _⟩ dL_acts_257 (fun x1634 v1635 r1636 H locs h1633 HX1637 => ?_)
          dsimp only at h1633
          have hC_v1635 := h1633.2.1
          have h_ask5 := h1633.1
          obtain ⟨hr58_257, hac_257⟩ := h_ask5
          obtain ⟨hx_257, hV_257⟩ := hac_257 _ _ hV
          rw [show fb_askA A (nI fi) = ((-1 : Int32), A) from by rw [hf0]; exact fc_ask0 (by rw [hk.2.1, hc0])] at hx_257 hV_257
          have hV_257 : fb_CV v1635 r1636 A _ := hV_257
          have hI_257 : fb_inj r1636 57 := hi57.congr hr58_257
          have hk_257 := hk
          have e_257 : x1634 = (-1 : Int32) := hx_257
          subst e_257
          refine lv_istore (lv' := [(12, .int ((-1 : Int32))), (11, .int (A.g 11)), (10, .int (A.g 12)), (9, .int ((-1 : Int32))), (0, .ref (fa_B G + (0))), (1, .int (nI (ac))), (2, .int (nI (fi))), (3, .int (nI (ho))), (4, .int ((-1 : Int32)))]) hx hb dL_acts_260 hl (by decide) rfl (fun ls hl => ?_)
          refine lv_aload_n hx hb dL_acts_262 rfl (lv_at hl 4 rfl) ?_
          refine lv_iconst (v := nI (1)) hx hb dL_acts_263 (by decide) ?_
          refine fa_callVip (As := [.int (nI (1))]) (rest := []) CX HX1637 (g_count l G n hn v1635 r1636 hC_v1635 (nI (1))) ln_L_15 (by omega) rfl rfl rfl rfl (Nat.le_of_ble_eq_true rfl) hl.1 ⟨Nat.le_of_ble_eq_true rfl, Nat.le_of_ble_eq_true rfl⟩ ⟨Nat.le_refl _, Nat.le_refl _⟩ dL_acts_264 (fun x1639 H locs h1638 HX1640 => ?_)
          have h_count := h1638
          have e_264 : x1639 = nI (cm) := (((h_count A hV_257.1 hV_257.2.2.1).trans (fb_cntA_1 (by decide))).trans hk_257.2.1)
          subst e_264
          refine lv_if_ne (tgt := 284) hx hb dL_acts_267 (by decide) (fun c_267 => ?_) (fun c_267 => ?_)
          · exact absurd (by rw [hc0]; rfl) c_267
          · refine lv_iload hx hb dL_acts_270 (lv_at hl 0 rfl) ?_
            refine lv_iconst (v := (-1 : Int32)) hx hb dL_acts_272 (by decide) ?_
            refine lv_icmp_ne (tgt := 280) hx hb dL_acts_273 (by decide) (fun c_273 => ?_) (fun c_273 => ?_)
            · exact absurd (by try decide) c_273
            · refine lv_iconst (v := nI (1)) hx hb dL_acts_276 (by decide) ?_
              refine lv_goto (tgt := 356) hx hb dL_acts_277 (by decide) ?_
              exact RET _ _ _ _ _ _ _ HX1640 dL_acts_356 (by decide) (⟨⟨rfl, A, _, dy, cm, bu, hV_257, hk_257.more (Nat.le_succ _), ⟨by omega, by omega, by omega, by omega⟩, hI_257⟩, hC_v1635, (fa_fr.tr fa_fr.rf (fa_fr.wide h1633.2.2.1 (by omega) (by omega))), (fun k hk => ((h1633.2.2.2 k hk).trans rfl))⟩)
        by_cases c_42_0 : nI (ac % 12) = (0 : Int32)
        · refine lv_tableIn (off := 54) (tgt := 96) hx hb dL_acts_42 (by rw [c_42_0]; decide) (by rw [c_42_0]; decide) (by rw [c_42_0]; decide) (by decide) ?_
          exact JOIN_96   _ _ _ (trivial) (lv_sub hl [1, 2, 3, 4, 0] rfl) HX1582
        by_cases c_42_1 : nI (ac % 12) = (1 : Int32)
        · refine lv_tableIn (off := 54) (tgt := 96) hx hb dL_acts_42 (by rw [c_42_1]; decide) (by rw [c_42_1]; decide) (by rw [c_42_1]; decide) (by decide) ?_
          exact JOIN_96   _ _ _ (trivial) (lv_sub hl [1, 2, 3, 4, 0] rfl) HX1582
        by_cases c_42_2 : nI (ac % 12) = (2 : Int32)
        · refine lv_tableIn (off := 54) (tgt := 96) hx hb dL_acts_42 (by rw [c_42_2]; decide) (by rw [c_42_2]; decide) (by rw [c_42_2]; decide) (by decide) ?_
          exact JOIN_96   _ _ _ (trivial) (lv_sub hl [1, 2, 3, 4, 0] rfl) HX1582
        by_cases c_42_3 : nI (ac % 12) = (3 : Int32)
        · refine lv_tableIn (off := 190) (tgt := 232) hx hb dL_acts_42 (by rw [c_42_3]; decide) (by rw [c_42_3]; decide) (by rw [c_42_3]; decide) (by decide) ?_
          exact JOIN_232   _ _ _ (trivial) (lv_sub hl [1, 2, 3, 4, 0] rfl) HX1582
        by_cases c_42_4 : nI (ac % 12) = (4 : Int32)
        · refine lv_tableIn (off := 190) (tgt := 232) hx hb dL_acts_42 (by rw [c_42_4]; decide) (by rw [c_42_4]; decide) (by rw [c_42_4]; decide) (by decide) ?_
          exact JOIN_232   _ _ _ (trivial) (lv_sub hl [1, 2, 3, 4, 0] rfl) HX1582
        by_cases c_42_5 : nI (ac % 12) = (5 : Int32)
        · refine lv_tableIn (off := 315) (tgt := 357) hx hb dL_acts_42 (by rw [c_42_5]; decide) (by rw [c_42_5]; decide) (by rw [c_42_5]; decide) (by decide) ?_
          refine lv_iload_n hx hb dL_acts_357 rfl (lv_at hl 2 rfl) ?_
          refine lv_bipush (v := nI (12)) hx hb dL_acts_358 (by decide) ?_
          refine lv_ishr hx hb dL_acts_360 ?_
          rw [show (nI (ac)) >>> ((nI (12)) &&& 31) = nI (ac / 4096) from fc_shr (k := 12) (by omega) (by decide)]
          refine lv_iconst (v := nI (3)) hx hb dL_acts_361 (by decide) ?_
          refine lv_irem hx hb dL_acts_362 (by decide) ?_
          rw [show (nI (ac / 4096)) - (nI (ac / 4096)) / (nI (3)) * (nI (3)) = nI ((ac / 4096) % 3) from pk_rem (by omega) (by decide) (by omega)]
          have JOIN_385 : ∀ (la : Int32) (yy : Int32) (le : Nat) (H : Heap) (locs : List Loc) (ls : Array Slot), (fc_la dy la yy le) → lv_has ls 34 [(0, .ref (fa_B G + (0))), (1, .int (nI (ac))), (2, .int (nI (fi))), (3, .int (nI (ho))), (4, .int ((-1 : Int32))), (13, .int (la))] → fa_HX G (n) v r s H locs → W p l e (fa_rm 8) s m args below meth c H locs (0) (0) Q (F0 m 385 ls []) := by
            intro la yy le H locs ls hi_385 hl HX1641
            refine lv_aload_n hx hb dL_acts_385 rfl (lv_at hl 0 rfl) ?_
            refine lv_iload_n hx hb dL_acts_386 rfl (lv_at hl 3 rfl) ?_
            refine lv_iload_n hx hb dL_acts_387 rfl (lv_at hl 2 rfl) ?_
            refine lv_iload hx hb dL_acts_388 (lv_at hl 5 rfl) ?_
            refine fa_callVi (As := [.int (nI (ho)), .int (nI (fi)), .int (la)]) (rest := []) CX HX1641 (g_seal5 l G n hn v r hC (nI (ho)) (nI (fi)) (la)) ln_L_50 (by omega) rfl rfl rfl rfl (Nat.le_of_ble_eq_true rfl) hl.1 ⟨Nat.le_of_ble_eq_true rfl, Nat.le_of_ble_eq_true rfl⟩ ⟨Nat.le_refl _, Nat.le_refl _⟩ dL_acts_390 (fun x1643 v1644 r1645 H locs h1642 HX1646 => ?_)
            dsimp only at h1642
            have hC_v1644 := h1642.2.1
            have h_seal5 := h1642.1
            obtain ⟨hr58_390, hac_390⟩ := h_seal5
            obtain ⟨hx_390, hV_390⟩ := hac_390 _ _ hV
            rw [fb_sealA_n hno] at hx_390 hV_390
            have hV_390 : fb_CV v1644 r1645 A _ := hV_390
            have hI_390 : fb_inj r1645 57 := hi57.congr hr58_390
            have hk_390 := hk
            have e_390 : x1643 = (-1 : Int32) := hx_390
            subst e_390
            refine lv_istore (lv' := [(14, .int ((-1 : Int32))), (0, .ref (fa_B G + (0))), (1, .int (nI (ac))), (2, .int (nI (fi))), (3, .int (nI (ho))), (4, .int ((-1 : Int32))), (13, .int (la))]) hx hb dL_acts_393 hl (by decide) rfl (fun ls hl => ?_)
            refine lv_iload hx hb dL_acts_395 (lv_at hl 5 rfl) ?_
            refine lv_if_ge (tgt := 414) hx hb dL_acts_397 (by decide) (fun c_397 => ?_) (fun c_397 => ?_)
            · exact absurd c_397 (by try decide)
            · refine lv_iload hx hb dL_acts_400 (lv_at hl 0 rfl) ?_
              refine lv_iconst (v := (-1 : Int32)) hx hb dL_acts_402 (by decide) ?_
              refine lv_icmp_ne (tgt := 410) hx hb dL_acts_403 (by decide) (fun c_403 => ?_) (fun c_403 => ?_)
              · exact absurd (by try decide) c_403
              · refine lv_iconst (v := nI (1)) hx hb dL_acts_406 (by decide) ?_
                refine lv_goto (tgt := 469) hx hb dL_acts_407 (by decide) ?_
                exact RET _ _ _ _ _ _ _ HX1646 dL_acts_469 (by decide) (⟨⟨rfl, A, _, dy, cm, bu, hV_390, hk_390.more (Nat.le_succ _), ⟨by omega, by omega, by omega, by omega⟩, hI_390⟩, hC_v1644, (fa_fr.tr fa_fr.rf (fa_fr.wide h1642.2.2.1 (by omega) (by omega))), (fun k hk => ((h1642.2.2.2 k hk).trans rfl))⟩)
          refine lv_if_ne (tgt := 370) hx hb dL_acts_363 (by decide) (fun c_363 => ?_) (fun c_363 => ?_)
          · refine lv_aload_n hx hb dL_acts_370 rfl (lv_at hl 1 rfl) ?_
            refine fa_callVip (As := []) (rest := []) CX HX1582 (g_now l G n hn v r hC ) ln_L_31 (by omega) rfl rfl rfl rfl (Nat.le_of_ble_eq_true rfl) hl.1 ⟨Nat.le_of_ble_eq_true rfl, Nat.le_of_ble_eq_true rfl⟩ ⟨Nat.le_refl _, Nat.le_refl _⟩ dL_acts_371 (fun x1648 H locs h1647 HX1649 => ?_)
            have h_now := h1647
            have e_371 : x1648 = nI (dy) := ((h_now.trans hV.2.2.1.now).trans hk.1)
            subst e_371
            refine lv_iload_n hx hb dL_acts_374 rfl (lv_at hl 2 rfl) ?_
            refine lv_bipush (v := nI (12)) hx hb dL_acts_375 (by decide) ?_
            refine lv_ishr hx hb dL_acts_377 ?_
            rw [show (nI (ac)) >>> ((nI (12)) &&& 31) = nI (ac / 4096) from fc_shr (k := 12) (by omega) (by decide)]
            refine lv_sipush (v := nI (300)) hx hb dL_acts_378 (by decide) ?_
            refine lv_irem hx hb dL_acts_381 (by decide) ?_
            rw [show (nI (ac / 4096)) - (nI (ac / 4096)) / (nI (300)) * (nI (300)) = nI ((ac / 4096) % 300) from pk_rem (by omega) (by decide) (by omega)]
            refine fa_iaddN hx hb dL_acts_382 ?_
            refine lv_istore (lv' := [(13, .int (nI (dy + ((ac / 4096) % 300)))), (4, .int ((-1 : Int32))), (0, .ref (fa_B G + (0))), (1, .int (nI (ac))), (2, .int (nI (fi))), (3, .int (nI (ho)))]) hx hb dL_acts_383 hl (by decide) rfl (fun ls hl => ?_)
            exact JOIN_385 (nI (dy + ((ac / 4096) % 300))) (nI (dy + ((ac / 4096) % 300) + 1)) (dy + ((ac / 4096) % 300))  _ _ _ (⟨rfl, Or.inr ⟨rfl, by omega, by omega⟩⟩) (lv_sub hl [2, 3, 4, 5, 1, 0] rfl) HX1649
          · refine lv_iconst (v := (-1 : Int32)) hx hb dL_acts_366 (by decide) ?_
            refine lv_goto (tgt := 383) hx hb dL_acts_367 (by decide) ?_
            refine lv_istore (lv' := [(13, .int ((-1 : Int32))), (4, .int ((-1 : Int32))), (0, .ref (fa_B G + (0))), (1, .int (nI (ac))), (2, .int (nI (fi))), (3, .int (nI (ho)))]) hx hb dL_acts_383 hl (by decide) rfl (fun ls hl => ?_)
            exact JOIN_385 ((-1 : Int32)) (nI 10001) (10000)  _ _ _ (⟨rfl, Or.inl ⟨rfl, rfl⟩⟩) (lv_sub hl [2, 3, 4, 5, 1, 0] rfl) HX1582
        by_cases c_42_6 : nI (ac % 12) = (6 : Int32)
        · refine lv_tableIn (off := 428) (tgt := 470) hx hb dL_acts_42 (by rw [c_42_6]; decide) (by rw [c_42_6]; decide) (by rw [c_42_6]; decide) (by decide) ?_
          refine lv_aload_n hx hb dL_acts_470 rfl (lv_at hl 1 rfl) ?_
          refine lv_iload_n hx hb dL_acts_471 rfl (lv_at hl 4 rfl) ?_
          refine lv_iload_n hx hb dL_acts_472 rfl (lv_at hl 3 rfl) ?_
          refine fa_callVip (As := [.int (nI (ho)), .int (nI (fi))]) (rest := []) CX HX1582 (g_sealOf l G n hn v r hC (nI (ho)) (nI (fi))) ln_L_28 (by omega) rfl rfl rfl rfl (Nat.le_of_ble_eq_true rfl) hl.1 ⟨Nat.le_of_ble_eq_true rfl, Nat.le_of_ble_eq_true rfl⟩ ⟨Nat.le_refl _, Nat.le_refl _⟩ dL_acts_473 (fun x1651 H locs h1650 HX1652 => ?_)
          have h_sealOf := h1650
          have e_473 : x1651 = (-1 : Int32) := ((h_sealOf A hV.1 hV.2.2.1).trans (fb_sloA_n hno))
          subst e_473
          refine lv_istore (lv' := [(15, .int ((-1 : Int32))), (4, .int ((-1 : Int32))), (0, .ref (fa_B G + (0))), (1, .int (nI (ac))), (2, .int (nI (fi))), (3, .int (nI (ho)))]) hx hb dL_acts_476 hl (by decide) rfl (fun ls hl => ?_)
          refine lv_aload_n hx hb dL_acts_478 rfl (lv_at hl 2 rfl) ?_
          refine lv_iload_n hx hb dL_acts_479 rfl (lv_at hl 5 rfl) ?_
          refine lv_iload_n hx hb dL_acts_480 rfl (lv_at hl 4 rfl) ?_
          refine fa_callVi (As := [.int (nI (ho)), .int (nI (fi))]) (rest := []) CX HX1652 (g_lift5 l G n hn v r hC (nI (ho)) (nI (fi))) ln_L_54 (by omega) rfl rfl rfl rfl (Nat.le_of_ble_eq_true rfl) hl.1 ⟨Nat.le_of_ble_eq_true rfl, Nat.le_of_ble_eq_true rfl⟩ ⟨Nat.le_refl _, Nat.le_refl _⟩ dL_acts_481 (fun x1654 v1655 r1656 H locs h1653 HX1657 => ?_)
          dsimp only at h1653
          have hC_v1655 := h1653.2.1
          have h_lift5 := h1653.1
          obtain ⟨hr58_481, hac_481⟩ := h_lift5
          obtain ⟨hx_481, hV_481⟩ := hac_481 _ _ hV
          rw [fb_liftA_n hno] at hx_481 hV_481
          have hV_481 : fb_CV v1655 r1656 A _ := hV_481
          have hI_481 : fb_inj r1656 57 := hi57.congr hr58_481
          have hk_481 := hk
          have e_481 : x1654 = (-1 : Int32) := hx_481
          subst e_481
          refine lv_istore (lv' := [(16, .int ((-1 : Int32))), (15, .int ((-1 : Int32))), (4, .int ((-1 : Int32))), (0, .ref (fa_B G + (0))), (1, .int (nI (ac))), (2, .int (nI (fi))), (3, .int (nI (ho)))]) hx hb dL_acts_484 hl (by decide) rfl (fun ls hl => ?_)
          refine lv_iload hx hb dL_acts_486 (lv_at hl 1 rfl) ?_
          refine lv_if_ge (tgt := 505) hx hb dL_acts_488 (by decide) (fun c_488 => ?_) (fun c_488 => ?_)
          · exact absurd c_488 (by try decide)
          · refine lv_iload hx hb dL_acts_491 (lv_at hl 0 rfl) ?_
            refine lv_iconst (v := (-1 : Int32)) hx hb dL_acts_493 (by decide) ?_
            refine lv_icmp_ne (tgt := 501) hx hb dL_acts_494 (by decide) (fun c_494 => ?_) (fun c_494 => ?_)
            · exact absurd (by try decide) c_494
            · refine lv_iconst (v := nI (1)) hx hb dL_acts_497 (by decide) ?_
              refine lv_goto (tgt := 526) hx hb dL_acts_498 (by decide) ?_
              exact RET _ _ _ _ _ _ _ HX1657 dL_acts_526 (by decide) (⟨⟨rfl, A, _, dy, cm, bu, hV_481, hk_481.more (Nat.le_succ _), ⟨by omega, by omega, by omega, by omega⟩, hI_481⟩, hC_v1655, (fa_fr.tr fa_fr.rf (fa_fr.wide h1653.2.2.1 (by omega) (by omega))), (fun k hk => ((h1653.2.2.2 k hk).trans rfl))⟩)
        by_cases c_42_7 : nI (ac % 12) = (7 : Int32)
        · refine lv_tableIn (off := 485) (tgt := 527) hx hb dL_acts_42 (by rw [c_42_7]; decide) (by rw [c_42_7]; decide) (by rw [c_42_7]; decide) (by decide) ?_
          refine lv_aload_n hx hb dL_acts_527 rfl (lv_at hl 1 rfl) ?_
          refine lv_iconst (v := nI (1)) hx hb dL_acts_528 (by decide) ?_
          refine fa_callVip (As := [.int (nI (1))]) (rest := []) CX HX1582 (g_count l G n hn v r hC (nI (1))) ln_L_15 (by omega) rfl rfl rfl rfl (Nat.le_of_ble_eq_true rfl) hl.1 ⟨Nat.le_of_ble_eq_true rfl, Nat.le_of_ble_eq_true rfl⟩ ⟨Nat.le_refl _, Nat.le_refl _⟩ dL_acts_529 (fun x1659 H locs h1658 HX1660 => ?_)
          have h_count := h1658
          have e_529 : x1659 = nI (cm) := (((h_count A hV.1 hV.2.2.1).trans (fb_cntA_1 (by decide))).trans hk.2.1)
          subst e_529
          have JOIN_551 : ∀ (ta : Nat) (H : Heap) (locs : List Loc) (ls : Array Slot), (ta < cm ∨ (cm = 0 ∧ ta = 0)) → lv_has ls 34 [(0, .ref (fa_B G + (0))), (1, .int (nI (ac))), (2, .int (nI (fi))), (3, .int (nI (ho))), (4, .int ((-1 : Int32))), (17, .int (nI (ta)))] → fa_HX G (n) v r s H locs → W p l e (fa_rm 8) s m args below meth c H locs (0) (0) Q (F0 m 551 ls []) := by
            intro ta H locs ls hi_551 hl HX1661
            rcases fc_split (A := A) (nI ta) with hnt | ⟨tp, htp, etp⟩
            · have hnt2 := hnt
              refine lv_iload hx hb dL_acts_551 (lv_at hl 4 rfl) ?_
              refine lv_if_lt (tgt := 570) hx hb dL_acts_553 (by decide) (fun c_553 => ?_) (fun c_553 => ?_)
              · refine lv_iconst (v := nI (0)) hx hb dL_acts_570 (by decide) ?_
                refine lv_istore (lv' := [(18, .int (nI (0))), (0, .ref (fa_B G + (0))), (1, .int (nI (ac))), (2, .int (nI (fi))), (3, .int (nI (ho))), (4, .int ((-1 : Int32))), (17, .int (nI (ta)))]) hx hb dL_acts_571 hl (by decide) rfl (fun ls hl => ?_)
                refine lv_aload_n hx hb dL_acts_573 rfl (lv_at hl 1 rfl) ?_
                refine lv_iload_n hx hb dL_acts_574 rfl (lv_at hl 3 rfl) ?_
                refine lv_iload hx hb dL_acts_575 (lv_at hl 6 rfl) ?_
                refine fa_callVi (As := [.int (nI (fi)), .int (nI (ta))]) (rest := []) CX HX1661 (g_refer5 l G n hn v r hC (nI (fi)) (nI (ta))) ln_L_57 (by omega) rfl rfl rfl rfl (Nat.le_of_ble_eq_true rfl) hl.1 ⟨Nat.le_of_ble_eq_true rfl, Nat.le_of_ble_eq_true rfl⟩ ⟨Nat.le_refl _, Nat.le_refl _⟩ dL_acts_577 (fun x1663 v1664 r1665 H locs h1662 HX1666 => ?_)
                dsimp only at h1662
                have hC_v1664 := h1662.2.1
                have h_refer5 := h1662.1
                obtain ⟨hr58_577, hac_577⟩ := h_refer5
                obtain ⟨hx_577, hV_577⟩ := hac_577 _ _ hV
                rw [fb_refA_n hno] at hx_577 hV_577
                have hV_577 : fb_CV v1664 r1665 A _ := hV_577
                have hI_577 : fb_inj r1665 57 := hi57.congr hr58_577
                have hk_577 := hk
                have e_577 : x1663 = (-1 : Int32) := hx_577
                subst e_577
                refine lv_istore (lv' := [(19, .int ((-1 : Int32))), (18, .int (nI (0))), (0, .ref (fa_B G + (0))), (1, .int (nI (ac))), (2, .int (nI (fi))), (3, .int (nI (ho))), (4, .int ((-1 : Int32))), (17, .int (nI (ta)))]) hx hb dL_acts_580 hl (by decide) rfl (fun ls hl => ?_)
                refine lv_iload hx hb dL_acts_582 (lv_at hl 1 rfl) ?_
                refine lv_if_eq (tgt := 619) hx hb dL_acts_584 (by decide) (fun c_584 => ?_) (fun c_584 => ?_)
                · refine lv_iload hx hb dL_acts_619 (lv_at hl 0 rfl) ?_
                  refine lv_iconst (v := (-1 : Int32)) hx hb dL_acts_621 (by decide) ?_
                  refine lv_icmp_ne (tgt := 629) hx hb dL_acts_622 (by decide) (fun c_622 => ?_) (fun c_622 => ?_)
                  · exact absurd (by try decide) c_622
                  · refine lv_iconst (v := nI (1)) hx hb dL_acts_625 (by decide) ?_
                    refine lv_goto (tgt := 630) hx hb dL_acts_626 (by decide) ?_
                    exact RET _ _ _ _ _ _ _ HX1666 dL_acts_630 (by decide) (⟨⟨rfl, A, _, dy, cm, bu, hV_577, hk_577.more (Nat.le_succ _), ⟨by omega, by omega, by omega, by omega⟩, hI_577⟩, hC_v1664, (fa_fr.tr fa_fr.rf (fa_fr.wide h1662.2.2.1 (by omega) (by omega))), (fun k hk => ((h1662.2.2.2 k hk).trans rfl))⟩)
                · exact absurd (by try decide) c_584
              · exact absurd (by try decide) c_553
            · have eti := fc_ixE hok htp etp
              obtain ⟨kt, hkt, ekt⟩ := (hok.1.2.2.2.2.2 tp htp).1
              refine lv_iload hx hb dL_acts_551 (lv_at hl 4 rfl) ?_
              refine lv_if_lt (tgt := 570) hx hb dL_acts_553 (by decide) (fun c_553 => ?_) (fun c_553 => ?_)
              · refine lv_iconst (v := nI (0)) hx hb dL_acts_570 (by decide) ?_
                refine lv_istore (lv' := [(18, .int (nI (0))), (0, .ref (fa_B G + (0))), (1, .int (nI (ac))), (2, .int (nI (fi))), (3, .int (nI (ho))), (4, .int ((-1 : Int32))), (17, .int (nI (ta)))]) hx hb dL_acts_571 hl (by decide) rfl (fun ls hl => ?_)
                refine lv_aload_n hx hb dL_acts_573 rfl (lv_at hl 1 rfl) ?_
                refine lv_iload_n hx hb dL_acts_574 rfl (lv_at hl 3 rfl) ?_
                refine lv_iload hx hb dL_acts_575 (lv_at hl 6 rfl) ?_
                refine fa_callVi (As := [.int (nI (fi)), .int (nI (ta))]) (rest := []) CX HX1661 (g_refer5 l G n hn v r hC (nI (fi)) (nI (ta))) ln_L_57 (by omega) rfl rfl rfl rfl (Nat.le_of_ble_eq_true rfl) hl.1 ⟨Nat.le_of_ble_eq_true rfl, Nat.le_of_ble_eq_true rfl⟩ ⟨Nat.le_refl _, Nat.le_refl _⟩ dL_acts_577 (fun x1668 v1669 r1670 H locs h1667 HX1671 => ?_)
                dsimp only at h1667
                have hC_v1669 := h1667.2.1
                have h_refer5 := h1667.1
                obtain ⟨hr58_577, hac_577⟩ := h_refer5
                obtain ⟨hx_577, hV_577⟩ := hac_577 _ _ hV
                rw [fb_refA_n hno] at hx_577 hV_577
                have hV_577 : fb_CV v1669 r1670 A _ := hV_577
                have hI_577 : fb_inj r1670 57 := hi57.congr hr58_577
                have hk_577 := hk
                have e_577 : x1668 = (-1 : Int32) := hx_577
                subst e_577
                refine lv_istore (lv' := [(19, .int ((-1 : Int32))), (18, .int (nI (0))), (0, .ref (fa_B G + (0))), (1, .int (nI (ac))), (2, .int (nI (fi))), (3, .int (nI (ho))), (4, .int ((-1 : Int32))), (17, .int (nI (ta)))]) hx hb dL_acts_580 hl (by decide) rfl (fun ls hl => ?_)
                refine lv_iload hx hb dL_acts_582 (lv_at hl 1 rfl) ?_
                refine lv_if_eq (tgt := 619) hx hb dL_acts_584 (by decide) (fun c_584 => ?_) (fun c_584 => ?_)
                · refine lv_iload hx hb dL_acts_619 (lv_at hl 0 rfl) ?_
                  refine lv_iconst (v := (-1 : Int32)) hx hb dL_acts_621 (by decide) ?_
                  refine lv_icmp_ne (tgt := 629) hx hb dL_acts_622 (by decide) (fun c_622 => ?_) (fun c_622 => ?_)
                  · exact absurd (by try decide) c_622
                  · refine lv_iconst (v := nI (1)) hx hb dL_acts_625 (by decide) ?_
                    refine lv_goto (tgt := 630) hx hb dL_acts_626 (by decide) ?_
                    exact RET _ _ _ _ _ _ _ HX1671 dL_acts_630 (by decide) (⟨⟨rfl, A, _, dy, cm, bu, hV_577, hk_577.more (Nat.le_succ _), ⟨by omega, by omega, by omega, by omega⟩, hI_577⟩, hC_v1669, (fa_fr.tr fa_fr.rf (fa_fr.wide h1667.2.2.1 (by omega) (by omega))), (fun k hk => ((h1667.2.2.2 k hk).trans rfl))⟩)
                · exact absurd (by try decide) c_584
              · exact absurd (by try decide) c_553
          refine lv_if_ne (tgt := 539) hx hb dL_acts_532 (by decide) (fun c_532 => ?_) (fun c_532 => ?_)
          · have hcm1 : 0 < cm := by
              refine Nat.pos_of_ne_zero (fun z => c_532 ?_)
              rw [z]; decide
            refine lv_iload_n hx hb dL_acts_539 rfl (lv_at hl 2 rfl) ?_
            refine lv_bipush (v := nI (12)) hx hb dL_acts_540 (by decide) ?_
            refine lv_ishr hx hb dL_acts_542 ?_
            rw [show (nI (ac)) >>> ((nI (12)) &&& 31) = nI (ac / 4096) from fc_shr (k := 12) (by omega) (by decide)]
            refine lv_aload_n hx hb dL_acts_543 rfl (lv_at hl 1 rfl) ?_
            refine lv_iconst (v := nI (1)) hx hb dL_acts_544 (by decide) ?_
            refine fa_callVip (As := [.int (nI (1))]) (rest := [.int (nI (ac / 4096))]) CX HX1660 (g_count l G n hn v r hC (nI (1))) ln_L_15 (by omega) rfl rfl rfl rfl (Nat.le_of_ble_eq_true rfl) hl.1 ⟨Nat.le_of_ble_eq_true rfl, Nat.le_of_ble_eq_true rfl⟩ ⟨Nat.le_refl _, Nat.le_refl _⟩ dL_acts_545 (fun x1673 H locs h1672 HX1674 => ?_)
            have h_count := h1672
            have e_545 : x1673 = nI (cm) := (((h_count A hV.1 hV.2.2.1).trans (fb_cntA_1 (by decide))).trans hk.2.1)
            subst e_545
            refine lv_irem hx hb dL_acts_548 (nI_ne0 hcm1 (by omega)) ?_
            rw [show (nI (ac / 4096)) - (nI (ac / 4096)) / (nI (cm)) * (nI (cm)) = nI ((ac / 4096) % cm) from pk_rem (by omega) hcm1 (by omega)]
            refine lv_istore (lv' := [(17, .int (nI ((ac / 4096) % cm))), (4, .int ((-1 : Int32))), (0, .ref (fa_B G + (0))), (1, .int (nI (ac))), (2, .int (nI (fi))), (3, .int (nI (ho)))]) hx hb dL_acts_549 hl (by decide) rfl (fun ls hl => ?_)
            exact JOIN_551 ((ac / 4096) % cm)  _ _ _ (Or.inl (Nat.mod_lt _ hcm1)) (lv_sub hl [2, 3, 4, 5, 1, 0] rfl) HX1674
          · have hcm1 : cm = 0 := fa_nIinj (by omega) (by decide) (by first | exact c_532 | exact Decidable.not_not.mp c_532)
            refine lv_iconst (v := nI (0)) hx hb dL_acts_535 (by decide) ?_
            refine lv_goto (tgt := 549) hx hb dL_acts_536 (by decide) ?_
            refine lv_istore (lv' := [(17, .int (nI (0))), (4, .int ((-1 : Int32))), (0, .ref (fa_B G + (0))), (1, .int (nI (ac))), (2, .int (nI (fi))), (3, .int (nI (ho)))]) hx hb dL_acts_549 hl (by decide) rfl (fun ls hl => ?_)
            exact JOIN_551 (0)  _ _ _ (Or.inr ⟨hcm1, rfl⟩) (lv_sub hl [2, 3, 4, 5, 1, 0] rfl) HX1660
        by_cases c_42_8 : nI (ac % 12) = (8 : Int32)
        · refine lv_tableIn (off := 589) (tgt := 631) hx hb dL_acts_42 (by rw [c_42_8]; decide) (by rw [c_42_8]; decide) (by rw [c_42_8]; decide) (by decide) ?_
          refine lv_aload_n hx hb dL_acts_631 rfl (lv_at hl 1 rfl) ?_
          refine fa_callVip (As := []) (rest := []) CX HX1582 (g_now l G n hn v r hC ) ln_L_31 (by omega) rfl rfl rfl rfl (Nat.le_of_ble_eq_true rfl) hl.1 ⟨Nat.le_of_ble_eq_true rfl, Nat.le_of_ble_eq_true rfl⟩ ⟨Nat.le_refl _, Nat.le_refl _⟩ dL_acts_632 (fun x1676 H locs h1675 HX1677 => ?_)
          have h_now := h1675
          have e_632 : x1676 = nI (dy) := ((h_now.trans hV.2.2.1.now).trans hk.1)
          subst e_632
          refine lv_iconst (v := nI (1)) hx hb dL_acts_635 (by decide) ?_
          refine fa_iaddN hx hb dL_acts_636 ?_
          refine lv_iload_n hx hb dL_acts_637 rfl (lv_at hl 2 rfl) ?_
          refine lv_bipush (v := nI (9)) hx hb dL_acts_638 (by decide) ?_
          refine lv_ishr hx hb dL_acts_640 ?_
          rw [show (nI (ac)) >>> ((nI (9)) &&& 31) = nI (ac / 512) from fc_shr (k := 9) (by omega) (by decide)]
          refine lv_sipush (v := nI (200)) hx hb dL_acts_641 (by decide) ?_
          refine lv_irem hx hb dL_acts_644 (by decide) ?_
          rw [show (nI (ac / 512)) - (nI (ac / 512)) / (nI (200)) * (nI (200)) = nI ((ac / 512) % 200) from pk_rem (by omega) (by decide) (by omega)]
          refine fa_iaddN hx hb dL_acts_645 ?_
          refine lv_istore (lv' := [(20, .int (nI (dy + 1 + ((ac / 512) % 200)))), (4, .int ((-1 : Int32))), (0, .ref (fa_B G + (0))), (1, .int (nI (ac))), (2, .int (nI (fi))), (3, .int (nI (ho)))]) hx hb dL_acts_646 hl (by decide) rfl (fun ls hl => ?_)
          refine lv_aload_n hx hb dL_acts_648 rfl (lv_at hl 2 rfl) ?_
          refine lv_bipush (v := nI (8)) hx hb dL_acts_649 (by decide) ?_
          refine fa_callVip (As := [.int (nI (8))]) (rest := []) CX HX1677 (g_count l G n hn v r hC (nI (8))) ln_L_15 (by omega) rfl rfl rfl rfl (Nat.le_of_ble_eq_true rfl) hl.1 ⟨Nat.le_of_ble_eq_true rfl, Nat.le_of_ble_eq_true rfl⟩ ⟨Nat.le_refl _, Nat.le_refl _⟩ dL_acts_651 (fun x1679 H locs h1678 HX1680 => ?_)
          have h_count := h1678
          have e_651 : x1679 = nI (A.q.length) := ((h_count A hV.1 hV.2.2.1).trans (fb_cntA_8 (by decide)))
          subst e_651
          refine lv_istore (lv' := [(21, .int (nI (A.q.length))), (20, .int (nI (dy + 1 + ((ac / 512) % 200)))), (4, .int ((-1 : Int32))), (0, .ref (fa_B G + (0))), (1, .int (nI (ac))), (2, .int (nI (fi))), (3, .int (nI (ho)))]) hx hb dL_acts_654 hl (by decide) rfl (fun ls hl => ?_)
          refine lv_aload_n hx hb dL_acts_656 rfl (lv_at hl 3 rfl) ?_
          refine lv_iload_n hx hb dL_acts_657 rfl (lv_at hl 5 rfl) ?_
          refine lv_iload hx hb dL_acts_658 (lv_at hl 1 rfl) ?_
          refine fa_callVi (As := [.int (nI (fi)), .int (nI (dy + 1 + ((ac / 512) % 200)))]) (rest := []) CX HX1680 (g_reserve5 l G n hn v r hC (nI (fi)) (nI (dy + 1 + ((ac / 512) % 200)))) ln_L_60 (by omega) rfl rfl rfl rfl (Nat.le_of_ble_eq_true rfl) hl.1 ⟨Nat.le_of_ble_eq_true rfl, Nat.le_of_ble_eq_true rfl⟩ ⟨Nat.le_refl _, Nat.le_refl _⟩ dL_acts_660 (fun x1682 v1683 r1684 H locs h1681 HX1685 => ?_)
          dsimp only at h1681
          have hC_v1683 := h1681.2.1
          have h_reserve5 := h1681.1
          obtain ⟨hr58_660, hac_660⟩ := h_reserve5
          obtain ⟨hx_660, hV_660⟩ := hac_660 _ _ hV
          rw [fb_resA_n hno] at hx_660 hV_660
          have hV_660 : fb_CV v1683 r1684 A _ := hV_660
          have hI_660 : fb_inj r1684 57 := hi57.congr hr58_660
          have hk_660 := hk
          have e_660 : x1682 = (-1 : Int32) := hx_660
          subst e_660
          refine lv_istore (lv' := [(22, .int ((-1 : Int32))), (21, .int (nI (A.q.length))), (20, .int (nI (dy + 1 + ((ac / 512) % 200)))), (4, .int ((-1 : Int32))), (0, .ref (fa_B G + (0))), (1, .int (nI (ac))), (2, .int (nI (fi))), (3, .int (nI (ho)))]) hx hb dL_acts_663 hl (by decide) rfl (fun ls hl => ?_)
          refine lv_iload hx hb dL_acts_665 (lv_at hl 3 rfl) ?_
          refine lv_if_ge (tgt := 684) hx hb dL_acts_667 (by decide) (fun c_667 => ?_) (fun c_667 => ?_)
          · exact absurd c_667 (by try decide)
          · refine lv_iload hx hb dL_acts_670 (lv_at hl 0 rfl) ?_
            refine lv_iconst (v := (-1 : Int32)) hx hb dL_acts_672 (by decide) ?_
            refine lv_icmp_ne (tgt := 680) hx hb dL_acts_673 (by decide) (fun c_673 => ?_) (fun c_673 => ?_)
            · exact absurd (by try decide) c_673
            · refine lv_iconst (v := nI (1)) hx hb dL_acts_676 (by decide) ?_
              refine lv_goto (tgt := 754) hx hb dL_acts_677 (by decide) ?_
              exact RET _ _ _ _ _ _ _ HX1685 dL_acts_754 (by decide) (⟨⟨rfl, A, _, dy, cm, bu, hV_660, hk_660.more (Nat.le_succ _), ⟨by omega, by omega, by omega, by omega⟩, hI_660⟩, hC_v1683, (fa_fr.tr fa_fr.rf (fa_fr.wide h1681.2.2.1 (by omega) (by omega))), (fun k hk => ((h1681.2.2.2 k hk).trans rfl))⟩)
        by_cases c_42_9 : nI (ac % 12) = (9 : Int32)
        · refine lv_tableIn (off := 713) (tgt := 755) hx hb dL_acts_42 (by rw [c_42_9]; decide) (by rw [c_42_9]; decide) (by rw [c_42_9]; decide) (by decide) ?_
          have JOIN_763 : ∀ (wh : Nat) (H : Heap) (locs : List Loc) (ls : Array Slot), (wh < 7) → lv_has ls 34 [(0, .ref (fa_B G + (0))), (1, .int (nI (ac))), (2, .int (nI (fi))), (3, .int (nI (ho))), (4, .int ((-1 : Int32))), (23, .int (nI (wh)))] → fa_HX G (n) v r s H locs → W p l e (fa_rm 8) s m args below meth c H locs (0) (0) Q (F0 m 763 ls []) := by
            intro wh H locs ls hi_763 hl HX1686
            refine lv_iload hx hb dL_acts_763 (lv_at hl 5 rfl) ?_
            refine lv_iconst (v := nI (5)) hx hb dL_acts_765 (by decide) ?_
            have JOIN_814 : ∀ (va : Nat) (H : Heap) (locs : List Loc) (ls : Array Slot), (fc_va wh va) → lv_has ls 34 [(0, .ref (fa_B G + (0))), (1, .int (nI (ac))), (2, .int (nI (fi))), (3, .int (nI (ho))), (4, .int ((-1 : Int32))), (23, .int (nI (wh))), (24, .int (nI (va)))] → fa_HX G (n) v r s H locs → W p l e (fa_rm 8) s m args below meth c H locs (0) (0) Q (F0 m 814 ls []) := by
              intro va H locs ls hi_814 hl HX1687
              refine lv_aload_n hx hb dL_acts_814 rfl (lv_at hl 0 rfl) ?_
              refine lv_iload hx hb dL_acts_815 (lv_at hl 5 rfl) ?_
              refine fa_callVip (As := [.int (nI (wh))]) (rest := []) CX HX1687 (g_setting l G n hn v r hC (nI (wh))) ln_L_22 (by omega) rfl rfl rfl rfl (Nat.le_of_ble_eq_true rfl) hl.1 ⟨Nat.le_of_ble_eq_true rfl, Nat.le_of_ble_eq_true rfl⟩ ⟨Nat.le_refl _, Nat.le_refl _⟩ dL_acts_817 (fun x1689 H locs h1688 HX1690 => ?_)
              have h_setting := h1688
              have e_817 : x1689 = A.g wh := ((h_setting A hV.1 hV.2.2.1).trans (fc_stg hi_763))
              subst e_817
              refine lv_istore (lv' := [(25, .int (A.g wh)), (0, .ref (fa_B G + (0))), (1, .int (nI (ac))), (2, .int (nI (fi))), (3, .int (nI (ho))), (4, .int ((-1 : Int32))), (23, .int (nI (wh))), (24, .int (nI (va)))]) hx hb dL_acts_820 hl (by decide) rfl (fun ls hl => ?_)
              refine lv_aload_n hx hb dL_acts_822 rfl (lv_at hl 1 rfl) ?_
              refine lv_iload hx hb dL_acts_823 (lv_at hl 6 rfl) ?_
              refine lv_iload hx hb dL_acts_825 (lv_at hl 7 rfl) ?_
              refine fa_callVi (As := [.int (nI (wh)), .int (nI (va))]) (rest := []) CX HX1690 (g_set5 l G n hn v r hC (nI (wh)) (nI (va))) ln_L_66 (by omega) rfl rfl rfl rfl (Nat.le_of_ble_eq_true rfl) hl.1 ⟨Nat.le_of_ble_eq_true rfl, Nat.le_of_ble_eq_true rfl⟩ ⟨Nat.le_refl _, Nat.le_refl _⟩ dL_acts_827 (fun x1692 v1693 r1694 H locs h1691 HX1695 => ?_)
              dsimp only at h1691
              have hC_v1693 := h1691.2.1
              have h_set5 := h1691.1
              obtain ⟨hr58_827, hac_827⟩ := h_set5
              obtain ⟨hx_827, hV_827⟩ := hac_827 _ _ hV
              rw [fc_set1 hi_814] at hx_827 hV_827
              have hV_827 : fb_CV v1693 r1694 (A.sg wh (nI (va))) _ := hV_827
              have hI_827 : fb_inj r1694 57 := hi57.congr hr58_827
              have hk_827 := hk.set1 hi_763 (fc_setS hk.2.2.2.2.2.2.1 hi_814)
              have e_827 : x1692 = A.g wh := hx_827
              subst e_827
              refine lv_iload hx hb dL_acts_830 (lv_at hl 0 rfl) ?_
              refine lv_icmp_ne (tgt := 850) hx hb dL_acts_832 (by decide) (fun c_832 => ?_) (fun c_832 => ?_)
              · exact absurd rfl c_832
              · refine lv_aload_n hx hb dL_acts_835 rfl (lv_at hl 1 rfl) ?_
                refine lv_iload hx hb dL_acts_836 (lv_at hl 6 rfl) ?_
                refine fa_callVip (As := [.int (nI (wh))]) (rest := []) CX HX1695 (g_setting l G n hn v1693 r1694 hC_v1693 (nI (wh))) ln_L_22 (by omega) rfl rfl rfl rfl (Nat.le_of_ble_eq_true rfl) hl.1 ⟨Nat.le_of_ble_eq_true rfl, Nat.le_of_ble_eq_true rfl⟩ ⟨Nat.le_refl _, Nat.le_refl _⟩ dL_acts_838 (fun x1697 H locs h1696 HX1698 => ?_)
                have h_setting := h1696
                have e_838 : x1697 = nI (va) := ((h_setting (A.sg wh (nI (va))) hV_827.1 hV_827.2.2.1).trans ((fc_stg hi_763).trans (fb_s1_s _ _ _)))
                subst e_838
                refine lv_iload hx hb dL_acts_841 (lv_at hl 7 rfl) ?_
                refine lv_icmp_ne (tgt := 850) hx hb dL_acts_843 (by decide) (fun c_843 => ?_) (fun c_843 => ?_)
                · exact absurd rfl c_843
                · refine lv_iconst (v := nI (1)) hx hb dL_acts_846 (by decide) ?_
                  refine lv_goto (tgt := 851) hx hb dL_acts_847 (by decide) ?_
                  exact RET _ _ _ _ _ _ _ HX1698 dL_acts_851 (by decide) (⟨⟨rfl, (A.sg wh (nI (va))), _, dy, cm, bu, hV_827, hk_827.more (Nat.le_succ _), ⟨by omega, by omega, by omega, by omega⟩, hI_827⟩, hC_v1693, (fa_fr.tr fa_fr.rf (fa_fr.wide h1691.2.2.1 (by omega) (by omega))), (fun k hk => ((h1691.2.2.2 k hk).trans rfl))⟩)
            refine lv_icmp_ge (tgt := 783) hx hb dL_acts_766 (by decide) (fun c_766 => ?_) (fun c_766 => ?_)
            · have hw5 : 5 ≤ wh := fa_leN (by omega) (by omega) c_766
              refine lv_iload hx hb dL_acts_783 (lv_at hl 5 rfl) ?_
              refine lv_iconst (v := nI (5)) hx hb dL_acts_785 (by decide) ?_
              refine lv_icmp_ne (tgt := 801) hx hb dL_acts_786 (by decide) (fun c_786 => ?_) (fun c_786 => ?_)
              · have hw6 : ¬ wh = 5 := fun z => c_786 (by rw [z])
                refine lv_bipush (v := nI (50)) hx hb dL_acts_801 (by decide) ?_
                refine lv_iload_n hx hb dL_acts_803 rfl (lv_at hl 1 rfl) ?_
                refine lv_bipush (v := nI (8)) hx hb dL_acts_804 (by decide) ?_
                refine lv_ishr hx hb dL_acts_806 ?_
                rw [show (nI (ac)) >>> ((nI (8)) &&& 31) = nI (ac / 256) from fc_shr (k := 8) (by omega) (by decide)]
                refine lv_sipush (v := nI (551)) hx hb dL_acts_807 (by decide) ?_
                refine lv_irem hx hb dL_acts_810 (by decide) ?_
                rw [show (nI (ac / 256)) - (nI (ac / 256)) / (nI (551)) * (nI (551)) = nI ((ac / 256) % 551) from pk_rem (by omega) (by decide) (by omega)]
                refine fa_iaddN hx hb dL_acts_811 ?_
                refine lv_istore (lv' := [(24, .int (nI (50 + ((ac / 256) % 551)))), (0, .ref (fa_B G + (0))), (1, .int (nI (ac))), (2, .int (nI (fi))), (3, .int (nI (ho))), (4, .int ((-1 : Int32))), (23, .int (nI (wh)))]) hx hb dL_acts_812 hl (by decide) rfl (fun ls hl => ?_)
                exact JOIN_814 (50 + ((ac / 256) % 551))  _ _ _ (by unfold fc_va; omega) (lv_sub hl [1, 2, 3, 4, 5, 6, 0] rfl) HX1686
              · have hw6 : wh = 5 := fa_nIinj (by omega) (by omega) c_786
                refine lv_iconst (v := nI (1)) hx hb dL_acts_789 (by decide) ?_
                refine lv_iload_n hx hb dL_acts_790 rfl (lv_at hl 1 rfl) ?_
                refine lv_bipush (v := nI (8)) hx hb dL_acts_791 (by decide) ?_
                refine lv_ishr hx hb dL_acts_793 ?_
                rw [show (nI (ac)) >>> ((nI (8)) &&& 31) = nI (ac / 256) from fc_shr (k := 8) (by omega) (by decide)]
                refine lv_bipush (v := nI (20)) hx hb dL_acts_794 (by decide) ?_
                refine lv_irem hx hb dL_acts_796 (by decide) ?_
                rw [show (nI (ac / 256)) - (nI (ac / 256)) / (nI (20)) * (nI (20)) = nI ((ac / 256) % 20) from pk_rem (by omega) (by decide) (by omega)]
                refine fa_iaddN hx hb dL_acts_797 ?_
                refine lv_goto (tgt := 812) hx hb dL_acts_798 (by decide) ?_
                refine lv_istore (lv' := [(24, .int (nI (1 + ((ac / 256) % 20)))), (0, .ref (fa_B G + (0))), (1, .int (nI (ac))), (2, .int (nI (fi))), (3, .int (nI (ho))), (4, .int ((-1 : Int32))), (23, .int (nI (wh)))]) hx hb dL_acts_812 hl (by decide) rfl (fun ls hl => ?_)
                exact JOIN_814 (1 + ((ac / 256) % 20))  _ _ _ (by unfold fc_va; omega) (lv_sub hl [1, 2, 3, 4, 5, 6, 0] rfl) HX1686
            · have hw5 : wh < 5 := fa_ltN (by omega) (by omega) c_766
              refine lv_bipush (v := nI (30)) hx hb dL_acts_769 (by decide) ?_
              refine lv_iload_n hx hb dL_acts_771 rfl (lv_at hl 1 rfl) ?_
              refine lv_bipush (v := nI (8)) hx hb dL_acts_772 (by decide) ?_
              refine lv_ishr hx hb dL_acts_774 ?_
              rw [show (nI (ac)) >>> ((nI (8)) &&& 31) = nI (ac / 256) from fc_shr (k := 8) (by omega) (by decide)]
              refine lv_sipush (v := nI (300)) hx hb dL_acts_775 (by decide) ?_
              refine lv_irem hx hb dL_acts_778 (by decide) ?_
              rw [show (nI (ac / 256)) - (nI (ac / 256)) / (nI (300)) * (nI (300)) = nI ((ac / 256) % 300) from pk_rem (by omega) (by decide) (by omega)]
              refine fa_iaddN hx hb dL_acts_779 ?_
              refine lv_goto (tgt := 812) hx hb dL_acts_780 (by decide) ?_
              refine lv_istore (lv' := [(24, .int (nI (30 + ((ac / 256) % 300)))), (0, .ref (fa_B G + (0))), (1, .int (nI (ac))), (2, .int (nI (fi))), (3, .int (nI (ho))), (4, .int ((-1 : Int32))), (23, .int (nI (wh)))]) hx hb dL_acts_812 hl (by decide) rfl (fun ls hl => ?_)
              exact JOIN_814 (30 + ((ac / 256) % 300))  _ _ _ (by unfold fc_va; omega) (lv_sub hl [1, 2, 3, 4, 5, 6, 0] rfl) HX1686
          refine lv_iload_n hx hb dL_acts_755 rfl (lv_at hl 2 rfl) ?_
          refine lv_iconst (v := nI (4)) hx hb dL_acts_756 (by decide) ?_
          refine lv_ishr hx hb dL_acts_757 ?_
          rw [show (nI (ac)) >>> ((nI (4)) &&& 31) = nI (ac / 16) from fc_shr (k := 4) (by omega) (by decide)]
          refine lv_bipush (v := nI (7)) hx hb dL_acts_758 (by decide) ?_
          refine lv_irem hx hb dL_acts_760 (by decide) ?_
          rw [show (nI (ac / 16)) - (nI (ac / 16)) / (nI (7)) * (nI (7)) = nI ((ac / 16) % 7) from pk_rem (by omega) (by decide) (by omega)]
          refine lv_istore (lv' := [(23, .int (nI ((ac / 16) % 7))), (4, .int ((-1 : Int32))), (0, .ref (fa_B G + (0))), (1, .int (nI (ac))), (2, .int (nI (fi))), (3, .int (nI (ho)))]) hx hb dL_acts_761 hl (by decide) rfl (fun ls hl => ?_)
          exact JOIN_763 ((ac / 16) % 7)  _ _ _ (Nat.mod_lt _ (by decide)) (lv_sub hl [2, 3, 4, 5, 1, 0] rfl) HX1582
        have hout_42 : (nI (ac % 12)).toInt < 0 ∨ 9 < (nI (ac % 12)).toInt := by
          have z0 := lv_neT (a := 0) c_42_0 (by decide)
          have z1 := lv_neT (a := 1) c_42_1 (by decide)
          have z2 := lv_neT (a := 2) c_42_2 (by decide)
          have z3 := lv_neT (a := 3) c_42_3 (by decide)
          have z4 := lv_neT (a := 4) c_42_4 (by decide)
          have z5 := lv_neT (a := 5) c_42_5 (by decide)
          have z6 := lv_neT (a := 6) c_42_6 (by decide)
          have z7 := lv_neT (a := 7) c_42_7 (by decide)
          have z8 := lv_neT (a := 8) c_42_8 (by decide)
          have z9 := lv_neT (a := 9) c_42_9 (by decide)
          omega
        refine lv_tableOut (tgt := 852) hx hb dL_acts_42 hout_42 (by decide) ?_
        have JOIN_862 : ∀ (da : Nat) (H : Heap) (locs : List Loc) (ls : Array Slot), (1 ≤ da ∧ da ≤ 120) → lv_has ls 34 [(0, .ref (fa_B G + (0))), (1, .int (nI (ac))), (2, .int (nI (fi))), (3, .int (nI (ho))), (4, .int ((-1 : Int32))), (26, .int (nI (da)))] → fa_HX G (n) v r s H locs → W p l e (fa_rm 8) s m args below meth c H locs (0) (0) Q (F0 m 862 ls []) := by
          intro da H locs ls hi_862 hl HX1699
          refine lv_aload_n hx hb dL_acts_862 rfl (lv_at hl 0 rfl) ?_
          refine fa_callVip (As := []) (rest := []) CX HX1699 (g_now l G n hn v r hC ) ln_L_31 (by omega) rfl rfl rfl rfl (Nat.le_of_ble_eq_true rfl) hl.1 ⟨Nat.le_of_ble_eq_true rfl, Nat.le_of_ble_eq_true rfl⟩ ⟨Nat.le_refl _, Nat.le_refl _⟩ dL_acts_863 (fun x1701 H locs h1700 HX1702 => ?_)
          have h_now := h1700
          have e_863 : x1701 = nI (dy) := ((h_now.trans hV.2.2.1.now).trans hk.1)
          subst e_863
          refine lv_istore (lv' := [(27, .int (nI (dy))), (0, .ref (fa_B G + (0))), (1, .int (nI (ac))), (2, .int (nI (fi))), (3, .int (nI (ho))), (4, .int ((-1 : Int32))), (26, .int (nI (da)))]) hx hb dL_acts_866 hl (by decide) rfl (fun ls hl => ?_)
          refine lv_aload_n hx hb dL_acts_868 rfl (lv_at hl 1 rfl) ?_
          refine lv_iconst (v := nI (3)) hx hb dL_acts_869 (by decide) ?_
          refine fa_callVip (As := [.int (nI (3))]) (rest := []) CX HX1702 (g_count l G n hn v r hC (nI (3))) ln_L_15 (by omega) rfl rfl rfl rfl (Nat.le_of_ble_eq_true rfl) hl.1 ⟨Nat.le_of_ble_eq_true rfl, Nat.le_of_ble_eq_true rfl⟩ ⟨Nat.le_refl _, Nat.le_refl _⟩ dL_acts_870 (fun x1704 H locs h1703 HX1705 => ?_)
          have h_count := h1703
          have e_870 : x1704 = nI (bu) := (((h_count A hV.1 hV.2.2.1).trans (fb_cntA_3 (by decide))).trans hk.2.2.1)
          subst e_870
          refine lv_istore (lv' := [(28, .int (nI (bu))), (27, .int (nI (dy))), (0, .ref (fa_B G + (0))), (1, .int (nI (ac))), (2, .int (nI (fi))), (3, .int (nI (ho))), (4, .int ((-1 : Int32))), (26, .int (nI (da)))]) hx hb dL_acts_873 hl (by decide) rfl (fun ls hl => ?_)
          refine lv_aload_n hx hb dL_acts_875 rfl (lv_at hl 2 rfl) ?_
          refine lv_iconst (v := nI (4)) hx hb dL_acts_876 (by decide) ?_
          refine fa_callVip (As := [.int (nI (4))]) (rest := []) CX HX1705 (g_count l G n hn v r hC (nI (4))) ln_L_15 (by omega) rfl rfl rfl rfl (Nat.le_of_ble_eq_true rfl) hl.1 ⟨Nat.le_of_ble_eq_true rfl, Nat.le_of_ble_eq_true rfl⟩ ⟨Nat.le_refl _, Nat.le_refl _⟩ dL_acts_877 (fun x1707 H locs h1706 HX1708 => ?_)
          have h_count := h1706
          have e_877 : x1707 = A.g 10 := ((h_count A hV.1 hV.2.2.1).trans (fb_cntA_4 (by decide)))
          subst e_877
          refine lv_istore (lv' := [(29, .int (A.g 10)), (28, .int (nI (bu))), (27, .int (nI (dy))), (0, .ref (fa_B G + (0))), (1, .int (nI (ac))), (2, .int (nI (fi))), (3, .int (nI (ho))), (4, .int ((-1 : Int32))), (26, .int (nI (da)))]) hx hb dL_acts_880 hl (by decide) rfl (fun ls hl => ?_)
          refine lv_aload_n hx hb dL_acts_882 rfl (lv_at hl 3 rfl) ?_
          refine lv_iconst (v := nI (5)) hx hb dL_acts_883 (by decide) ?_
          refine fa_callVip (As := [.int (nI (5))]) (rest := []) CX HX1708 (g_count l G n hn v r hC (nI (5))) ln_L_15 (by omega) rfl rfl rfl rfl (Nat.le_of_ble_eq_true rfl) hl.1 ⟨Nat.le_of_ble_eq_true rfl, Nat.le_of_ble_eq_true rfl⟩ ⟨Nat.le_refl _, Nat.le_refl _⟩ dL_acts_884 (fun x1710 H locs h1709 HX1711 => ?_)
          have h_count := h1709
          have e_884 : x1710 = A.g 11 := ((h_count A hV.1 hV.2.2.1).trans (fb_cntA_5 (by decide)))
          subst e_884
          refine lv_istore (lv' := [(30, .int (A.g 11)), (29, .int (A.g 10)), (28, .int (nI (bu))), (27, .int (nI (dy))), (0, .ref (fa_B G + (0))), (1, .int (nI (ac))), (2, .int (nI (fi))), (3, .int (nI (ho))), (4, .int ((-1 : Int32))), (26, .int (nI (da)))]) hx hb dL_acts_887 hl (by decide) rfl (fun ls hl => ?_)
          refine lv_aload_n hx hb dL_acts_889 rfl (lv_at hl 4 rfl) ?_
          refine lv_iload hx hb dL_acts_890 (lv_at hl 9 rfl) ?_
          refine lv_iconst (v := nI (0)) hx hb dL_acts_892 (by decide) ?_
          refine fa_callVi (As := [.int (nI (da)), .int (nI (0))]) (rest := []) CX HX1711 (g_ifPassed l G n hn v r hC (nI (da)) (nI (0))) ln_L_69 (by omega) rfl rfl rfl rfl (Nat.le_of_ble_eq_true rfl) hl.1 ⟨Nat.le_of_ble_eq_true rfl, Nat.le_of_ble_eq_true rfl⟩ ⟨Nat.le_refl _, Nat.le_refl _⟩ dL_acts_893 (fun x1713 v1714 r1715 H locs h1712 HX1716 => ?_)
          dsimp only at h1712
          have hC_v1714 := h1712.2.1
          have h_ifPassed := h1712.1
          have hV_893 := hV.fut h1712.2.2.1 h_ifPassed.1
          obtain ⟨hI_893, hip_893⟩ := h_ifPassed.2 A dy hok hk.1 (by omega) hi57 hV.2.2.1
          have e_893 : x1713 = (fb_daysA A da).2.g 9 - A.g 9 := ((hip_893 da rfl hi_862.1 (by omega)).1 (by decide))
          subst e_893
          refine lv_istore (lv' := [(31, .int ((fb_daysA A da).2.g 9 - A.g 9)), (30, .int (A.g 11)), (29, .int (A.g 10)), (28, .int (nI (bu))), (27, .int (nI (dy))), (0, .ref (fa_B G + (0))), (1, .int (nI (ac))), (2, .int (nI (fi))), (3, .int (nI (ho))), (4, .int ((-1 : Int32))), (26, .int (nI (da)))]) hx hb dL_acts_896 hl (by decide) rfl (fun ls hl => ?_)
          refine lv_aload_n hx hb dL_acts_898 rfl (lv_at hl 5 rfl) ?_
          refine lv_iload hx hb dL_acts_899 (lv_at hl 10 rfl) ?_
          refine lv_iconst (v := nI (1)) hx hb dL_acts_901 (by decide) ?_
          refine fa_callVi (As := [.int (nI (da)), .int (nI (1))]) (rest := []) CX HX1716 (g_ifPassed l G n hn v1714 r1715 hC_v1714 (nI (da)) (nI (1))) ln_L_69 (by omega) rfl rfl rfl rfl (Nat.le_of_ble_eq_true rfl) hl.1 ⟨Nat.le_of_ble_eq_true rfl, Nat.le_of_ble_eq_true rfl⟩ ⟨Nat.le_refl _, Nat.le_refl _⟩ dL_acts_902 (fun x1718 v1719 r1720 H locs h1717 HX1721 => ?_)
          dsimp only at h1717
          have hC_v1719 := h1717.2.1
          have h_ifPassed := h1717.1
          have hV_902 := hV_893.fut h1717.2.2.1 h_ifPassed.1
          obtain ⟨hI_902, hip_902⟩ := h_ifPassed.2 A dy hok hk.1 (by omega) hI_893 hV_893.2.2.1
          have e_902 : x1718 = (fb_daysA A da).2.g 10 - A.g 10 := ((hip_902 da rfl hi_862.1 (by omega)).2.1 (by decide))
          subst e_902
          refine lv_istore (lv' := [(32, .int ((fb_daysA A da).2.g 10 - A.g 10)), (31, .int ((fb_daysA A da).2.g 9 - A.g 9)), (30, .int (A.g 11)), (29, .int (A.g 10)), (28, .int (nI (bu))), (27, .int (nI (dy))), (0, .ref (fa_B G + (0))), (1, .int (nI (ac))), (2, .int (nI (fi))), (3, .int (nI (ho))), (4, .int ((-1 : Int32))), (26, .int (nI (da)))]) hx hb dL_acts_905 hl (by decide) rfl (fun ls hl => ?_)
          refine lv_aload_n hx hb dL_acts_907 rfl (lv_at hl 6 rfl) ?_
          refine lv_iload hx hb dL_acts_908 (lv_at hl 11 rfl) ?_
          refine lv_iconst (v := nI (2)) hx hb dL_acts_910 (by decide) ?_
          refine fa_callVi (As := [.int (nI (da)), .int (nI (2))]) (rest := []) CX HX1721 (g_ifPassed l G n hn v1719 r1720 hC_v1719 (nI (da)) (nI (2))) ln_L_69 (by omega) rfl rfl rfl rfl (Nat.le_of_ble_eq_true rfl) hl.1 ⟨Nat.le_of_ble_eq_true rfl, Nat.le_of_ble_eq_true rfl⟩ ⟨Nat.le_refl _, Nat.le_refl _⟩ dL_acts_911 (fun x1723 v1724 r1725 H locs h1722 HX1726 => ?_)
          dsimp only at h1722
          have hC_v1724 := h1722.2.1
          have h_ifPassed := h1722.1
          have hV_911 := hV_902.fut h1722.2.2.1 h_ifPassed.1
          obtain ⟨hI_911, hip_911⟩ := h_ifPassed.2 A dy hok hk.1 (by omega) hI_902 hV_902.2.2.1
          have e_911 : x1723 = (fb_daysA A da).2.g 11 - A.g 11 := ((hip_911 da rfl hi_862.1 (by omega)).2.2 rfl)
          subst e_911
          refine lv_istore (lv' := [(33, .int ((fb_daysA A da).2.g 11 - A.g 11)), (32, .int ((fb_daysA A da).2.g 10 - A.g 10)), (31, .int ((fb_daysA A da).2.g 9 - A.g 9)), (30, .int (A.g 11)), (29, .int (A.g 10)), (28, .int (nI (bu))), (27, .int (nI (dy))), (0, .ref (fa_B G + (0))), (1, .int (nI (ac))), (2, .int (nI (fi))), (3, .int (nI (ho))), (4, .int ((-1 : Int32))), (26, .int (nI (da)))]) hx hb dL_acts_914 hl (by decide) rfl (fun ls hl => ?_)
          refine lv_aload_n hx hb dL_acts_916 rfl (lv_at hl 7 rfl) ?_
          refine lv_iload hx hb dL_acts_917 (lv_at hl 12 rfl) ?_
          refine fa_callVi (As := [.int (nI (da))]) (rest := []) CX HX1726 (g_pass5 l G n hn v1724 r1725 hC_v1724 (nI (da))) ln_L_72 (by omega) rfl rfl rfl rfl (Nat.le_of_ble_eq_true rfl) hl.1 ⟨Nat.le_of_ble_eq_true rfl, Nat.le_of_ble_eq_true rfl⟩ ⟨Nat.le_refl _, Nat.le_refl _⟩ dL_acts_919 (fun x1728 v1729 r1730 H locs h1727 HX1731 => ?_)
          dsimp only at h1727
          have hC_v1729 := h1727.2.1
          have h_pass5 := h1727.1
          obtain ⟨hr58_919, hac_919⟩ := h_pass5
          obtain ⟨hx_919, hV_919⟩ := hac_919 _ _ hV_911
          rw [fc_pass1 hk.1 hi_862.1 (by omega) (by omega)] at hx_919 hV_919
          have hV_919 : fb_CV v1729 r1730 ((fb_daysA A da).2) _ := hV_919
          have hI_919 : fb_inj r1730 57 := hI_911.congr hr58_919
          obtain ⟨b2, hb2, hk_919, -⟩ := hk.days hok (by omega) da (by omega)
          have e_919 : x1728 = (fb_daysA A da).1 := hx_919
          subst e_919
          refine lv_iload hx hb dL_acts_922 (lv_at hl 2 rfl) ?_
          refine lv_icmp_ne (tgt := 982) hx hb dL_acts_924 (by decide) (fun c_924 => ?_) (fun c_924 => ?_)
          · exact absurd (fc_days9 A da) c_924
          · refine lv_aload_n hx hb dL_acts_927 rfl (lv_at hl 7 rfl) ?_
            refine fa_callVip (As := []) (rest := []) CX HX1731 (g_now l G n hn v1729 r1730 hC_v1729 ) ln_L_31 (by omega) rfl rfl rfl rfl (Nat.le_of_ble_eq_true rfl) hl.1 ⟨Nat.le_of_ble_eq_true rfl, Nat.le_of_ble_eq_true rfl⟩ ⟨Nat.le_refl _, Nat.le_refl _⟩ dL_acts_928 (fun x1733 H locs h1732 HX1734 => ?_)
            have h_now := h1732
            have e_928 : x1733 = nI (dy + da) := ((h_now.trans hV_919.2.2.1.now).trans hk_919.1)
            subst e_928
            refine lv_iload hx hb dL_acts_931 (lv_at hl 6 rfl) ?_
            refine lv_iload hx hb dL_acts_933 (lv_at hl 12 rfl) ?_
            refine fa_iaddN hx hb dL_acts_935 ?_
            refine lv_icmp_ne (tgt := 982) hx hb dL_acts_936 (by decide) (fun c_936 => ?_) (fun c_936 => ?_)
            · exact absurd rfl c_936
            · refine lv_aload_n hx hb dL_acts_939 rfl (lv_at hl 7 rfl) ?_
              refine lv_iconst (v := nI (3)) hx hb dL_acts_940 (by decide) ?_
              refine fa_callVip (As := [.int (nI (3))]) (rest := []) CX HX1734 (g_count l G n hn v1729 r1730 hC_v1729 (nI (3))) ln_L_15 (by omega) rfl rfl rfl rfl (Nat.le_of_ble_eq_true rfl) hl.1 ⟨Nat.le_of_ble_eq_true rfl, Nat.le_of_ble_eq_true rfl⟩ ⟨Nat.le_refl _, Nat.le_refl _⟩ dL_acts_941 (fun x1736 H locs h1735 HX1737 => ?_)
              have h_count := h1735
              have e_941 : x1736 = (fb_daysA A da).2.g 9 := ((h_count ((fb_daysA A da).2) hV_919.1 hV_919.2.2.1).trans (fb_cntA_3 (by decide)))
              subst e_941
              refine lv_iload hx hb dL_acts_944 (lv_at hl 5 rfl) ?_
              refine lv_iload hx hb dL_acts_946 (lv_at hl 2 rfl) ?_
              refine lv_iadd hx hb dL_acts_948 ?_
              refine lv_icmp_ne (tgt := 982) hx hb dL_acts_949 (by decide) (fun c_949 => ?_) (fun c_949 => ?_)
              · exact absurd (by rw [← hk.2.2.1]; exact (fc_diff _ _).symm) c_949
              · refine lv_aload_n hx hb dL_acts_952 rfl (lv_at hl 7 rfl) ?_
                refine lv_iconst (v := nI (4)) hx hb dL_acts_953 (by decide) ?_
                refine fa_callVip (As := [.int (nI (4))]) (rest := []) CX HX1737 (g_count l G n hn v1729 r1730 hC_v1729 (nI (4))) ln_L_15 (by omega) rfl rfl rfl rfl (Nat.le_of_ble_eq_true rfl) hl.1 ⟨Nat.le_of_ble_eq_true rfl, Nat.le_of_ble_eq_true rfl⟩ ⟨Nat.le_refl _, Nat.le_refl _⟩ dL_acts_954 (fun x1739 H locs h1738 HX1740 => ?_)
                have h_count := h1738
                have e_954 : x1739 = (fb_daysA A da).2.g 10 := ((h_count ((fb_daysA A da).2) hV_919.1 hV_919.2.2.1).trans (fb_cntA_4 (by decide)))
                subst e_954
                refine lv_iload hx hb dL_acts_957 (lv_at hl 4 rfl) ?_
                refine lv_iload hx hb dL_acts_959 (lv_at hl 1 rfl) ?_
                refine lv_iadd hx hb dL_acts_961 ?_
                refine lv_icmp_ne (tgt := 982) hx hb dL_acts_962 (by decide) (fun c_962 => ?_) (fun c_962 => ?_)
                · exact absurd (fc_diff _ _).symm c_962
                · refine lv_aload_n hx hb dL_acts_965 rfl (lv_at hl 7 rfl) ?_
                  refine lv_iconst (v := nI (5)) hx hb dL_acts_966 (by decide) ?_
                  refine fa_callVip (As := [.int (nI (5))]) (rest := []) CX HX1740 (g_count l G n hn v1729 r1730 hC_v1729 (nI (5))) ln_L_15 (by omega) rfl rfl rfl rfl (Nat.le_of_ble_eq_true rfl) hl.1 ⟨Nat.le_of_ble_eq_true rfl, Nat.le_of_ble_eq_true rfl⟩ ⟨Nat.le_refl _, Nat.le_refl _⟩ dL_acts_967 (fun x1742 H locs h1741 HX1743 => ?_)
                  have h_count := h1741
                  have e_967 : x1742 = (fb_daysA A da).2.g 11 := ((h_count ((fb_daysA A da).2) hV_919.1 hV_919.2.2.1).trans (fb_cntA_5 (by decide)))
                  subst e_967
                  refine lv_iload hx hb dL_acts_970 (lv_at hl 3 rfl) ?_
                  refine lv_iload hx hb dL_acts_972 (lv_at hl 0 rfl) ?_
                  refine lv_iadd hx hb dL_acts_974 ?_
                  refine lv_icmp_ne (tgt := 982) hx hb dL_acts_975 (by decide) (fun c_975 => ?_) (fun c_975 => ?_)
                  · exact absurd (fc_diff _ _).symm c_975
                  · refine lv_iconst (v := nI (1)) hx hb dL_acts_978 (by decide) ?_
                    refine lv_goto (tgt := 983) hx hb dL_acts_979 (by decide) ?_
                    exact RET _ _ _ _ _ _ _ HX1743 dL_acts_983 (by decide) (⟨⟨rfl, ((fb_daysA A da).2), _, dy + da, cm, b2, hV_919, hk_919.more (Nat.le_succ _), ⟨by omega, by omega, by omega, by omega⟩, hI_919⟩, hC_v1729, (fa_fr.tr (fa_fr.tr (fa_fr.tr (fa_fr.tr fa_fr.rf (fa_fr.wide h1712.2.2.1 (by omega) (by omega))) (fa_fr.wide h1717.2.2.1 (by omega) (by omega))) (fa_fr.wide h1722.2.2.1 (by omega) (by omega))) (fa_fr.wide h1727.2.2.1 (by omega) (by omega))), (fun k hk => ((h1727.2.2.2 k hk).trans ((h1722.2.2.2 k hk).trans ((h1717.2.2.2 k hk).trans ((h1712.2.2.2 k hk).trans rfl)))))⟩)
        refine lv_iconst (v := nI (1)) hx hb dL_acts_852 (by decide) ?_
        refine lv_iload_n hx hb dL_acts_853 rfl (lv_at hl 2 rfl) ?_
        refine lv_iconst (v := nI (4)) hx hb dL_acts_854 (by decide) ?_
        refine lv_ishr hx hb dL_acts_855 ?_
        rw [show (nI (ac)) >>> ((nI (4)) &&& 31) = nI (ac / 16) from fc_shr (k := 4) (by omega) (by decide)]
        refine lv_bipush (v := nI (120)) hx hb dL_acts_856 (by decide) ?_
        refine lv_irem hx hb dL_acts_858 (by decide) ?_
        rw [show (nI (ac / 16)) - (nI (ac / 16)) / (nI (120)) * (nI (120)) = nI ((ac / 16) % 120) from pk_rem (by omega) (by decide) (by omega)]
        refine fa_iaddN hx hb dL_acts_859 ?_
        refine lv_istore (lv' := [(26, .int (nI (1 + ((ac / 16) % 120)))), (4, .int ((-1 : Int32))), (0, .ref (fa_B G + (0))), (1, .int (nI (ac))), (2, .int (nI (fi))), (3, .int (nI (ho)))]) hx hb dL_acts_860 hl (by decide) rfl (fun ls hl => ?_)
        exact JOIN_862 (1 + ((ac / 16) % 120))  _ _ _ (⟨by omega, by omega⟩) (lv_sub hl [2, 3, 4, 5, 1, 0] rfl) HX1582
      · have hfi9 : fi ≤ cm := by omega
        refine lv_aload_n hx hb dL_acts_30 rfl (lv_at hl 0 rfl) ?_
        refine lv_iload_n hx hb dL_acts_31 rfl (lv_at hl 2 rfl) ?_
        refine lv_iconst (v := nI (0)) hx hb dL_acts_32 (by decide) ?_
        refine fa_callVip (As := [.int (nI (fi)), .int (nI (0))]) (rest := []) CX HX1579 (g_file l G n hn v r hC (nI (fi)) (nI (0))) ln_L_9 (by omega) rfl rfl rfl rfl (Nat.le_of_ble_eq_true rfl) hl.1 ⟨Nat.le_of_ble_eq_true rfl, Nat.le_of_ble_eq_true rfl⟩ ⟨Nat.le_refl _, Nat.le_refl _⟩ dL_acts_33 (fun x1745 H locs h1744 HX1746 => ?_)
        have h_file := h1744
        have e_33 : x1745 = (-1 : Int32) := ((h_file A hV.1 hV.2.2.1).trans (fb_filA_n hno))
        subst e_33
        refine lv_istore (lv' := [(4, .int ((-1 : Int32))), (0, .ref (fa_B G + (0))), (1, .int (nI (ac))), (2, .int (nI (fi))), (3, .int (nI (ho)))]) hx hb dL_acts_36 hl (by decide) rfl (fun ls hl => ?_)
        refine lv_iload_n hx hb dL_acts_38 rfl (lv_at hl 2 rfl) ?_
        refine lv_bipush (v := nI (12)) hx hb dL_acts_39 (by decide) ?_
        refine lv_irem hx hb dL_acts_41 (by decide) ?_
        rw [show (nI (ac)) - (nI (ac)) / (nI (12)) * (nI (12)) = nI (ac % 12) from pk_rem (by omega) (by decide) (by omega)]
        have JOIN_96 : ∀  (H : Heap) (locs : List Loc) (ls : Array Slot), (True) → lv_has ls 34 [(0, .ref (fa_B G + (0))), (1, .int (nI (ac))), (2, .int (nI (fi))), (3, .int (nI (ho))), (4, .int ((-1 : Int32)))] → fa_HX G (n) v r s H locs → W p l e (fa_rm 8) s m args below meth c H locs (0) (0) Q (F0 m 96 ls []) := by
          intro  H locs ls hi_96 hl HX1747
          refine lv_aload_n hx hb dL_acts_96 rfl (lv_at hl 0 rfl) ?_
          refine lv_iconst (v := nI (1)) hx hb dL_acts_97 (by decide) ?_
          refine fa_callVip (As := [.int (nI (1))]) (rest := []) CX HX1747 (g_count l G n hn v r hC (nI (1))) ln_L_15 (by omega) rfl rfl rfl rfl (Nat.le_of_ble_eq_true rfl) hl.1 ⟨Nat.le_of_ble_eq_true rfl, Nat.le_of_ble_eq_true rfl⟩ ⟨Nat.le_refl _, Nat.le_refl _⟩ dL_acts_98 (fun x1749 H locs h1748 HX1750 => ?_)
          have h_count := h1748
          have e_98 : x1749 = nI (cm) := (((h_count A hV.1 hV.2.2.1).trans (fb_cntA_1 (by decide))).trans hk.2.1)
          subst e_98
          refine lv_istore (lv' := [(5, .int (nI (cm))), (0, .ref (fa_B G + (0))), (1, .int (nI (ac))), (2, .int (nI (fi))), (3, .int (nI (ho))), (4, .int ((-1 : Int32)))]) hx hb dL_acts_101 hl (by decide) rfl (fun ls hl => ?_)
          refine lv_iconst (v := nI (1)) hx hb dL_acts_103 (by decide) ?_
          refine lv_iload_n hx hb dL_acts_104 rfl (lv_at hl 2 rfl) ?_
          refine lv_bipush (v := nI (8)) hx hb dL_acts_105 (by decide) ?_
          refine lv_ishr hx hb dL_acts_107 ?_
          rw [show (nI (ac)) >>> ((nI (8)) &&& 31) = nI (ac / 256) from fc_shr (k := 8) (by omega) (by decide)]
          refine lv_bipush (v := nI (50)) hx hb dL_acts_108 (by decide) ?_
          refine lv_irem hx hb dL_acts_110 (by decide) ?_
          rw [show (nI (ac / 256)) - (nI (ac / 256)) / (nI (50)) * (nI (50)) = nI ((ac / 256) % 50) from pk_rem (by omega) (by decide) (by omega)]
          refine fa_iaddN hx hb dL_acts_111 ?_
          refine lv_istore (lv' := [(6, .int (nI (1 + ((ac / 256) % 50)))), (5, .int (nI (cm))), (0, .ref (fa_B G + (0))), (1, .int (nI (ac))), (2, .int (nI (fi))), (3, .int (nI (ho))), (4, .int ((-1 : Int32)))]) hx hb dL_acts_112 hl (by decide) rfl (fun ls hl => ?_)
          refine lv_aload_n hx hb dL_acts_114 rfl (lv_at hl 2 rfl) ?_
          refine lv_iconst (v := nI (0)) hx hb dL_acts_115 (by decide) ?_
          refine fa_callVip (As := [.int (nI (0))]) (rest := []) CX HX1750 (g_count l G n hn v r hC (nI (0))) ln_L_15 (by omega) rfl rfl rfl rfl (Nat.le_of_ble_eq_true rfl) hl.1 ⟨Nat.le_of_ble_eq_true rfl, Nat.le_of_ble_eq_true rfl⟩ ⟨Nat.le_refl _, Nat.le_refl _⟩ dL_acts_116 (fun x1752 H locs h1751 HX1753 => ?_)
          have h_count := h1751
          have e_116 : x1752 = nI (A.n) := ((h_count A hV.1 hV.2.2.1).trans (fb_cntA_0 (by decide)))
          subst e_116
          refine lv_bipush (v := nI (24)) hx hb dL_acts_119 (by decide) ?_
          refine lv_icmp_ge (tgt := 145) hx hb dL_acts_121 (by decide) (fun c_121 => ?_) (fun c_121 => ?_)
          · have h24 : 24 ≤ A.n := fa_leN (by omega) (by omega) c_121
            refine lv_iconst (v := nI (0)) hx hb dL_acts_145 (by decide) ?_
            refine lv_istore (lv' := [(7, .int (nI (0))), (6, .int (nI (1 + ((ac / 256) % 50)))), (5, .int (nI (cm))), (0, .ref (fa_B G + (0))), (1, .int (nI (ac))), (2, .int (nI (fi))), (3, .int (nI (ho))), (4, .int ((-1 : Int32)))]) hx hb dL_acts_146 hl (by decide) rfl (fun ls hl => ?_)
            refine lv_aload_n hx hb dL_acts_148 rfl (lv_at hl 3 rfl) ?_
            refine lv_iload_n hx hb dL_acts_149 rfl (lv_at hl 4 rfl) ?_
            refine lv_iconst (v := nI (4)) hx hb dL_acts_150 (by decide) ?_
            refine lv_ishr hx hb dL_acts_151 ?_
            rw [show (nI (ac)) >>> ((nI (4)) &&& 31) = nI (ac / 16) from fc_shr (k := 4) (by omega) (by decide)]
            refine lv_iconst (v := nI (5)) hx hb dL_acts_152 (by decide) ?_
            refine lv_irem hx hb dL_acts_153 (by decide) ?_
            rw [show (nI (ac / 16)) - (nI (ac / 16)) / (nI (5)) * (nI (5)) = nI ((ac / 16) % 5) from pk_rem (by omega) (by decide) (by omega)]
            refine lv_iload hx hb dL_acts_154 (lv_at hl 1 rfl) ?_
            refine fa_callVi (As := [.int (nI ((ac / 16) % 5)), .int (nI (1 + ((ac / 256) % 50)))]) (rest := []) CX HX1753 (g_add5 l G n hn v r hC (nI ((ac / 16) % 5)) (nI (1 + ((ac / 256) % 50)))) ln_L_44 (by omega) rfl rfl rfl rfl (Nat.le_of_ble_eq_true rfl) hl.1 ⟨Nat.le_of_ble_eq_true rfl, Nat.le_of_ble_eq_true rfl⟩ ⟨Nat.le_refl _, Nat.le_refl _⟩ dL_acts_156 (fun x1755 v1756 r1757 H locs h1754 HX1758 => ?_)
            dsimp only at h1754
            have hC_v1756 := h1754.2.1
            have h_add5 := h1754.1
            obtain ⟨hr58_156, hac_156⟩ := h_add5
            obtain ⟨hx_156, hV_156⟩ := hac_156 _ _ hV
            rw [fc_add0 (k := (ac / 16) % 5) (p := 1 + (ac / 256) % 50) (by omega) (by omega) (by omega) (Or.inl h24)] at hx_156 hV_156
            have hV_156 : fb_CV v1756 r1757 A _ := hV_156
            have hI_156 : fb_inj r1757 57 := hi57.congr hr58_156
            have hk_156 := hk
            have e_156 : x1755 = (-4 : Int32) := hx_156
            subst e_156
            refine lv_istore (lv' := [(8, .int ((-4 : Int32))), (7, .int (nI (0))), (6, .int (nI (1 + ((ac / 256) % 50)))), (5, .int (nI (cm))), (0, .ref (fa_B G + (0))), (1, .int (nI (ac))), (2, .int (nI (fi))), (3, .int (nI (ho))), (4, .int ((-1 : Int32)))]) hx hb dL_acts_159 hl (by decide) rfl (fun ls hl => ?_)
            refine lv_iload hx hb dL_acts_161 (lv_at hl 1 rfl) ?_
            refine lv_if_eq (tgt := 219) hx hb dL_acts_163 (by decide) (fun c_163 => ?_) (fun c_163 => ?_)
            · refine lv_iload hx hb dL_acts_219 (lv_at hl 0 rfl) ?_
              refine lv_bipush (v := (-4 : Int32)) hx hb dL_acts_221 (by decide) ?_
              refine lv_icmp_ne (tgt := 230) hx hb dL_acts_223 (by decide) (fun c_223 => ?_) (fun c_223 => ?_)
              · exact absurd (by try decide) c_223
              · refine lv_iconst (v := nI (1)) hx hb dL_acts_226 (by decide) ?_
                refine lv_goto (tgt := 231) hx hb dL_acts_227 (by decide) ?_
                exact RET _ _ _ _ _ _ _ HX1758 dL_acts_231 (by decide) (⟨⟨rfl, A, _, dy, cm, bu, hV_156, hk_156.more (Nat.le_succ _), ⟨by omega, by omega, by omega, by omega⟩, hI_156⟩, hC_v1756, (fa_fr.tr fa_fr.rf (fa_fr.wide h1754.2.2.1 (by omega) (by omega))), (fun k hk => ((h1754.2.2.2 k hk).trans rfl))⟩)
            · exact absurd (by try decide) c_163
          · have h24 : A.n < 24 := fa_ltN (by omega) (by omega) c_121
            refine lv_aload_n hx hb dL_acts_124 rfl (lv_at hl 2 rfl) ?_
            refine lv_iconst (v := nI (2)) hx hb dL_acts_125 (by decide) ?_
            refine fa_callVip (As := [.int (nI (2))]) (rest := []) CX HX1753 (g_count l G n hn v r hC (nI (2))) ln_L_15 (by omega) rfl rfl rfl rfl (Nat.le_of_ble_eq_true rfl) hl.1 ⟨Nat.le_of_ble_eq_true rfl, Nat.le_of_ble_eq_true rfl⟩ ⟨Nat.le_refl _, Nat.le_refl _⟩ dL_acts_126 (fun x1760 H locs h1759 HX1761 => ?_)
            have h_count := h1759
            have e_126 : x1760 = fb_pgs A := ((h_count A hV.1 hV.2.2.1).trans (fb_cntA_2 (by decide)))
            subst e_126
            refine lv_iload hx hb dL_acts_129 (lv_at hl 0 rfl) ?_
            refine lv_iadd hx hb dL_acts_131 ?_
            refine lv_aload_n hx hb dL_acts_132 rfl (lv_at hl 2 rfl) ?_
            refine lv_bipush (v := nI (6)) hx hb dL_acts_133 (by decide) ?_
            refine fa_callVip (As := [.int (nI (6))]) (rest := [.int ((fb_pgs A) + (nI (1 + ((ac / 256) % 50))))]) CX HX1761 (g_setting l G n hn v r hC (nI (6))) ln_L_22 (by omega) rfl rfl rfl rfl (Nat.le_of_ble_eq_true rfl) hl.1 ⟨Nat.le_of_ble_eq_true rfl, Nat.le_of_ble_eq_true rfl⟩ ⟨Nat.le_refl _, Nat.le_refl _⟩ dL_acts_135 (fun x1763 H locs h1762 HX1764 => ?_)
            have h_setting := h1762
            have e_135 : x1763 = A.g 6 := ((h_setting A hV.1 hV.2.2.1).trans (fc_stg (k := 6) (by decide)))
            subst e_135
            refine lv_icmp_gt (tgt := 145) hx hb dL_acts_138 (by decide) (fun c_138 => ?_) (fun c_138 => ?_)
            · refine lv_iconst (v := nI (0)) hx hb dL_acts_145 (by decide) ?_
              refine lv_istore (lv' := [(7, .int (nI (0))), (6, .int (nI (1 + ((ac / 256) % 50)))), (5, .int (nI (cm))), (0, .ref (fa_B G + (0))), (1, .int (nI (ac))), (2, .int (nI (fi))), (3, .int (nI (ho))), (4, .int ((-1 : Int32)))]) hx hb dL_acts_146 hl (by decide) rfl (fun ls hl => ?_)
              refine lv_aload_n hx hb dL_acts_148 rfl (lv_at hl 3 rfl) ?_
              refine lv_iload_n hx hb dL_acts_149 rfl (lv_at hl 4 rfl) ?_
              refine lv_iconst (v := nI (4)) hx hb dL_acts_150 (by decide) ?_
              refine lv_ishr hx hb dL_acts_151 ?_
              rw [show (nI (ac)) >>> ((nI (4)) &&& 31) = nI (ac / 16) from fc_shr (k := 4) (by omega) (by decide)]
              refine lv_iconst (v := nI (5)) hx hb dL_acts_152 (by decide) ?_
              refine lv_irem hx hb dL_acts_153 (by decide) ?_
              rw [show (nI (ac / 16)) - (nI (ac / 16)) / (nI (5)) * (nI (5)) = nI ((ac / 16) % 5) from pk_rem (by omega) (by decide) (by omega)]
              refine lv_iload hx hb dL_acts_154 (lv_at hl 1 rfl) ?_
              refine fa_callVi (As := [.int (nI ((ac / 16) % 5)), .int (nI (1 + ((ac / 256) % 50)))]) (rest := []) CX HX1764 (g_add5 l G n hn v r hC (nI ((ac / 16) % 5)) (nI (1 + ((ac / 256) % 50)))) ln_L_44 (by omega) rfl rfl rfl rfl (Nat.le_of_ble_eq_true rfl) hl.1 ⟨Nat.le_of_ble_eq_true rfl, Nat.le_of_ble_eq_true rfl⟩ ⟨Nat.le_refl _, Nat.le_refl _⟩ dL_acts_156 (fun x1766 v1767 r1768 H locs h1765 HX1769 => ?_)
              dsimp only at h1765
              have hC_v1767 := h1765.2.1
              have h_add5 := h1765.1
              obtain ⟨hr58_156, hac_156⟩ := h_add5
              obtain ⟨hx_156, hV_156⟩ := hac_156 _ _ hV
              rw [fc_add0 (k := (ac / 16) % 5) (p := 1 + (ac / 256) % 50) (by omega) (by omega) (by omega) (Or.inr (Int32.not_le.mpr c_138))] at hx_156 hV_156
              have hV_156 : fb_CV v1767 r1768 A _ := hV_156
              have hI_156 : fb_inj r1768 57 := hi57.congr hr58_156
              have hk_156 := hk
              have e_156 : x1766 = (-4 : Int32) := hx_156
              subst e_156
              refine lv_istore (lv' := [(8, .int ((-4 : Int32))), (7, .int (nI (0))), (6, .int (nI (1 + ((ac / 256) % 50)))), (5, .int (nI (cm))), (0, .ref (fa_B G + (0))), (1, .int (nI (ac))), (2, .int (nI (fi))), (3, .int (nI (ho))), (4, .int ((-1 : Int32)))]) hx hb dL_acts_159 hl (by decide) rfl (fun ls hl => ?_)
              refine lv_iload hx hb dL_acts_161 (lv_at hl 1 rfl) ?_
              refine lv_if_eq (tgt := 219) hx hb dL_acts_163 (by decide) (fun c_163 => ?_) (fun c_163 => ?_)
              · refine lv_iload hx hb dL_acts_219 (lv_at hl 0 rfl) ?_
                refine lv_bipush (v := (-4 : Int32)) hx hb dL_acts_221 (by decide) ?_
                refine lv_icmp_ne (tgt := 230) hx hb dL_acts_223 (by decide) (fun c_223 => ?_) (fun c_223 => ?_)
                · exact absurd (by try decide) c_223
                · refine lv_iconst (v := nI (1)) hx hb dL_acts_226 (by decide) ?_
                  refine lv_goto (tgt := 231) hx hb dL_acts_227 (by decide) ?_
                  exact RET _ _ _ _ _ _ _ HX1769 dL_acts_231 (by decide) (⟨⟨rfl, A, _, dy, cm, bu, hV_156, hk_156.more (Nat.le_succ _), ⟨by omega, by omega, by omega, by omega⟩, hI_156⟩, hC_v1767, (fa_fr.tr fa_fr.rf (fa_fr.wide h1765.2.2.1 (by omega) (by omega))), (fun k hk => ((h1765.2.2.2 k hk).trans rfl))⟩)
              · exact absurd (by try decide) c_163
            · refine lv_iconst (v := nI (1)) hx hb dL_acts_141 (by decide) ?_
              refine lv_goto (tgt := 146) hx hb dL_acts_142 (by decide) ?_
              refine lv_istore (lv' := [(7, .int (nI (1))), (6, .int (nI (1 + ((ac / 256) % 50)))), (5, .int (nI (cm))), (0, .ref (fa_B G + (0))), (1, .int (nI (ac))), (2, .int (nI (fi))), (3, .int (nI (ho))), (4, .int ((-1 : Int32)))]) hx hb dL_acts_146 hl (by decide) rfl (fun ls hl => ?_)
              refine lv_aload_n hx hb dL_acts_148 rfl (lv_at hl 3 rfl) ?_
              refine lv_iload_n hx hb dL_acts_149 rfl (lv_at hl 4 rfl) ?_
              refine lv_iconst (v := nI (4)) hx hb dL_acts_150 (by decide) ?_
              refine lv_ishr hx hb dL_acts_151 ?_
              rw [show (nI (ac)) >>> ((nI (4)) &&& 31) = nI (ac / 16) from fc_shr (k := 4) (by omega) (by decide)]
              refine lv_iconst (v := nI (5)) hx hb dL_acts_152 (by decide) ?_
              refine lv_irem hx hb dL_acts_153 (by decide) ?_
              rw [show (nI (ac / 16)) - (nI (ac / 16)) / (nI (5)) * (nI (5)) = nI ((ac / 16) % 5) from pk_rem (by omega) (by decide) (by omega)]
              refine lv_iload hx hb dL_acts_154 (lv_at hl 1 rfl) ?_
              refine fa_callVi (As := [.int (nI ((ac / 16) % 5)), .int (nI (1 + ((ac / 256) % 50)))]) (rest := []) CX HX1764 (g_add5 l G n hn v r hC (nI ((ac / 16) % 5)) (nI (1 + ((ac / 256) % 50)))) ln_L_44 (by omega) rfl rfl rfl rfl (Nat.le_of_ble_eq_true rfl) hl.1 ⟨Nat.le_of_ble_eq_true rfl, Nat.le_of_ble_eq_true rfl⟩ ⟨Nat.le_refl _, Nat.le_refl _⟩ dL_acts_156 (fun x1771 v1772 r1773 H locs h1770 HX1774 => ?_)
              dsimp only at h1770
              have hC_v1772 := h1770.2.1
              have h_add5 := h1770.1
              obtain ⟨hr58_156, hac_156⟩ := h_add5
              obtain ⟨hx_156, hV_156⟩ := hac_156 _ _ hV
              rw [fc_add1 (k := (ac / 16) % 5) (p := 1 + (ac / 256) % 50) (by omega) (by omega) (by omega) hk.2.1 h24 (by omega) (Int32.not_lt.mp c_138)] at hx_156 hV_156
              have hV_156 : fb_CV v1772 r1773 (fc_addX A (nI ((ac / 16) % 5)) (nI (1 + (ac / 256) % 50))) _ := hV_156
              have hI_156 : fb_inj r1773 57 := hi57.congr hr58_156
              have hk_156 : fc_ok (fc_addX A (nI ((ac / 16) % 5)) (nI (1 + (ac / 256) % 50))) dy (cm + 1) bu (dy / 90) (kn + 1) := ((hk.new (kd := nI ((ac / 16) % 5)) (pg := nI (1 + (ac / 256) % 50)) ⟨_, by omega, by omega, rfl⟩ (by omega)).more (Nat.le_succ _))
              have e_156 : x1771 = nI (cm) := hx_156
              subst e_156
              refine lv_istore (lv' := [(8, .int (nI (cm))), (7, .int (nI (1))), (6, .int (nI (1 + ((ac / 256) % 50)))), (5, .int (nI (cm))), (0, .ref (fa_B G + (0))), (1, .int (nI (ac))), (2, .int (nI (fi))), (3, .int (nI (ho))), (4, .int ((-1 : Int32)))]) hx hb dL_acts_159 hl (by decide) rfl (fun ls hl => ?_)
              refine lv_iload hx hb dL_acts_161 (lv_at hl 1 rfl) ?_
              refine lv_if_eq (tgt := 219) hx hb dL_acts_163 (by decide) (fun c_163 => ?_) (fun c_163 => ?_)
              · exact absurd c_163 (by try decide)
              · refine lv_iload hx hb dL_acts_166 (lv_at hl 0 rfl) ?_
                refine lv_iload hx hb dL_acts_168 (lv_at hl 3 rfl) ?_
                refine lv_icmp_ne (tgt := 215) hx hb dL_acts_170 (by decide) (fun c_170 => ?_) (fun c_170 => ?_)
                · exact absurd rfl c_170
                · refine lv_aload_n hx hb dL_acts_173 rfl (lv_at hl 4 rfl) ?_
                  refine lv_iload hx hb dL_acts_174 (lv_at hl 0 rfl) ?_
                  refine lv_iconst (v := nI (1)) hx hb dL_acts_176 (by decide) ?_
                  refine fa_callVip (As := [.int (nI (cm)), .int (nI (1))]) (rest := []) CX HX1774 (g_file l G n hn v1772 r1773 hC_v1772 (nI (cm)) (nI (1))) ln_L_9 (by omega) rfl rfl rfl rfl (Nat.le_of_ble_eq_true rfl) hl.1 ⟨Nat.le_of_ble_eq_true rfl, Nat.le_of_ble_eq_true rfl⟩ ⟨Nat.le_refl _, Nat.le_refl _⟩ dL_acts_177 (fun x1776 H locs h1775 HX1777 => ?_)
                  have h_file := h1775
                  have e_177 : x1776 = nI (1 + (ac / 256) % 50) := (((h_file (fc_addX A (nI ((ac / 16) % 5)) (nI (1 + (ac / 256) % 50))) hV_156.1 hV_156.2.2.1).trans (fc_addQ hV_156.1 hk.2.1)).trans ((fb_filP_1 (by decide)).trans fc_addF))
                  subst e_177
                  refine lv_iload hx hb dL_acts_180 (lv_at hl 2 rfl) ?_
                  refine lv_icmp_ne (tgt := 215) hx hb dL_acts_182 (by decide) (fun c_182 => ?_) (fun c_182 => ?_)
                  · exact absurd rfl c_182
                  · refine lv_aload_n hx hb dL_acts_185 rfl (lv_at hl 4 rfl) ?_
                    refine lv_iload hx hb dL_acts_186 (lv_at hl 0 rfl) ?_
                    refine lv_iconst (v := nI (2)) hx hb dL_acts_188 (by decide) ?_
                    refine fa_callVip (As := [.int (nI (cm)), .int (nI (2))]) (rest := []) CX HX1777 (g_file l G n hn v1772 r1773 hC_v1772 (nI (cm)) (nI (2))) ln_L_9 (by omega) rfl rfl rfl rfl (Nat.le_of_ble_eq_true rfl) hl.1 ⟨Nat.le_of_ble_eq_true rfl, Nat.le_of_ble_eq_true rfl⟩ ⟨Nat.le_refl _, Nat.le_refl _⟩ dL_acts_189 (fun x1779 H locs h1778 HX1780 => ?_)
                    have h_file := h1778
                    have e_189 : x1779 = nI (dy) := ((((h_file (fc_addX A (nI ((ac / 16) % 5)) (nI (1 + (ac / 256) % 50))) hV_156.1 hV_156.2.2.1).trans (fc_addQ hV_156.1 hk.2.1)).trans ((fb_filP_2 (by decide)).trans fc_addF)).trans hk.1)
                    subst e_189
                    refine lv_aload_n hx hb dL_acts_192 rfl (lv_at hl 4 rfl) ?_
                    refine fa_callVip (As := []) (rest := [.int (nI (dy))]) CX HX1780 (g_now l G n hn v1772 r1773 hC_v1772 ) ln_L_31 (by omega) rfl rfl rfl rfl (Nat.le_of_ble_eq_true rfl) hl.1 ⟨Nat.le_of_ble_eq_true rfl, Nat.le_of_ble_eq_true rfl⟩ ⟨Nat.le_refl _, Nat.le_refl _⟩ dL_acts_193 (fun x1782 H locs h1781 HX1783 => ?_)
                    have h_now := h1781
                    have e_193 : x1782 = nI (dy) := ((h_now.trans hV_156.2.2.1.now).trans hk_156.1)
                    subst e_193
                    refine lv_icmp_ne (tgt := 215) hx hb dL_acts_196 (by decide) (fun c_196 => ?_) (fun c_196 => ?_)
                    · exact absurd rfl c_196
                    · refine lv_aload_n hx hb dL_acts_199 rfl (lv_at hl 4 rfl) ?_
                      refine lv_iload hx hb dL_acts_200 (lv_at hl 0 rfl) ?_
                      refine lv_iconst (v := nI (3)) hx hb dL_acts_202 (by decide) ?_
                      refine fa_callVip (As := [.int (nI (cm)), .int (nI (3))]) (rest := []) CX HX1783 (g_file l G n hn v1772 r1773 hC_v1772 (nI (cm)) (nI (3))) ln_L_9 (by omega) rfl rfl rfl rfl (Nat.le_of_ble_eq_true rfl) hl.1 ⟨Nat.le_of_ble_eq_true rfl, Nat.le_of_ble_eq_true rfl⟩ ⟨Nat.le_refl _, Nat.le_refl _⟩ dL_acts_203 (fun x1785 H locs h1784 HX1786 => ?_)
                      have h_file := h1784
                      have e_203 : x1785 = (-6 : Int32) := ((((h_file (fc_addX A (nI ((ac / 16) % 5)) (nI (1 + (ac / 256) % 50))) hV_156.1 hV_156.2.2.1).trans (fc_addQ hV_156.1 hk.2.1)).trans (fb_filP_3 (by decide))).trans (by rw [fc_addF]; decide))
                      subst e_203
                      refine lv_bipush (v := (-6 : Int32)) hx hb dL_acts_206 (by decide) ?_
                      refine lv_icmp_ne (tgt := 215) hx hb dL_acts_208 (by decide) (fun c_208 => ?_) (fun c_208 => ?_)
                      · exact absurd (by try decide) c_208
                      · refine lv_iconst (v := nI (1)) hx hb dL_acts_211 (by decide) ?_
                        refine lv_goto (tgt := 231) hx hb dL_acts_212 (by decide) ?_
                        exact RET _ _ _ _ _ _ _ HX1786 dL_acts_231 (by decide) (⟨⟨rfl, (fc_addX A (nI ((ac / 16) % 5)) (nI (1 + (ac / 256) % 50))), _, dy, cm + 1, bu, hV_156, hk_156.more (Nat.le_refl _), ⟨by omega, by omega, by omega, by omega⟩, hI_156⟩, hC_v1772, (fa_fr.tr fa_fr.rf (fa_fr.wide h1770.2.2.1 (by omega) (by omega))), (fun k hk => ((h1770.2.2.2 k hk).trans rfl))⟩)
        have JOIN_232 : ∀  (H : Heap) (locs : List Loc) (ls : Array Slot), (True) → lv_has ls 34 [(0, .ref (fa_B G + (0))), (1, .int (nI (ac))), (2, .int (nI (fi))), (3, .int (nI (ho))), (4, .int ((-1 : Int32)))] → fa_HX G (n) v r s H locs → W p l e (fa_rm 8) s m args below meth c H locs (0) (0) Q (F0 m 232 ls []) := by
          intro  H locs ls hi_232 hl HX1787
          refine lv_aload_n hx hb dL_acts_232 rfl (lv_at hl 0 rfl) ?_
          refine lv_iload_n hx hb dL_acts_233 rfl (lv_at hl 2 rfl) ?_
          refine lv_iconst (v := nI (4)) hx hb dL_acts_234 (by decide) ?_
          refine fa_callVip (As := [.int (nI (fi)), .int (nI (4))]) (rest := []) CX HX1787 (g_file l G n hn v r hC (nI (fi)) (nI (4))) ln_L_9 (by omega) rfl rfl rfl rfl (Nat.le_of_ble_eq_true rfl) hl.1 ⟨Nat.le_of_ble_eq_true rfl, Nat.le_of_ble_eq_true rfl⟩ ⟨Nat.le_refl _, Nat.le_refl _⟩ dL_acts_235 (fun x1789 H locs h1788 HX1790 => ?_)
          have h_file := h1788
          have e_235 : x1789 = (-1 : Int32) := ((h_file A hV.1 hV.2.2.1).trans (fb_filA_n hno))
          subst e_235
          refine lv_istore (lv' := [(9, .int ((-1 : Int32))), (0, .ref (fa_B G + (0))), (1, .int (nI (ac))), (2, .int (nI (fi))), (3, .int (nI (ho))), (4, .int ((-1 : Int32)))]) hx hb dL_acts_238 hl (by decide) rfl (fun ls hl => ?_)
          refine lv_aload_n hx hb dL_acts_240 rfl (lv_at hl 1 rfl) ?_
          refine lv_bipush (v := nI (6)) hx hb dL_acts_241 (by decide) ?_
          refine fa_callVip (As := [.int (nI (6))]) (rest := []) CX HX1790 (g_count l G n hn v r hC (nI (6))) ln_L_15 (by omega) rfl rfl rfl rfl (Nat.le_of_ble_eq_true rfl) hl.1 ⟨Nat.le_of_ble_eq_true rfl, Nat.le_of_ble_eq_true rfl⟩ ⟨Nat.le_refl _, Nat.le_refl _⟩ dL_acts_243 (fun x1792 H locs h1791 HX1793 => ?_)
          have h_count := h1791
          have e_243 : x1792 = A.g 12 := ((h_count A hV.1 hV.2.2.1).trans (fb_cntA_6 (by decide)))
          subst e_243
          refine lv_istore (lv' := [(10, .int (A.g 12)), (9, .int ((-1 : Int32))), (0, .ref (fa_B G + (0))), (1, .int (nI (ac))), (2, .int (nI (fi))), (3, .int (nI (ho))), (4, .int ((-1 : Int32)))]) hx hb dL_acts_246 hl (by decide) rfl (fun ls hl => ?_)
          refine lv_aload_n hx hb dL_acts_248 rfl (lv_at hl 2 rfl) ?_
          refine lv_iconst (v := nI (5)) hx hb dL_acts_249 (by decide) ?_
          refine fa_callVip (As := [.int (nI (5))]) (rest := []) CX HX1793 (g_count l G n hn v r hC (nI (5))) ln_L_15 (by omega) rfl rfl rfl rfl (Nat.le_of_ble_eq_true rfl) hl.1 ⟨Nat.le_of_ble_eq_true rfl, Nat.le_of_ble_eq_true rfl⟩ ⟨Nat.le_refl _, Nat.le_refl _⟩ dL_acts_250 (fun x1795 H locs h1794 HX1796 => ?_)
          have h_count := h1794
          have e_250 : x1795 = A.g 11 := ((h_count A hV.1 hV.2.2.1).trans (fb_cntA_5 (by decide)))
          subst e_250
          refine lv_istore (lv' := [(11, .int (A.g 11)), (10, .int (A.g 12)), (9, .int ((-1 : Int32))), (0, .ref (fa_B G + (0))), (1, .int (nI (ac))), (2, .int (nI (fi))), (3, .int (nI (ho))), (4, .int ((-1 : Int32)))]) hx hb dL_acts_253 hl (by decide) rfl (fun ls hl => ?_)
          refine lv_aload_n hx hb dL_acts_255 rfl (lv_at hl 3 rfl) ?_
          refine lv_iload_n hx hb dL_acts_256 rfl (lv_at hl 5 rfl) ?_
          refine fa_callVi (As := [.int (nI (fi))]) (rest := []) CX HX1796 (g_ask5 l G n hn v r hC (nI (fi))) ln_L_47 (by omega) rfl rfl rfl rfl (Nat.le_of_ble_eq_true rfl) hl.1 ⟨Nat.le_of_ble_eq_true rfl, Nat.le_of_ble_eq_true rfl⟩ ⟨Nat.le_refl _, Nat.le_refl _⟩ dL_acts_257 (fun x1798 v1799 r1800 H locs h1797 HX1801 => ?_)
          dsimp only at h1797
          have hC_v1799 := h1797.2.1
          have h_ask5 := h1797.1
          obtain ⟨hr58_257, hac_257⟩ := h_ask5
          obtain ⟨hx_257, hV_257⟩ := hac_257 _ _ hV
          rw [fb_askA_n (fc_askC hk.2.1 hfi (by omega)) hno] at hx_257 hV_257
          have hV_257 : fb_CV v1799 r1800 (A.sg 12 (A.g 12 + nI 1)) _ := hV_257
          have hI_257 : fb_inj r1800 57 := hi57.congr hr58_257
          have hk_257 := hk.sgo (j := 12) (x := A.g 12 + nI 1) (by decide) (by decide)
          have e_257 : x1798 = (-6 : Int32) := hx_257
          subst e_257
          refine lv_istore (lv' := [(12, .int ((-6 : Int32))), (11, .int (A.g 11)), (10, .int (A.g 12)), (9, .int ((-1 : Int32))), (0, .ref (fa_B G + (0))), (1, .int (nI (ac))), (2, .int (nI (fi))), (3, .int (nI (ho))), (4, .int ((-1 : Int32)))]) hx hb dL_acts_260 hl (by decide) rfl (fun ls hl => ?_)
          refine lv_aload_n hx hb dL_acts_262 rfl (lv_at hl 4 rfl) ?_
          refine lv_iconst (v := nI (1)) hx hb dL_acts_263 (by decide) ?_
          refine fa_callVip (As := [.int (nI (1))]) (rest := []) CX HX1801 (g_count l G n hn v1799 r1800 hC_v1799 (nI (1))) ln_L_15 (by omega) rfl rfl rfl rfl (Nat.le_of_ble_eq_true rfl) hl.1 ⟨Nat.le_of_ble_eq_true rfl, Nat.le_of_ble_eq_true rfl⟩ ⟨Nat.le_refl _, Nat.le_refl _⟩ dL_acts_264 (fun x1803 H locs h1802 HX1804 => ?_)
          have h_count := h1802
          have e_264 : x1803 = nI (cm) := (((h_count (A.sg 12 (A.g 12 + nI 1)) hV_257.1 hV_257.2.2.1).trans (fb_cntA_1 (by decide))).trans hk_257.2.1)
          subst e_264
          refine lv_if_ne (tgt := 284) hx hb dL_acts_267 (by decide) (fun c_267 => ?_) (fun c_267 => ?_)
          · refine lv_iload hx hb dL_acts_284 (lv_at hl 8 rfl) ?_
            refine lv_if_ge (tgt := 317) hx hb dL_acts_286 (by decide) (fun c_286 => ?_) (fun c_286 => ?_)
            · exact absurd c_286 (by try decide)
            · refine lv_iload hx hb dL_acts_289 (lv_at hl 0 rfl) ?_
              refine lv_bipush (v := (-6 : Int32)) hx hb dL_acts_291 (by decide) ?_
              refine lv_icmp_ne (tgt := 313) hx hb dL_acts_293 (by decide) (fun c_293 => ?_) (fun c_293 => ?_)
              · exact absurd (by try decide) c_293
              · refine lv_aload_n hx hb dL_acts_296 rfl (lv_at hl 4 rfl) ?_
                refine lv_bipush (v := nI (6)) hx hb dL_acts_297 (by decide) ?_
                refine fa_callVip (As := [.int (nI (6))]) (rest := []) CX HX1804 (g_count l G n hn v1799 r1800 hC_v1799 (nI (6))) ln_L_15 (by omega) rfl rfl rfl rfl (Nat.le_of_ble_eq_true rfl) hl.1 ⟨Nat.le_of_ble_eq_true rfl, Nat.le_of_ble_eq_true rfl⟩ ⟨Nat.le_refl _, Nat.le_refl _⟩ dL_acts_299 (fun x1806 H locs h1805 HX1807 => ?_)
                have h_count := h1805
                have e_299 : x1806 = (A.sg 12 (A.g 12 + nI 1)).g 12 := ((h_count (A.sg 12 (A.g 12 + nI 1)) hV_257.1 hV_257.2.2.1).trans (fb_cntA_6 (by decide)))
                subst e_299
                refine lv_iload hx hb dL_acts_302 (lv_at hl 2 rfl) ?_
                refine lv_iconst (v := nI (1)) hx hb dL_acts_304 (by decide) ?_
                refine lv_iadd hx hb dL_acts_305 ?_
                refine lv_icmp_ne (tgt := 313) hx hb dL_acts_306 (by decide) (fun c_306 => ?_) (fun c_306 => ?_)
                · exact absurd (show (A.sg 12 (A.g 12 + nI 1)).g 12 = (A.g 12) + (nI (1)) from fb_s1_s _ _ _) c_306
                · refine lv_iconst (v := nI (1)) hx hb dL_acts_309 (by decide) ?_
                  refine lv_goto (tgt := 356) hx hb dL_acts_310 (by decide) ?_
                  exact RET _ _ _ _ _ _ _ HX1807 dL_acts_356 (by decide) (⟨⟨rfl, (A.sg 12 (A.g 12 + nI 1)), _, dy, cm, bu, hV_257, hk_257.more (Nat.le_succ _), ⟨by omega, by omega, by omega, by omega⟩, hI_257⟩, hC_v1799, (fa_fr.tr fa_fr.rf (fa_fr.wide h1797.2.2.1 (by omega) (by omega))), (fun k hk => ((h1797.2.2.2 k hk).trans rfl))⟩)
          · exact absurd (by first | exact c_267 | exact Decidable.not_not.mp c_267) (nI_ne0 (n := cm) (by omega) (by omega))
        by_cases c_42_0 : nI (ac % 12) = (0 : Int32)
        · refine lv_tableIn (off := 54) (tgt := 96) hx hb dL_acts_42 (by rw [c_42_0]; decide) (by rw [c_42_0]; decide) (by rw [c_42_0]; decide) (by decide) ?_
          exact JOIN_96   _ _ _ (trivial) (lv_sub hl [1, 2, 3, 4, 0] rfl) HX1746
        by_cases c_42_1 : nI (ac % 12) = (1 : Int32)
        · refine lv_tableIn (off := 54) (tgt := 96) hx hb dL_acts_42 (by rw [c_42_1]; decide) (by rw [c_42_1]; decide) (by rw [c_42_1]; decide) (by decide) ?_
          exact JOIN_96   _ _ _ (trivial) (lv_sub hl [1, 2, 3, 4, 0] rfl) HX1746
        by_cases c_42_2 : nI (ac % 12) = (2 : Int32)
        · refine lv_tableIn (off := 54) (tgt := 96) hx hb dL_acts_42 (by rw [c_42_2]; decide) (by rw [c_42_2]; decide) (by rw [c_42_2]; decide) (by decide) ?_
          exact JOIN_96   _ _ _ (trivial) (lv_sub hl [1, 2, 3, 4, 0] rfl) HX1746
        by_cases c_42_3 : nI (ac % 12) = (3 : Int32)
        · refine lv_tableIn (off := 190) (tgt := 232) hx hb dL_acts_42 (by rw [c_42_3]; decide) (by rw [c_42_3]; decide) (by rw [c_42_3]; decide) (by decide) ?_
          exact JOIN_232   _ _ _ (trivial) (lv_sub hl [1, 2, 3, 4, 0] rfl) HX1746
        by_cases c_42_4 : nI (ac % 12) = (4 : Int32)
        · refine lv_tableIn (off := 190) (tgt := 232) hx hb dL_acts_42 (by rw [c_42_4]; decide) (by rw [c_42_4]; decide) (by rw [c_42_4]; decide) (by decide) ?_
          exact JOIN_232   _ _ _ (trivial) (lv_sub hl [1, 2, 3, 4, 0] rfl) HX1746
        by_cases c_42_5 : nI (ac % 12) = (5 : Int32)
        · refine lv_tableIn (off := 315) (tgt := 357) hx hb dL_acts_42 (by rw [c_42_5]; decide) (by rw [c_42_5]; decide) (by rw [c_42_5]; decide) (by decide) ?_
          refine lv_iload_n hx hb dL_acts_357 rfl (lv_at hl 2 rfl) ?_
          refine lv_bipush (v := nI (12)) hx hb dL_acts_358 (by decide) ?_
          refine lv_ishr hx hb dL_acts_360 ?_
          rw [show (nI (ac)) >>> ((nI (12)) &&& 31) = nI (ac / 4096) from fc_shr (k := 12) (by omega) (by decide)]
          refine lv_iconst (v := nI (3)) hx hb dL_acts_361 (by decide) ?_
          refine lv_irem hx hb dL_acts_362 (by decide) ?_
          rw [show (nI (ac / 4096)) - (nI (ac / 4096)) / (nI (3)) * (nI (3)) = nI ((ac / 4096) % 3) from pk_rem (by omega) (by decide) (by omega)]
          have JOIN_385 : ∀ (la : Int32) (yy : Int32) (le : Nat) (H : Heap) (locs : List Loc) (ls : Array Slot), (fc_la dy la yy le) → lv_has ls 34 [(0, .ref (fa_B G + (0))), (1, .int (nI (ac))), (2, .int (nI (fi))), (3, .int (nI (ho))), (4, .int ((-1 : Int32))), (13, .int (la))] → fa_HX G (n) v r s H locs → W p l e (fa_rm 8) s m args below meth c H locs (0) (0) Q (F0 m 385 ls []) := by
            intro la yy le H locs ls hi_385 hl HX1808
            refine lv_aload_n hx hb dL_acts_385 rfl (lv_at hl 0 rfl) ?_
            refine lv_iload_n hx hb dL_acts_386 rfl (lv_at hl 3 rfl) ?_
            refine lv_iload_n hx hb dL_acts_387 rfl (lv_at hl 2 rfl) ?_
            refine lv_iload hx hb dL_acts_388 (lv_at hl 5 rfl) ?_
            refine fa_callVi (As := [.int (nI (ho)), .int (nI (fi)), .int (la)]) (rest := []) CX HX1808 (g_seal5 l G n hn v r hC (nI (ho)) (nI (fi)) (la)) ln_L_50 (by omega) rfl rfl rfl rfl (Nat.le_of_ble_eq_true rfl) hl.1 ⟨Nat.le_of_ble_eq_true rfl, Nat.le_of_ble_eq_true rfl⟩ ⟨Nat.le_refl _, Nat.le_refl _⟩ dL_acts_390 (fun x1810 v1811 r1812 H locs h1809 HX1813 => ?_)
            dsimp only at h1809
            have hC_v1811 := h1809.2.1
            have h_seal5 := h1809.1
            obtain ⟨hr58_390, hac_390⟩ := h_seal5
            obtain ⟨hx_390, hV_390⟩ := hac_390 _ _ hV
            rw [fb_sealA_n hno] at hx_390 hV_390
            have hV_390 : fb_CV v1811 r1812 A _ := hV_390
            have hI_390 : fb_inj r1812 57 := hi57.congr hr58_390
            have hk_390 := hk
            have e_390 : x1810 = (-1 : Int32) := hx_390
            subst e_390
            refine lv_istore (lv' := [(14, .int ((-1 : Int32))), (0, .ref (fa_B G + (0))), (1, .int (nI (ac))), (2, .int (nI (fi))), (3, .int (nI (ho))), (4, .int ((-1 : Int32))), (13, .int (la))]) hx hb dL_acts_393 hl (by decide) rfl (fun ls hl => ?_)
            refine lv_iload hx hb dL_acts_395 (lv_at hl 5 rfl) ?_
            refine lv_if_ge (tgt := 414) hx hb dL_acts_397 (by decide) (fun c_397 => ?_) (fun c_397 => ?_)
            · exact absurd c_397 (by try decide)
            · refine lv_iload hx hb dL_acts_400 (lv_at hl 0 rfl) ?_
              refine lv_iconst (v := (-1 : Int32)) hx hb dL_acts_402 (by decide) ?_
              refine lv_icmp_ne (tgt := 410) hx hb dL_acts_403 (by decide) (fun c_403 => ?_) (fun c_403 => ?_)
              · exact absurd (by try decide) c_403
              · refine lv_iconst (v := nI (1)) hx hb dL_acts_406 (by decide) ?_
                refine lv_goto (tgt := 469) hx hb dL_acts_407 (by decide) ?_
                exact RET _ _ _ _ _ _ _ HX1813 dL_acts_469 (by decide) (⟨⟨rfl, A, _, dy, cm, bu, hV_390, hk_390.more (Nat.le_succ _), ⟨by omega, by omega, by omega, by omega⟩, hI_390⟩, hC_v1811, (fa_fr.tr fa_fr.rf (fa_fr.wide h1809.2.2.1 (by omega) (by omega))), (fun k hk => ((h1809.2.2.2 k hk).trans rfl))⟩)
          refine lv_if_ne (tgt := 370) hx hb dL_acts_363 (by decide) (fun c_363 => ?_) (fun c_363 => ?_)
          · refine lv_aload_n hx hb dL_acts_370 rfl (lv_at hl 1 rfl) ?_
            refine fa_callVip (As := []) (rest := []) CX HX1746 (g_now l G n hn v r hC ) ln_L_31 (by omega) rfl rfl rfl rfl (Nat.le_of_ble_eq_true rfl) hl.1 ⟨Nat.le_of_ble_eq_true rfl, Nat.le_of_ble_eq_true rfl⟩ ⟨Nat.le_refl _, Nat.le_refl _⟩ dL_acts_371 (fun x1815 H locs h1814 HX1816 => ?_)
            have h_now := h1814
            have e_371 : x1815 = nI (dy) := ((h_now.trans hV.2.2.1.now).trans hk.1)
            subst e_371
            refine lv_iload_n hx hb dL_acts_374 rfl (lv_at hl 2 rfl) ?_
            refine lv_bipush (v := nI (12)) hx hb dL_acts_375 (by decide) ?_
            refine lv_ishr hx hb dL_acts_377 ?_
            rw [show (nI (ac)) >>> ((nI (12)) &&& 31) = nI (ac / 4096) from fc_shr (k := 12) (by omega) (by decide)]
            refine lv_sipush (v := nI (300)) hx hb dL_acts_378 (by decide) ?_
            refine lv_irem hx hb dL_acts_381 (by decide) ?_
            rw [show (nI (ac / 4096)) - (nI (ac / 4096)) / (nI (300)) * (nI (300)) = nI ((ac / 4096) % 300) from pk_rem (by omega) (by decide) (by omega)]
            refine fa_iaddN hx hb dL_acts_382 ?_
            refine lv_istore (lv' := [(13, .int (nI (dy + ((ac / 4096) % 300)))), (4, .int ((-1 : Int32))), (0, .ref (fa_B G + (0))), (1, .int (nI (ac))), (2, .int (nI (fi))), (3, .int (nI (ho)))]) hx hb dL_acts_383 hl (by decide) rfl (fun ls hl => ?_)
            exact JOIN_385 (nI (dy + ((ac / 4096) % 300))) (nI (dy + ((ac / 4096) % 300) + 1)) (dy + ((ac / 4096) % 300))  _ _ _ (⟨rfl, Or.inr ⟨rfl, by omega, by omega⟩⟩) (lv_sub hl [2, 3, 4, 5, 1, 0] rfl) HX1816
          · refine lv_iconst (v := (-1 : Int32)) hx hb dL_acts_366 (by decide) ?_
            refine lv_goto (tgt := 383) hx hb dL_acts_367 (by decide) ?_
            refine lv_istore (lv' := [(13, .int ((-1 : Int32))), (4, .int ((-1 : Int32))), (0, .ref (fa_B G + (0))), (1, .int (nI (ac))), (2, .int (nI (fi))), (3, .int (nI (ho)))]) hx hb dL_acts_383 hl (by decide) rfl (fun ls hl => ?_)
            exact JOIN_385 ((-1 : Int32)) (nI 10001) (10000)  _ _ _ (⟨rfl, Or.inl ⟨rfl, rfl⟩⟩) (lv_sub hl [2, 3, 4, 5, 1, 0] rfl) HX1746
        by_cases c_42_6 : nI (ac % 12) = (6 : Int32)
        · refine lv_tableIn (off := 428) (tgt := 470) hx hb dL_acts_42 (by rw [c_42_6]; decide) (by rw [c_42_6]; decide) (by rw [c_42_6]; decide) (by decide) ?_
          refine lv_aload_n hx hb dL_acts_470 rfl (lv_at hl 1 rfl) ?_
          refine lv_iload_n hx hb dL_acts_471 rfl (lv_at hl 4 rfl) ?_
          refine lv_iload_n hx hb dL_acts_472 rfl (lv_at hl 3 rfl) ?_
          refine fa_callVip (As := [.int (nI (ho)), .int (nI (fi))]) (rest := []) CX HX1746 (g_sealOf l G n hn v r hC (nI (ho)) (nI (fi))) ln_L_28 (by omega) rfl rfl rfl rfl (Nat.le_of_ble_eq_true rfl) hl.1 ⟨Nat.le_of_ble_eq_true rfl, Nat.le_of_ble_eq_true rfl⟩ ⟨Nat.le_refl _, Nat.le_refl _⟩ dL_acts_473 (fun x1818 H locs h1817 HX1819 => ?_)
          have h_sealOf := h1817
          have e_473 : x1818 = (-1 : Int32) := ((h_sealOf A hV.1 hV.2.2.1).trans (fb_sloA_n hno))
          subst e_473
          refine lv_istore (lv' := [(15, .int ((-1 : Int32))), (4, .int ((-1 : Int32))), (0, .ref (fa_B G + (0))), (1, .int (nI (ac))), (2, .int (nI (fi))), (3, .int (nI (ho)))]) hx hb dL_acts_476 hl (by decide) rfl (fun ls hl => ?_)
          refine lv_aload_n hx hb dL_acts_478 rfl (lv_at hl 2 rfl) ?_
          refine lv_iload_n hx hb dL_acts_479 rfl (lv_at hl 5 rfl) ?_
          refine lv_iload_n hx hb dL_acts_480 rfl (lv_at hl 4 rfl) ?_
          refine fa_callVi (As := [.int (nI (ho)), .int (nI (fi))]) (rest := []) CX HX1819 (g_lift5 l G n hn v r hC (nI (ho)) (nI (fi))) ln_L_54 (by omega) rfl rfl rfl rfl (Nat.le_of_ble_eq_true rfl) hl.1 ⟨Nat.le_of_ble_eq_true rfl, Nat.le_of_ble_eq_true rfl⟩ ⟨Nat.le_refl _, Nat.le_refl _⟩ dL_acts_481 (fun x1821 v1822 r1823 H locs h1820 HX1824 => ?_)
          dsimp only at h1820
          have hC_v1822 := h1820.2.1
          have h_lift5 := h1820.1
          obtain ⟨hr58_481, hac_481⟩ := h_lift5
          obtain ⟨hx_481, hV_481⟩ := hac_481 _ _ hV
          rw [fb_liftA_n hno] at hx_481 hV_481
          have hV_481 : fb_CV v1822 r1823 A _ := hV_481
          have hI_481 : fb_inj r1823 57 := hi57.congr hr58_481
          have hk_481 := hk
          have e_481 : x1821 = (-1 : Int32) := hx_481
          subst e_481
          refine lv_istore (lv' := [(16, .int ((-1 : Int32))), (15, .int ((-1 : Int32))), (4, .int ((-1 : Int32))), (0, .ref (fa_B G + (0))), (1, .int (nI (ac))), (2, .int (nI (fi))), (3, .int (nI (ho)))]) hx hb dL_acts_484 hl (by decide) rfl (fun ls hl => ?_)
          refine lv_iload hx hb dL_acts_486 (lv_at hl 1 rfl) ?_
          refine lv_if_ge (tgt := 505) hx hb dL_acts_488 (by decide) (fun c_488 => ?_) (fun c_488 => ?_)
          · exact absurd c_488 (by try decide)
          · refine lv_iload hx hb dL_acts_491 (lv_at hl 0 rfl) ?_
            refine lv_iconst (v := (-1 : Int32)) hx hb dL_acts_493 (by decide) ?_
            refine lv_icmp_ne (tgt := 501) hx hb dL_acts_494 (by decide) (fun c_494 => ?_) (fun c_494 => ?_)
            · exact absurd (by try decide) c_494
            · refine lv_iconst (v := nI (1)) hx hb dL_acts_497 (by decide) ?_
              refine lv_goto (tgt := 526) hx hb dL_acts_498 (by decide) ?_
              exact RET _ _ _ _ _ _ _ HX1824 dL_acts_526 (by decide) (⟨⟨rfl, A, _, dy, cm, bu, hV_481, hk_481.more (Nat.le_succ _), ⟨by omega, by omega, by omega, by omega⟩, hI_481⟩, hC_v1822, (fa_fr.tr fa_fr.rf (fa_fr.wide h1820.2.2.1 (by omega) (by omega))), (fun k hk => ((h1820.2.2.2 k hk).trans rfl))⟩)
        by_cases c_42_7 : nI (ac % 12) = (7 : Int32)
        · refine lv_tableIn (off := 485) (tgt := 527) hx hb dL_acts_42 (by rw [c_42_7]; decide) (by rw [c_42_7]; decide) (by rw [c_42_7]; decide) (by decide) ?_
          refine lv_aload_n hx hb dL_acts_527 rfl (lv_at hl 1 rfl) ?_
          refine lv_iconst (v := nI (1)) hx hb dL_acts_528 (by decide) ?_
          refine fa_callVip (As := [.int (nI (1))]) (rest := []) CX HX1746 (g_count l G n hn v r hC (nI (1))) ln_L_15 (by omega) rfl rfl rfl rfl (Nat.le_of_ble_eq_true rfl) hl.1 ⟨Nat.le_of_ble_eq_true rfl, Nat.le_of_ble_eq_true rfl⟩ ⟨Nat.le_refl _, Nat.le_refl _⟩ dL_acts_529 (fun x1826 H locs h1825 HX1827 => ?_)
          have h_count := h1825
          have e_529 : x1826 = nI (cm) := (((h_count A hV.1 hV.2.2.1).trans (fb_cntA_1 (by decide))).trans hk.2.1)
          subst e_529
          have JOIN_551 : ∀ (ta : Nat) (H : Heap) (locs : List Loc) (ls : Array Slot), (ta < cm ∨ (cm = 0 ∧ ta = 0)) → lv_has ls 34 [(0, .ref (fa_B G + (0))), (1, .int (nI (ac))), (2, .int (nI (fi))), (3, .int (nI (ho))), (4, .int ((-1 : Int32))), (17, .int (nI (ta)))] → fa_HX G (n) v r s H locs → W p l e (fa_rm 8) s m args below meth c H locs (0) (0) Q (F0 m 551 ls []) := by
            intro ta H locs ls hi_551 hl HX1828
            rcases fc_split (A := A) (nI ta) with hnt | ⟨tp, htp, etp⟩
            · have hnt2 := hnt
              refine lv_iload hx hb dL_acts_551 (lv_at hl 4 rfl) ?_
              refine lv_if_lt (tgt := 570) hx hb dL_acts_553 (by decide) (fun c_553 => ?_) (fun c_553 => ?_)
              · refine lv_iconst (v := nI (0)) hx hb dL_acts_570 (by decide) ?_
                refine lv_istore (lv' := [(18, .int (nI (0))), (0, .ref (fa_B G + (0))), (1, .int (nI (ac))), (2, .int (nI (fi))), (3, .int (nI (ho))), (4, .int ((-1 : Int32))), (17, .int (nI (ta)))]) hx hb dL_acts_571 hl (by decide) rfl (fun ls hl => ?_)
                refine lv_aload_n hx hb dL_acts_573 rfl (lv_at hl 1 rfl) ?_
                refine lv_iload_n hx hb dL_acts_574 rfl (lv_at hl 3 rfl) ?_
                refine lv_iload hx hb dL_acts_575 (lv_at hl 6 rfl) ?_
                refine fa_callVi (As := [.int (nI (fi)), .int (nI (ta))]) (rest := []) CX HX1828 (g_refer5 l G n hn v r hC (nI (fi)) (nI (ta))) ln_L_57 (by omega) rfl rfl rfl rfl (Nat.le_of_ble_eq_true rfl) hl.1 ⟨Nat.le_of_ble_eq_true rfl, Nat.le_of_ble_eq_true rfl⟩ ⟨Nat.le_refl _, Nat.le_refl _⟩ dL_acts_577 (fun x1830 v1831 r1832 H locs h1829 HX1833 => ?_)
                dsimp only at h1829
                have hC_v1831 := h1829.2.1
                have h_refer5 := h1829.1
                obtain ⟨hr58_577, hac_577⟩ := h_refer5
                obtain ⟨hx_577, hV_577⟩ := hac_577 _ _ hV
                rw [fb_refA_n hno] at hx_577 hV_577
                have hV_577 : fb_CV v1831 r1832 A _ := hV_577
                have hI_577 : fb_inj r1832 57 := hi57.congr hr58_577
                have hk_577 := hk
                have e_577 : x1830 = (-1 : Int32) := hx_577
                subst e_577
                refine lv_istore (lv' := [(19, .int ((-1 : Int32))), (18, .int (nI (0))), (0, .ref (fa_B G + (0))), (1, .int (nI (ac))), (2, .int (nI (fi))), (3, .int (nI (ho))), (4, .int ((-1 : Int32))), (17, .int (nI (ta)))]) hx hb dL_acts_580 hl (by decide) rfl (fun ls hl => ?_)
                refine lv_iload hx hb dL_acts_582 (lv_at hl 1 rfl) ?_
                refine lv_if_eq (tgt := 619) hx hb dL_acts_584 (by decide) (fun c_584 => ?_) (fun c_584 => ?_)
                · refine lv_iload hx hb dL_acts_619 (lv_at hl 0 rfl) ?_
                  refine lv_iconst (v := (-1 : Int32)) hx hb dL_acts_621 (by decide) ?_
                  refine lv_icmp_ne (tgt := 629) hx hb dL_acts_622 (by decide) (fun c_622 => ?_) (fun c_622 => ?_)
                  · exact absurd (by try decide) c_622
                  · refine lv_iconst (v := nI (1)) hx hb dL_acts_625 (by decide) ?_
                    refine lv_goto (tgt := 630) hx hb dL_acts_626 (by decide) ?_
                    exact RET _ _ _ _ _ _ _ HX1833 dL_acts_630 (by decide) (⟨⟨rfl, A, _, dy, cm, bu, hV_577, hk_577.more (Nat.le_succ _), ⟨by omega, by omega, by omega, by omega⟩, hI_577⟩, hC_v1831, (fa_fr.tr fa_fr.rf (fa_fr.wide h1829.2.2.1 (by omega) (by omega))), (fun k hk => ((h1829.2.2.2 k hk).trans rfl))⟩)
                · exact absurd (by try decide) c_584
              · exact absurd (by try decide) c_553
            · have eti := fc_ixE hok htp etp
              obtain ⟨kt, hkt, ekt⟩ := (hok.1.2.2.2.2.2 tp htp).1
              refine lv_iload hx hb dL_acts_551 (lv_at hl 4 rfl) ?_
              refine lv_if_lt (tgt := 570) hx hb dL_acts_553 (by decide) (fun c_553 => ?_) (fun c_553 => ?_)
              · refine lv_iconst (v := nI (0)) hx hb dL_acts_570 (by decide) ?_
                refine lv_istore (lv' := [(18, .int (nI (0))), (0, .ref (fa_B G + (0))), (1, .int (nI (ac))), (2, .int (nI (fi))), (3, .int (nI (ho))), (4, .int ((-1 : Int32))), (17, .int (nI (ta)))]) hx hb dL_acts_571 hl (by decide) rfl (fun ls hl => ?_)
                refine lv_aload_n hx hb dL_acts_573 rfl (lv_at hl 1 rfl) ?_
                refine lv_iload_n hx hb dL_acts_574 rfl (lv_at hl 3 rfl) ?_
                refine lv_iload hx hb dL_acts_575 (lv_at hl 6 rfl) ?_
                refine fa_callVi (As := [.int (nI (fi)), .int (nI (ta))]) (rest := []) CX HX1828 (g_refer5 l G n hn v r hC (nI (fi)) (nI (ta))) ln_L_57 (by omega) rfl rfl rfl rfl (Nat.le_of_ble_eq_true rfl) hl.1 ⟨Nat.le_of_ble_eq_true rfl, Nat.le_of_ble_eq_true rfl⟩ ⟨Nat.le_refl _, Nat.le_refl _⟩ dL_acts_577 (fun x1835 v1836 r1837 H locs h1834 HX1838 => ?_)
                dsimp only at h1834
                have hC_v1836 := h1834.2.1
                have h_refer5 := h1834.1
                obtain ⟨hr58_577, hac_577⟩ := h_refer5
                obtain ⟨hx_577, hV_577⟩ := hac_577 _ _ hV
                rw [fb_refA_n hno] at hx_577 hV_577
                have hV_577 : fb_CV v1836 r1837 A _ := hV_577
                have hI_577 : fb_inj r1837 57 := hi57.congr hr58_577
                have hk_577 := hk
                have e_577 : x1835 = (-1 : Int32) := hx_577
                subst e_577
                refine lv_istore (lv' := [(19, .int ((-1 : Int32))), (18, .int (nI (0))), (0, .ref (fa_B G + (0))), (1, .int (nI (ac))), (2, .int (nI (fi))), (3, .int (nI (ho))), (4, .int ((-1 : Int32))), (17, .int (nI (ta)))]) hx hb dL_acts_580 hl (by decide) rfl (fun ls hl => ?_)
                refine lv_iload hx hb dL_acts_582 (lv_at hl 1 rfl) ?_
                refine lv_if_eq (tgt := 619) hx hb dL_acts_584 (by decide) (fun c_584 => ?_) (fun c_584 => ?_)
                · refine lv_iload hx hb dL_acts_619 (lv_at hl 0 rfl) ?_
                  refine lv_iconst (v := (-1 : Int32)) hx hb dL_acts_621 (by decide) ?_
                  refine lv_icmp_ne (tgt := 629) hx hb dL_acts_622 (by decide) (fun c_622 => ?_) (fun c_622 => ?_)
                  · exact absurd (by try decide) c_622
                  · refine lv_iconst (v := nI (1)) hx hb dL_acts_625 (by decide) ?_
                    refine lv_goto (tgt := 630) hx hb dL_acts_626 (by decide) ?_
                    exact RET _ _ _ _ _ _ _ HX1838 dL_acts_630 (by decide) (⟨⟨rfl, A, _, dy, cm, bu, hV_577, hk_577.more (Nat.le_succ _), ⟨by omega, by omega, by omega, by omega⟩, hI_577⟩, hC_v1836, (fa_fr.tr fa_fr.rf (fa_fr.wide h1834.2.2.1 (by omega) (by omega))), (fun k hk => ((h1834.2.2.2 k hk).trans rfl))⟩)
                · exact absurd (by try decide) c_584
              · exact absurd (by try decide) c_553
          refine lv_if_ne (tgt := 539) hx hb dL_acts_532 (by decide) (fun c_532 => ?_) (fun c_532 => ?_)
          · have hcm1 : 0 < cm := by
              refine Nat.pos_of_ne_zero (fun z => c_532 ?_)
              rw [z]; decide
            refine lv_iload_n hx hb dL_acts_539 rfl (lv_at hl 2 rfl) ?_
            refine lv_bipush (v := nI (12)) hx hb dL_acts_540 (by decide) ?_
            refine lv_ishr hx hb dL_acts_542 ?_
            rw [show (nI (ac)) >>> ((nI (12)) &&& 31) = nI (ac / 4096) from fc_shr (k := 12) (by omega) (by decide)]
            refine lv_aload_n hx hb dL_acts_543 rfl (lv_at hl 1 rfl) ?_
            refine lv_iconst (v := nI (1)) hx hb dL_acts_544 (by decide) ?_
            refine fa_callVip (As := [.int (nI (1))]) (rest := [.int (nI (ac / 4096))]) CX HX1827 (g_count l G n hn v r hC (nI (1))) ln_L_15 (by omega) rfl rfl rfl rfl (Nat.le_of_ble_eq_true rfl) hl.1 ⟨Nat.le_of_ble_eq_true rfl, Nat.le_of_ble_eq_true rfl⟩ ⟨Nat.le_refl _, Nat.le_refl _⟩ dL_acts_545 (fun x1840 H locs h1839 HX1841 => ?_)
            have h_count := h1839
            have e_545 : x1840 = nI (cm) := (((h_count A hV.1 hV.2.2.1).trans (fb_cntA_1 (by decide))).trans hk.2.1)
            subst e_545
            refine lv_irem hx hb dL_acts_548 (nI_ne0 hcm1 (by omega)) ?_
            rw [show (nI (ac / 4096)) - (nI (ac / 4096)) / (nI (cm)) * (nI (cm)) = nI ((ac / 4096) % cm) from pk_rem (by omega) hcm1 (by omega)]
            refine lv_istore (lv' := [(17, .int (nI ((ac / 4096) % cm))), (4, .int ((-1 : Int32))), (0, .ref (fa_B G + (0))), (1, .int (nI (ac))), (2, .int (nI (fi))), (3, .int (nI (ho)))]) hx hb dL_acts_549 hl (by decide) rfl (fun ls hl => ?_)
            exact JOIN_551 ((ac / 4096) % cm)  _ _ _ (Or.inl (Nat.mod_lt _ hcm1)) (lv_sub hl [2, 3, 4, 5, 1, 0] rfl) HX1841
          · have hcm1 : cm = 0 := fa_nIinj (by omega) (by decide) (by first | exact c_532 | exact Decidable.not_not.mp c_532)
            refine lv_iconst (v := nI (0)) hx hb dL_acts_535 (by decide) ?_
            refine lv_goto (tgt := 549) hx hb dL_acts_536 (by decide) ?_
            refine lv_istore (lv' := [(17, .int (nI (0))), (4, .int ((-1 : Int32))), (0, .ref (fa_B G + (0))), (1, .int (nI (ac))), (2, .int (nI (fi))), (3, .int (nI (ho)))]) hx hb dL_acts_549 hl (by decide) rfl (fun ls hl => ?_)
            exact JOIN_551 (0)  _ _ _ (Or.inr ⟨hcm1, rfl⟩) (lv_sub hl [2, 3, 4, 5, 1, 0] rfl) HX1827
        by_cases c_42_8 : nI (ac % 12) = (8 : Int32)
        · refine lv_tableIn (off := 589) (tgt := 631) hx hb dL_acts_42 (by rw [c_42_8]; decide) (by rw [c_42_8]; decide) (by rw [c_42_8]; decide) (by decide) ?_
          refine lv_aload_n hx hb dL_acts_631 rfl (lv_at hl 1 rfl) ?_
          refine fa_callVip (As := []) (rest := []) CX HX1746 (g_now l G n hn v r hC ) ln_L_31 (by omega) rfl rfl rfl rfl (Nat.le_of_ble_eq_true rfl) hl.1 ⟨Nat.le_of_ble_eq_true rfl, Nat.le_of_ble_eq_true rfl⟩ ⟨Nat.le_refl _, Nat.le_refl _⟩ dL_acts_632 (fun x1843 H locs h1842 HX1844 => ?_)
          have h_now := h1842
          have e_632 : x1843 = nI (dy) := ((h_now.trans hV.2.2.1.now).trans hk.1)
          subst e_632
          refine lv_iconst (v := nI (1)) hx hb dL_acts_635 (by decide) ?_
          refine fa_iaddN hx hb dL_acts_636 ?_
          refine lv_iload_n hx hb dL_acts_637 rfl (lv_at hl 2 rfl) ?_
          refine lv_bipush (v := nI (9)) hx hb dL_acts_638 (by decide) ?_
          refine lv_ishr hx hb dL_acts_640 ?_
          rw [show (nI (ac)) >>> ((nI (9)) &&& 31) = nI (ac / 512) from fc_shr (k := 9) (by omega) (by decide)]
          refine lv_sipush (v := nI (200)) hx hb dL_acts_641 (by decide) ?_
          refine lv_irem hx hb dL_acts_644 (by decide) ?_
          rw [show (nI (ac / 512)) - (nI (ac / 512)) / (nI (200)) * (nI (200)) = nI ((ac / 512) % 200) from pk_rem (by omega) (by decide) (by omega)]
          refine fa_iaddN hx hb dL_acts_645 ?_
          refine lv_istore (lv' := [(20, .int (nI (dy + 1 + ((ac / 512) % 200)))), (4, .int ((-1 : Int32))), (0, .ref (fa_B G + (0))), (1, .int (nI (ac))), (2, .int (nI (fi))), (3, .int (nI (ho)))]) hx hb dL_acts_646 hl (by decide) rfl (fun ls hl => ?_)
          refine lv_aload_n hx hb dL_acts_648 rfl (lv_at hl 2 rfl) ?_
          refine lv_bipush (v := nI (8)) hx hb dL_acts_649 (by decide) ?_
          refine fa_callVip (As := [.int (nI (8))]) (rest := []) CX HX1844 (g_count l G n hn v r hC (nI (8))) ln_L_15 (by omega) rfl rfl rfl rfl (Nat.le_of_ble_eq_true rfl) hl.1 ⟨Nat.le_of_ble_eq_true rfl, Nat.le_of_ble_eq_true rfl⟩ ⟨Nat.le_refl _, Nat.le_refl _⟩ dL_acts_651 (fun x1846 H locs h1845 HX1847 => ?_)
          have h_count := h1845
          have e_651 : x1846 = nI (A.q.length) := ((h_count A hV.1 hV.2.2.1).trans (fb_cntA_8 (by decide)))
          subst e_651
          refine lv_istore (lv' := [(21, .int (nI (A.q.length))), (20, .int (nI (dy + 1 + ((ac / 512) % 200)))), (4, .int ((-1 : Int32))), (0, .ref (fa_B G + (0))), (1, .int (nI (ac))), (2, .int (nI (fi))), (3, .int (nI (ho)))]) hx hb dL_acts_654 hl (by decide) rfl (fun ls hl => ?_)
          refine lv_aload_n hx hb dL_acts_656 rfl (lv_at hl 3 rfl) ?_
          refine lv_iload_n hx hb dL_acts_657 rfl (lv_at hl 5 rfl) ?_
          refine lv_iload hx hb dL_acts_658 (lv_at hl 1 rfl) ?_
          refine fa_callVi (As := [.int (nI (fi)), .int (nI (dy + 1 + ((ac / 512) % 200)))]) (rest := []) CX HX1847 (g_reserve5 l G n hn v r hC (nI (fi)) (nI (dy + 1 + ((ac / 512) % 200)))) ln_L_60 (by omega) rfl rfl rfl rfl (Nat.le_of_ble_eq_true rfl) hl.1 ⟨Nat.le_of_ble_eq_true rfl, Nat.le_of_ble_eq_true rfl⟩ ⟨Nat.le_refl _, Nat.le_refl _⟩ dL_acts_660 (fun x1849 v1850 r1851 H locs h1848 HX1852 => ?_)
          dsimp only at h1848
          have hC_v1850 := h1848.2.1
          have h_reserve5 := h1848.1
          obtain ⟨hr58_660, hac_660⟩ := h_reserve5
          obtain ⟨hx_660, hV_660⟩ := hac_660 _ _ hV
          rw [fb_resA_n hno] at hx_660 hV_660
          have hV_660 : fb_CV v1850 r1851 A _ := hV_660
          have hI_660 : fb_inj r1851 57 := hi57.congr hr58_660
          have hk_660 := hk
          have e_660 : x1849 = (-1 : Int32) := hx_660
          subst e_660
          refine lv_istore (lv' := [(22, .int ((-1 : Int32))), (21, .int (nI (A.q.length))), (20, .int (nI (dy + 1 + ((ac / 512) % 200)))), (4, .int ((-1 : Int32))), (0, .ref (fa_B G + (0))), (1, .int (nI (ac))), (2, .int (nI (fi))), (3, .int (nI (ho)))]) hx hb dL_acts_663 hl (by decide) rfl (fun ls hl => ?_)
          refine lv_iload hx hb dL_acts_665 (lv_at hl 3 rfl) ?_
          refine lv_if_ge (tgt := 684) hx hb dL_acts_667 (by decide) (fun c_667 => ?_) (fun c_667 => ?_)
          · exact absurd c_667 (by try decide)
          · refine lv_iload hx hb dL_acts_670 (lv_at hl 0 rfl) ?_
            refine lv_iconst (v := (-1 : Int32)) hx hb dL_acts_672 (by decide) ?_
            refine lv_icmp_ne (tgt := 680) hx hb dL_acts_673 (by decide) (fun c_673 => ?_) (fun c_673 => ?_)
            · exact absurd (by try decide) c_673
            · refine lv_iconst (v := nI (1)) hx hb dL_acts_676 (by decide) ?_
              refine lv_goto (tgt := 754) hx hb dL_acts_677 (by decide) ?_
              exact RET _ _ _ _ _ _ _ HX1852 dL_acts_754 (by decide) (⟨⟨rfl, A, _, dy, cm, bu, hV_660, hk_660.more (Nat.le_succ _), ⟨by omega, by omega, by omega, by omega⟩, hI_660⟩, hC_v1850, (fa_fr.tr fa_fr.rf (fa_fr.wide h1848.2.2.1 (by omega) (by omega))), (fun k hk => ((h1848.2.2.2 k hk).trans rfl))⟩)
        by_cases c_42_9 : nI (ac % 12) = (9 : Int32)
        · refine lv_tableIn (off := 713) (tgt := 755) hx hb dL_acts_42 (by rw [c_42_9]; decide) (by rw [c_42_9]; decide) (by rw [c_42_9]; decide) (by decide) ?_
          have JOIN_763 : ∀ (wh : Nat) (H : Heap) (locs : List Loc) (ls : Array Slot), (wh < 7) → lv_has ls 34 [(0, .ref (fa_B G + (0))), (1, .int (nI (ac))), (2, .int (nI (fi))), (3, .int (nI (ho))), (4, .int ((-1 : Int32))), (23, .int (nI (wh)))] → fa_HX G (n) v r s H locs → W p l e (fa_rm 8) s m args below meth c H locs (0) (0) Q (F0 m 763 ls []) := by
            intro wh H locs ls hi_763 hl HX1853
            refine lv_iload hx hb dL_acts_763 (lv_at hl 5 rfl) ?_
            refine lv_iconst (v := nI (5)) hx hb dL_acts_765 (by decide) ?_
            have JOIN_814 : ∀ (va : Nat) (H : Heap) (locs : List Loc) (ls : Array Slot), (fc_va wh va) → lv_has ls 34 [(0, .ref (fa_B G + (0))), (1, .int (nI (ac))), (2, .int (nI (fi))), (3, .int (nI (ho))), (4, .int ((-1 : Int32))), (23, .int (nI (wh))), (24, .int (nI (va)))] → fa_HX G (n) v r s H locs → W p l e (fa_rm 8) s m args below meth c H locs (0) (0) Q (F0 m 814 ls []) := by
              intro va H locs ls hi_814 hl HX1854
              refine lv_aload_n hx hb dL_acts_814 rfl (lv_at hl 0 rfl) ?_
              refine lv_iload hx hb dL_acts_815 (lv_at hl 5 rfl) ?_
              refine fa_callVip (As := [.int (nI (wh))]) (rest := []) CX HX1854 (g_setting l G n hn v r hC (nI (wh))) ln_L_22 (by omega) rfl rfl rfl rfl (Nat.le_of_ble_eq_true rfl) hl.1 ⟨Nat.le_of_ble_eq_true rfl, Nat.le_of_ble_eq_true rfl⟩ ⟨Nat.le_refl _, Nat.le_refl _⟩ dL_acts_817 (fun x1856 H locs h1855 HX1857 => ?_)
              have h_setting := h1855
              have e_817 : x1856 = A.g wh := ((h_setting A hV.1 hV.2.2.1).trans (fc_stg hi_763))
              subst e_817
              refine lv_istore (lv' := [(25, .int (A.g wh)), (0, .ref (fa_B G + (0))), (1, .int (nI (ac))), (2, .int (nI (fi))), (3, .int (nI (ho))), (4, .int ((-1 : Int32))), (23, .int (nI (wh))), (24, .int (nI (va)))]) hx hb dL_acts_820 hl (by decide) rfl (fun ls hl => ?_)
              refine lv_aload_n hx hb dL_acts_822 rfl (lv_at hl 1 rfl) ?_
              refine lv_iload hx hb dL_acts_823 (lv_at hl 6 rfl) ?_
              refine lv_iload hx hb dL_acts_825 (lv_at hl 7 rfl) ?_
              refine fa_callVi (As := [.int (nI (wh)), .int (nI (va))]) (rest := []) CX HX1857 (g_set5 l G n hn v r hC (nI (wh)) (nI (va))) ln_L_66 (by omega) rfl rfl rfl rfl (Nat.le_of_ble_eq_true rfl) hl.1 ⟨Nat.le_of_ble_eq_true rfl, Nat.le_of_ble_eq_true rfl⟩ ⟨Nat.le_refl _, Nat.le_refl _⟩ dL_acts_827 (fun x1859 v1860 r1861 H locs h1858 HX1862 => ?_)
              dsimp only at h1858
              have hC_v1860 := h1858.2.1
              have h_set5 := h1858.1
              obtain ⟨hr58_827, hac_827⟩ := h_set5
              obtain ⟨hx_827, hV_827⟩ := hac_827 _ _ hV
              rw [fc_set1 hi_814] at hx_827 hV_827
              have hV_827 : fb_CV v1860 r1861 (A.sg wh (nI (va))) _ := hV_827
              have hI_827 : fb_inj r1861 57 := hi57.congr hr58_827
              have hk_827 := hk.set1 hi_763 (fc_setS hk.2.2.2.2.2.2.1 hi_814)
              have e_827 : x1859 = A.g wh := hx_827
              subst e_827
              refine lv_iload hx hb dL_acts_830 (lv_at hl 0 rfl) ?_
              refine lv_icmp_ne (tgt := 850) hx hb dL_acts_832 (by decide) (fun c_832 => ?_) (fun c_832 => ?_)
              · exact absurd rfl c_832
              · refine lv_aload_n hx hb dL_acts_835 rfl (lv_at hl 1 rfl) ?_
                refine lv_iload hx hb dL_acts_836 (lv_at hl 6 rfl) ?_
                refine fa_callVip (As := [.int (nI (wh))]) (rest := []) CX HX1862 (g_setting l G n hn v1860 r1861 hC_v1860 (nI (wh))) ln_L_22 (by omega) rfl rfl rfl rfl (Nat.le_of_ble_eq_true rfl) hl.1 ⟨Nat.le_of_ble_eq_true rfl, Nat.le_of_ble_eq_true rfl⟩ ⟨Nat.le_refl _, Nat.le_refl _⟩ dL_acts_838 (fun x1864 H locs h1863 HX1865 => ?_)
                have h_setting := h1863
                have e_838 : x1864 = nI (va) := ((h_setting (A.sg wh (nI (va))) hV_827.1 hV_827.2.2.1).trans ((fc_stg hi_763).trans (fb_s1_s _ _ _)))
                subst e_838
                refine lv_iload hx hb dL_acts_841 (lv_at hl 7 rfl) ?_
                refine lv_icmp_ne (tgt := 850) hx hb dL_acts_843 (by decide) (fun c_843 => ?_) (fun c_843 => ?_)
                · exact absurd rfl c_843
                · refine lv_iconst (v := nI (1)) hx hb dL_acts_846 (by decide) ?_
                  refine lv_goto (tgt := 851) hx hb dL_acts_847 (by decide) ?_
                  exact RET _ _ _ _ _ _ _ HX1865 dL_acts_851 (by decide) (⟨⟨rfl, (A.sg wh (nI (va))), _, dy, cm, bu, hV_827, hk_827.more (Nat.le_succ _), ⟨by omega, by omega, by omega, by omega⟩, hI_827⟩, hC_v1860, (fa_fr.tr fa_fr.rf (fa_fr.wide h1858.2.2.1 (by omega) (by omega))), (fun k hk => ((h1858.2.2.2 k hk).trans rfl))⟩)
            refine lv_icmp_ge (tgt := 783) hx hb dL_acts_766 (by decide) (fun c_766 => ?_) (fun c_766 => ?_)
            · have hw5 : 5 ≤ wh := fa_leN (by omega) (by omega) c_766
              refine lv_iload hx hb dL_acts_783 (lv_at hl 5 rfl) ?_
              refine lv_iconst (v := nI (5)) hx hb dL_acts_785 (by decide) ?_
              refine lv_icmp_ne (tgt := 801) hx hb dL_acts_786 (by decide) (fun c_786 => ?_) (fun c_786 => ?_)
              · have hw6 : ¬ wh = 5 := fun z => c_786 (by rw [z])
                refine lv_bipush (v := nI (50)) hx hb dL_acts_801 (by decide) ?_
                refine lv_iload_n hx hb dL_acts_803 rfl (lv_at hl 1 rfl) ?_
                refine lv_bipush (v := nI (8)) hx hb dL_acts_804 (by decide) ?_
                refine lv_ishr hx hb dL_acts_806 ?_
                rw [show (nI (ac)) >>> ((nI (8)) &&& 31) = nI (ac / 256) from fc_shr (k := 8) (by omega) (by decide)]
                refine lv_sipush (v := nI (551)) hx hb dL_acts_807 (by decide) ?_
                refine lv_irem hx hb dL_acts_810 (by decide) ?_
                rw [show (nI (ac / 256)) - (nI (ac / 256)) / (nI (551)) * (nI (551)) = nI ((ac / 256) % 551) from pk_rem (by omega) (by decide) (by omega)]
                refine fa_iaddN hx hb dL_acts_811 ?_
                refine lv_istore (lv' := [(24, .int (nI (50 + ((ac / 256) % 551)))), (0, .ref (fa_B G + (0))), (1, .int (nI (ac))), (2, .int (nI (fi))), (3, .int (nI (ho))), (4, .int ((-1 : Int32))), (23, .int (nI (wh)))]) hx hb dL_acts_812 hl (by decide) rfl (fun ls hl => ?_)
                exact JOIN_814 (50 + ((ac / 256) % 551))  _ _ _ (by unfold fc_va; omega) (lv_sub hl [1, 2, 3, 4, 5, 6, 0] rfl) HX1853
              · have hw6 : wh = 5 := fa_nIinj (by omega) (by omega) c_786
                refine lv_iconst (v := nI (1)) hx hb dL_acts_789 (by decide) ?_
                refine lv_iload_n hx hb dL_acts_790 rfl (lv_at hl 1 rfl) ?_
                refine lv_bipush (v := nI (8)) hx hb dL_acts_791 (by decide) ?_
                refine lv_ishr hx hb dL_acts_793 ?_
                rw [show (nI (ac)) >>> ((nI (8)) &&& 31) = nI (ac / 256) from fc_shr (k := 8) (by omega) (by decide)]
                refine lv_bipush (v := nI (20)) hx hb dL_acts_794 (by decide) ?_
                refine lv_irem hx hb dL_acts_796 (by decide) ?_
                rw [show (nI (ac / 256)) - (nI (ac / 256)) / (nI (20)) * (nI (20)) = nI ((ac / 256) % 20) from pk_rem (by omega) (by decide) (by omega)]
                refine fa_iaddN hx hb dL_acts_797 ?_
                refine lv_goto (tgt := 812) hx hb dL_acts_798 (by decide) ?_
                refine lv_istore (lv' := [(24, .int (nI (1 + ((ac / 256) % 20)))), (0, .ref (fa_B G + (0))), (1, .int (nI (ac))), (2, .int (nI (fi))), (3, .int (nI (ho))), (4, .int ((-1 : Int32))), (23, .int (nI (wh)))]) hx hb dL_acts_812 hl (by decide) rfl (fun ls hl => ?_)
                exact JOIN_814 (1 + ((ac / 256) % 20))  _ _ _ (by unfold fc_va; omega) (lv_sub hl [1, 2, 3, 4, 5, 6, 0] rfl) HX1853
            · have hw5 : wh < 5 := fa_ltN (by omega) (by omega) c_766
              refine lv_bipush (v := nI (30)) hx hb dL_acts_769 (by decide) ?_
              refine lv_iload_n hx hb dL_acts_771 rfl (lv_at hl 1 rfl) ?_
              refine lv_bipush (v := nI (8)) hx hb dL_acts_772 (by decide) ?_
              refine lv_ishr hx hb dL_acts_774 ?_
              rw [show (nI (ac)) >>> ((nI (8)) &&& 31) = nI (ac / 256) from fc_shr (k := 8) (by omega) (by decide)]
              refine lv_sipush (v := nI (300)) hx hb dL_acts_775 (by decide) ?_
              refine lv_irem hx hb dL_acts_778 (by decide) ?_
              rw [show (nI (ac / 256)) - (nI (ac / 256)) / (nI (300)) * (nI (300)) = nI ((ac / 256) % 300) from pk_rem (by omega) (by decide) (by omega)]
              refine fa_iaddN hx hb dL_acts_779 ?_
              refine lv_goto (tgt := 812) hx hb dL_acts_780 (by decide) ?_
              refine lv_istore (lv' := [(24, .int (nI (30 + ((ac / 256) % 300)))), (0, .ref (fa_B G + (0))), (1, .int (nI (ac))), (2, .int (nI (fi))), (3, .int (nI (ho))), (4, .int ((-1 : Int32))), (23, .int (nI (wh)))]) hx hb dL_acts_812 hl (by decide) rfl (fun ls hl => ?_)
              exact JOIN_814 (30 + ((ac / 256) % 300))  _ _ _ (by unfold fc_va; omega) (lv_sub hl [1, 2, 3, 4, 5, 6, 0] rfl) HX1853
          refine lv_iload_n hx hb dL_acts_755 rfl (lv_at hl 2 rfl) ?_
          refine lv_iconst (v := nI (4)) hx hb dL_acts_756 (by decide) ?_
          refine lv_ishr hx hb dL_acts_757 ?_
          rw [show (nI (ac)) >>> ((nI (4)) &&& 31) = nI (ac / 16) from fc_shr (k := 4) (by omega) (by decide)]
          refine lv_bipush (v := nI (7)) hx hb dL_acts_758 (by decide) ?_
          refine lv_irem hx hb dL_acts_760 (by decide) ?_
          rw [show (nI (ac / 16)) - (nI (ac / 16)) / (nI (7)) * (nI (7)) = nI ((ac / 16) % 7) from pk_rem (by omega) (by decide) (by omega)]
          refine lv_istore (lv' := [(23, .int (nI ((ac / 16) % 7))), (4, .int ((-1 : Int32))), (0, .ref (fa_B G + (0))), (1, .int (nI (ac))), (2, .int (nI (fi))), (3, .int (nI (ho)))]) hx hb dL_acts_761 hl (by decide) rfl (fun ls hl => ?_)
          exact JOIN_763 ((ac / 16) % 7)  _ _ _ (Nat.mod_lt _ (by decide)) (lv_sub hl [2, 3, 4, 5, 1, 0] rfl) HX1746
        have hout_42 : (nI (ac % 12)).toInt < 0 ∨ 9 < (nI (ac % 12)).toInt := by
          have z0 := lv_neT (a := 0) c_42_0 (by decide)
          have z1 := lv_neT (a := 1) c_42_1 (by decide)
          have z2 := lv_neT (a := 2) c_42_2 (by decide)
          have z3 := lv_neT (a := 3) c_42_3 (by decide)
          have z4 := lv_neT (a := 4) c_42_4 (by decide)
          have z5 := lv_neT (a := 5) c_42_5 (by decide)
          have z6 := lv_neT (a := 6) c_42_6 (by decide)
          have z7 := lv_neT (a := 7) c_42_7 (by decide)
          have z8 := lv_neT (a := 8) c_42_8 (by decide)
          have z9 := lv_neT (a := 9) c_42_9 (by decide)
          omega
        refine lv_tableOut (tgt := 852) hx hb dL_acts_42 hout_42 (by decide) ?_
        have JOIN_862 : ∀ (da : Nat) (H : Heap) (locs : List Loc) (ls : Array Slot), (1 ≤ da ∧ da ≤ 120) → lv_has ls 34 [(0, .ref (fa_B G + (0))), (1, .int (nI (ac))), (2, .int (nI (fi))), (3, .int (nI (ho))), (4, .int ((-1 : Int32))), (26, .int (nI (da)))] → fa_HX G (n) v r s H locs → W p l e (fa_rm 8) s m args below meth c H locs (0) (0) Q (F0 m 862 ls []) := by
          intro da H locs ls hi_862 hl HX1866
          refine lv_aload_n hx hb dL_acts_862 rfl (lv_at hl 0 rfl) ?_
          refine fa_callVip (As := []) (rest := []) CX HX1866 (g_now l G n hn v r hC ) ln_L_31 (by omega) rfl rfl rfl rfl (Nat.le_of_ble_eq_true rfl) hl.1 ⟨Nat.le_of_ble_eq_true rfl, Nat.le_of_ble_eq_true rfl⟩ ⟨Nat.le_refl _, Nat.le_refl _⟩ dL_acts_863 (fun x1868 H locs h1867 HX1869 => ?_)
          have h_now := h1867
          have e_863 : x1868 = nI (dy) := ((h_now.trans hV.2.2.1.now).trans hk.1)
          subst e_863
          refine lv_istore (lv' := [(27, .int (nI (dy))), (0, .ref (fa_B G + (0))), (1, .int (nI (ac))), (2, .int (nI (fi))), (3, .int (nI (ho))), (4, .int ((-1 : Int32))), (26, .int (nI (da)))]) hx hb dL_acts_866 hl (by decide) rfl (fun ls hl => ?_)
          refine lv_aload_n hx hb dL_acts_868 rfl (lv_at hl 1 rfl) ?_
          refine lv_iconst (v := nI (3)) hx hb dL_acts_869 (by decide) ?_
          refine fa_callVip (As := [.int (nI (3))]) (rest := []) CX HX1869 (g_count l G n hn v r hC (nI (3))) ln_L_15 (by omega) rfl rfl rfl rfl (Nat.le_of_ble_eq_true rfl) hl.1 ⟨Nat.le_of_ble_eq_true rfl, Nat.le_of_ble_eq_true rfl⟩ ⟨Nat.le_refl _, Nat.le_refl _⟩ dL_acts_870 (fun x1871 H locs h1870 HX1872 => ?_)
          have h_count := h1870
          have e_870 : x1871 = nI (bu) := (((h_count A hV.1 hV.2.2.1).trans (fb_cntA_3 (by decide))).trans hk.2.2.1)
          subst e_870
          refine lv_istore (lv' := [(28, .int (nI (bu))), (27, .int (nI (dy))), (0, .ref (fa_B G + (0))), (1, .int (nI (ac))), (2, .int (nI (fi))), (3, .int (nI (ho))), (4, .int ((-1 : Int32))), (26, .int (nI (da)))]) hx hb dL_acts_873 hl (by decide) rfl (fun ls hl => ?_)
          refine lv_aload_n hx hb dL_acts_875 rfl (lv_at hl 2 rfl) ?_
          refine lv_iconst (v := nI (4)) hx hb dL_acts_876 (by decide) ?_
          refine fa_callVip (As := [.int (nI (4))]) (rest := []) CX HX1872 (g_count l G n hn v r hC (nI (4))) ln_L_15 (by omega) rfl rfl rfl rfl (Nat.le_of_ble_eq_true rfl) hl.1 ⟨Nat.le_of_ble_eq_true rfl, Nat.le_of_ble_eq_true rfl⟩ ⟨Nat.le_refl _, Nat.le_refl _⟩ dL_acts_877 (fun x1874 H locs h1873 HX1875 => ?_)
          have h_count := h1873
          have e_877 : x1874 = A.g 10 := ((h_count A hV.1 hV.2.2.1).trans (fb_cntA_4 (by decide)))
          subst e_877
          refine lv_istore (lv' := [(29, .int (A.g 10)), (28, .int (nI (bu))), (27, .int (nI (dy))), (0, .ref (fa_B G + (0))), (1, .int (nI (ac))), (2, .int (nI (fi))), (3, .int (nI (ho))), (4, .int ((-1 : Int32))), (26, .int (nI (da)))]) hx hb dL_acts_880 hl (by decide) rfl (fun ls hl => ?_)
          refine lv_aload_n hx hb dL_acts_882 rfl (lv_at hl 3 rfl) ?_
          refine lv_iconst (v := nI (5)) hx hb dL_acts_883 (by decide) ?_
          refine fa_callVip (As := [.int (nI (5))]) (rest := []) CX HX1875 (g_count l G n hn v r hC (nI (5))) ln_L_15 (by omega) rfl rfl rfl rfl (Nat.le_of_ble_eq_true rfl) hl.1 ⟨Nat.le_of_ble_eq_true rfl, Nat.le_of_ble_eq_true rfl⟩ ⟨Nat.le_refl _, Nat.le_refl _⟩ dL_acts_884 (fun x1877 H locs h1876 HX1878 => ?_)
          have h_count := h1876
          have e_884 : x1877 = A.g 11 := ((h_count A hV.1 hV.2.2.1).trans (fb_cntA_5 (by decide)))
          subst e_884
          refine lv_istore (lv' := [(30, .int (A.g 11)), (29, .int (A.g 10)), (28, .int (nI (bu))), (27, .int (nI (dy))), (0, .ref (fa_B G + (0))), (1, .int (nI (ac))), (2, .int (nI (fi))), (3, .int (nI (ho))), (4, .int ((-1 : Int32))), (26, .int (nI (da)))]) hx hb dL_acts_887 hl (by decide) rfl (fun ls hl => ?_)
          refine lv_aload_n hx hb dL_acts_889 rfl (lv_at hl 4 rfl) ?_
          refine lv_iload hx hb dL_acts_890 (lv_at hl 9 rfl) ?_
          refine lv_iconst (v := nI (0)) hx hb dL_acts_892 (by decide) ?_
          refine fa_callVi (As := [.int (nI (da)), .int (nI (0))]) (rest := []) CX HX1878 (g_ifPassed l G n hn v r hC (nI (da)) (nI (0))) ln_L_69 (by omega) rfl rfl rfl rfl (Nat.le_of_ble_eq_true rfl) hl.1 ⟨Nat.le_of_ble_eq_true rfl, Nat.le_of_ble_eq_true rfl⟩ ⟨Nat.le_refl _, Nat.le_refl _⟩ dL_acts_893 (fun x1880 v1881 r1882 H locs h1879 HX1883 => ?_)
          dsimp only at h1879
          have hC_v1881 := h1879.2.1
          have h_ifPassed := h1879.1
          have hV_893 := hV.fut h1879.2.2.1 h_ifPassed.1
          obtain ⟨hI_893, hip_893⟩ := h_ifPassed.2 A dy hok hk.1 (by omega) hi57 hV.2.2.1
          have e_893 : x1880 = (fb_daysA A da).2.g 9 - A.g 9 := ((hip_893 da rfl hi_862.1 (by omega)).1 (by decide))
          subst e_893
          refine lv_istore (lv' := [(31, .int ((fb_daysA A da).2.g 9 - A.g 9)), (30, .int (A.g 11)), (29, .int (A.g 10)), (28, .int (nI (bu))), (27, .int (nI (dy))), (0, .ref (fa_B G + (0))), (1, .int (nI (ac))), (2, .int (nI (fi))), (3, .int (nI (ho))), (4, .int ((-1 : Int32))), (26, .int (nI (da)))]) hx hb dL_acts_896 hl (by decide) rfl (fun ls hl => ?_)
          refine lv_aload_n hx hb dL_acts_898 rfl (lv_at hl 5 rfl) ?_
          refine lv_iload hx hb dL_acts_899 (lv_at hl 10 rfl) ?_
          refine lv_iconst (v := nI (1)) hx hb dL_acts_901 (by decide) ?_
          refine fa_callVi (As := [.int (nI (da)), .int (nI (1))]) (rest := []) CX HX1883 (g_ifPassed l G n hn v1881 r1882 hC_v1881 (nI (da)) (nI (1))) ln_L_69 (by omega) rfl rfl rfl rfl (Nat.le_of_ble_eq_true rfl) hl.1 ⟨Nat.le_of_ble_eq_true rfl, Nat.le_of_ble_eq_true rfl⟩ ⟨Nat.le_refl _, Nat.le_refl _⟩ dL_acts_902 (fun x1885 v1886 r1887 H locs h1884 HX1888 => ?_)
          dsimp only at h1884
          have hC_v1886 := h1884.2.1
          have h_ifPassed := h1884.1
          have hV_902 := hV_893.fut h1884.2.2.1 h_ifPassed.1
          obtain ⟨hI_902, hip_902⟩ := h_ifPassed.2 A dy hok hk.1 (by omega) hI_893 hV_893.2.2.1
          have e_902 : x1885 = (fb_daysA A da).2.g 10 - A.g 10 := ((hip_902 da rfl hi_862.1 (by omega)).2.1 (by decide))
          subst e_902
          refine lv_istore (lv' := [(32, .int ((fb_daysA A da).2.g 10 - A.g 10)), (31, .int ((fb_daysA A da).2.g 9 - A.g 9)), (30, .int (A.g 11)), (29, .int (A.g 10)), (28, .int (nI (bu))), (27, .int (nI (dy))), (0, .ref (fa_B G + (0))), (1, .int (nI (ac))), (2, .int (nI (fi))), (3, .int (nI (ho))), (4, .int ((-1 : Int32))), (26, .int (nI (da)))]) hx hb dL_acts_905 hl (by decide) rfl (fun ls hl => ?_)
          refine lv_aload_n hx hb dL_acts_907 rfl (lv_at hl 6 rfl) ?_
          refine lv_iload hx hb dL_acts_908 (lv_at hl 11 rfl) ?_
          refine lv_iconst (v := nI (2)) hx hb dL_acts_910 (by decide) ?_
          refine fa_callVi (As := [.int (nI (da)), .int (nI (2))]) (rest := []) CX HX1888 (g_ifPassed l G n hn v1886 r1887 hC_v1886 (nI (da)) (nI (2))) ln_L_69 (by omega) rfl rfl rfl rfl (Nat.le_of_ble_eq_true rfl) hl.1 ⟨Nat.le_of_ble_eq_true rfl, Nat.le_of_ble_eq_true rfl⟩ ⟨Nat.le_refl _, Nat.le_refl _⟩ dL_acts_911 (fun x1890 v1891 r1892 H locs h1889 HX1893 => ?_)
          dsimp only at h1889
          have hC_v1891 := h1889.2.1
          have h_ifPassed := h1889.1
          have hV_911 := hV_902.fut h1889.2.2.1 h_ifPassed.1
          obtain ⟨hI_911, hip_911⟩ := h_ifPassed.2 A dy hok hk.1 (by omega) hI_902 hV_902.2.2.1
          have e_911 : x1890 = (fb_daysA A da).2.g 11 - A.g 11 := ((hip_911 da rfl hi_862.1 (by omega)).2.2 rfl)
          subst e_911
          refine lv_istore (lv' := [(33, .int ((fb_daysA A da).2.g 11 - A.g 11)), (32, .int ((fb_daysA A da).2.g 10 - A.g 10)), (31, .int ((fb_daysA A da).2.g 9 - A.g 9)), (30, .int (A.g 11)), (29, .int (A.g 10)), (28, .int (nI (bu))), (27, .int (nI (dy))), (0, .ref (fa_B G + (0))), (1, .int (nI (ac))), (2, .int (nI (fi))), (3, .int (nI (ho))), (4, .int ((-1 : Int32))), (26, .int (nI (da)))]) hx hb dL_acts_914 hl (by decide) rfl (fun ls hl => ?_)
          refine lv_aload_n hx hb dL_acts_916 rfl (lv_at hl 7 rfl) ?_
          refine lv_iload hx hb dL_acts_917 (lv_at hl 12 rfl) ?_
          refine fa_callVi (As := [.int (nI (da))]) (rest := []) CX HX1893 (g_pass5 l G n hn v1891 r1892 hC_v1891 (nI (da))) ln_L_72 (by omega) rfl rfl rfl rfl (Nat.le_of_ble_eq_true rfl) hl.1 ⟨Nat.le_of_ble_eq_true rfl, Nat.le_of_ble_eq_true rfl⟩ ⟨Nat.le_refl _, Nat.le_refl _⟩ dL_acts_919 (fun x1895 v1896 r1897 H locs h1894 HX1898 => ?_)
          dsimp only at h1894
          have hC_v1896 := h1894.2.1
          have h_pass5 := h1894.1
          obtain ⟨hr58_919, hac_919⟩ := h_pass5
          obtain ⟨hx_919, hV_919⟩ := hac_919 _ _ hV_911
          rw [fc_pass1 hk.1 hi_862.1 (by omega) (by omega)] at hx_919 hV_919
          have hV_919 : fb_CV v1896 r1897 ((fb_daysA A da).2) _ := hV_919
          have hI_919 : fb_inj r1897 57 := hI_911.congr hr58_919
          obtain ⟨b2, hb2, hk_919, -⟩ := hk.days hok (by omega) da (by omega)
          have e_919 : x1895 = (fb_daysA A da).1 := hx_919
          subst e_919
          refine lv_iload hx hb dL_acts_922 (lv_at hl 2 rfl) ?_
          refine lv_icmp_ne (tgt := 982) hx hb dL_acts_924 (by decide) (fun c_924 => ?_) (fun c_924 => ?_)
          · exact absurd (fc_days9 A da) c_924
          · refine lv_aload_n hx hb dL_acts_927 rfl (lv_at hl 7 rfl) ?_
            refine fa_callVip (As := []) (rest := []) CX HX1898 (g_now l G n hn v1896 r1897 hC_v1896 ) ln_L_31 (by omega) rfl rfl rfl rfl (Nat.le_of_ble_eq_true rfl) hl.1 ⟨Nat.le_of_ble_eq_true rfl, Nat.le_of_ble_eq_true rfl⟩ ⟨Nat.le_refl _, Nat.le_refl _⟩ dL_acts_928 (fun x1900 H locs h1899 HX1901 => ?_)
            have h_now := h1899
            have e_928 : x1900 = nI (dy + da) := ((h_now.trans hV_919.2.2.1.now).trans hk_919.1)
            subst e_928
            refine lv_iload hx hb dL_acts_931 (lv_at hl 6 rfl) ?_
            refine lv_iload hx hb dL_acts_933 (lv_at hl 12 rfl) ?_
            refine fa_iaddN hx hb dL_acts_935 ?_
            refine lv_icmp_ne (tgt := 982) hx hb dL_acts_936 (by decide) (fun c_936 => ?_) (fun c_936 => ?_)
            · exact absurd rfl c_936
            · refine lv_aload_n hx hb dL_acts_939 rfl (lv_at hl 7 rfl) ?_
              refine lv_iconst (v := nI (3)) hx hb dL_acts_940 (by decide) ?_
              refine fa_callVip (As := [.int (nI (3))]) (rest := []) CX HX1901 (g_count l G n hn v1896 r1897 hC_v1896 (nI (3))) ln_L_15 (by omega) rfl rfl rfl rfl (Nat.le_of_ble_eq_true rfl) hl.1 ⟨Nat.le_of_ble_eq_true rfl, Nat.le_of_ble_eq_true rfl⟩ ⟨Nat.le_refl _, Nat.le_refl _⟩ dL_acts_941 (fun x1903 H locs h1902 HX1904 => ?_)
              have h_count := h1902
              have e_941 : x1903 = (fb_daysA A da).2.g 9 := ((h_count ((fb_daysA A da).2) hV_919.1 hV_919.2.2.1).trans (fb_cntA_3 (by decide)))
              subst e_941
              refine lv_iload hx hb dL_acts_944 (lv_at hl 5 rfl) ?_
              refine lv_iload hx hb dL_acts_946 (lv_at hl 2 rfl) ?_
              refine lv_iadd hx hb dL_acts_948 ?_
              refine lv_icmp_ne (tgt := 982) hx hb dL_acts_949 (by decide) (fun c_949 => ?_) (fun c_949 => ?_)
              · exact absurd (by rw [← hk.2.2.1]; exact (fc_diff _ _).symm) c_949
              · refine lv_aload_n hx hb dL_acts_952 rfl (lv_at hl 7 rfl) ?_
                refine lv_iconst (v := nI (4)) hx hb dL_acts_953 (by decide) ?_
                refine fa_callVip (As := [.int (nI (4))]) (rest := []) CX HX1904 (g_count l G n hn v1896 r1897 hC_v1896 (nI (4))) ln_L_15 (by omega) rfl rfl rfl rfl (Nat.le_of_ble_eq_true rfl) hl.1 ⟨Nat.le_of_ble_eq_true rfl, Nat.le_of_ble_eq_true rfl⟩ ⟨Nat.le_refl _, Nat.le_refl _⟩ dL_acts_954 (fun x1906 H locs h1905 HX1907 => ?_)
                have h_count := h1905
                have e_954 : x1906 = (fb_daysA A da).2.g 10 := ((h_count ((fb_daysA A da).2) hV_919.1 hV_919.2.2.1).trans (fb_cntA_4 (by decide)))
                subst e_954
                refine lv_iload hx hb dL_acts_957 (lv_at hl 4 rfl) ?_
                refine lv_iload hx hb dL_acts_959 (lv_at hl 1 rfl) ?_
                refine lv_iadd hx hb dL_acts_961 ?_
                refine lv_icmp_ne (tgt := 982) hx hb dL_acts_962 (by decide) (fun c_962 => ?_) (fun c_962 => ?_)
                · exact absurd (fc_diff _ _).symm c_962
                · refine lv_aload_n hx hb dL_acts_965 rfl (lv_at hl 7 rfl) ?_
                  refine lv_iconst (v := nI (5)) hx hb dL_acts_966 (by decide) ?_
                  refine fa_callVip (As := [.int (nI (5))]) (rest := []) CX HX1907 (g_count l G n hn v1896 r1897 hC_v1896 (nI (5))) ln_L_15 (by omega) rfl rfl rfl rfl (Nat.le_of_ble_eq_true rfl) hl.1 ⟨Nat.le_of_ble_eq_true rfl, Nat.le_of_ble_eq_true rfl⟩ ⟨Nat.le_refl _, Nat.le_refl _⟩ dL_acts_967 (fun x1909 H locs h1908 HX1910 => ?_)
                  have h_count := h1908
                  have e_967 : x1909 = (fb_daysA A da).2.g 11 := ((h_count ((fb_daysA A da).2) hV_919.1 hV_919.2.2.1).trans (fb_cntA_5 (by decide)))
                  subst e_967
                  refine lv_iload hx hb dL_acts_970 (lv_at hl 3 rfl) ?_
                  refine lv_iload hx hb dL_acts_972 (lv_at hl 0 rfl) ?_
                  refine lv_iadd hx hb dL_acts_974 ?_
                  refine lv_icmp_ne (tgt := 982) hx hb dL_acts_975 (by decide) (fun c_975 => ?_) (fun c_975 => ?_)
                  · exact absurd (fc_diff _ _).symm c_975
                  · refine lv_iconst (v := nI (1)) hx hb dL_acts_978 (by decide) ?_
                    refine lv_goto (tgt := 983) hx hb dL_acts_979 (by decide) ?_
                    exact RET _ _ _ _ _ _ _ HX1910 dL_acts_983 (by decide) (⟨⟨rfl, ((fb_daysA A da).2), _, dy + da, cm, b2, hV_919, hk_919.more (Nat.le_succ _), ⟨by omega, by omega, by omega, by omega⟩, hI_919⟩, hC_v1896, (fa_fr.tr (fa_fr.tr (fa_fr.tr (fa_fr.tr fa_fr.rf (fa_fr.wide h1879.2.2.1 (by omega) (by omega))) (fa_fr.wide h1884.2.2.1 (by omega) (by omega))) (fa_fr.wide h1889.2.2.1 (by omega) (by omega))) (fa_fr.wide h1894.2.2.1 (by omega) (by omega))), (fun k hk => ((h1894.2.2.2 k hk).trans ((h1889.2.2.2 k hk).trans ((h1884.2.2.2 k hk).trans ((h1879.2.2.2 k hk).trans rfl)))))⟩)
        refine lv_iconst (v := nI (1)) hx hb dL_acts_852 (by decide) ?_
        refine lv_iload_n hx hb dL_acts_853 rfl (lv_at hl 2 rfl) ?_
        refine lv_iconst (v := nI (4)) hx hb dL_acts_854 (by decide) ?_
        refine lv_ishr hx hb dL_acts_855 ?_
        rw [show (nI (ac)) >>> ((nI (4)) &&& 31) = nI (ac / 16) from fc_shr (k := 4) (by omega) (by decide)]
        refine lv_bipush (v := nI (120)) hx hb dL_acts_856 (by decide) ?_
        refine lv_irem hx hb dL_acts_858 (by decide) ?_
        rw [show (nI (ac / 16)) - (nI (ac / 16)) / (nI (120)) * (nI (120)) = nI ((ac / 16) % 120) from pk_rem (by omega) (by decide) (by omega)]
        refine fa_iaddN hx hb dL_acts_859 ?_
        refine lv_istore (lv' := [(26, .int (nI (1 + ((ac / 16) % 120)))), (4, .int ((-1 : Int32))), (0, .ref (fa_B G + (0))), (1, .int (nI (ac))), (2, .int (nI (fi))), (3, .int (nI (ho)))]) hx hb dL_acts_860 hl (by decide) rfl (fun ls hl => ?_)
        exact JOIN_862 (1 + ((ac / 16) % 120))  _ _ _ (⟨by omega, by omega⟩) (lv_sub hl [2, 3, 4, 5, 1, 0] rfl) HX1746
      · have ei := fc_ixE hok hpp ep
        have hfi : fi < cm := by have := hk.2.2.2.2.1; omega
        obtain ⟨kd, hkd, ekd⟩ := (hok.1.2.2.2.2.2 pp hpp).1
        refine lv_aload_n hx hb dL_acts_30 rfl (lv_at hl 0 rfl) ?_
        refine lv_iload_n hx hb dL_acts_31 rfl (lv_at hl 2 rfl) ?_
        refine lv_iconst (v := nI (0)) hx hb dL_acts_32 (by decide) ?_
        refine fa_callVip (As := [.int (nI (fi)), .int (nI (0))]) (rest := []) CX HX1579 (g_file l G n hn v r hC (nI (fi)) (nI (0))) ln_L_9 (by omega) rfl rfl rfl rfl (Nat.le_of_ble_eq_true rfl) hl.1 ⟨Nat.le_of_ble_eq_true rfl, Nat.le_of_ble_eq_true rfl⟩ ⟨Nat.le_refl _, Nat.le_refl _⟩ dL_acts_33 (fun x1912 H locs h1911 HX1913 => ?_)
        have h_file := h1911
        have e_33 : x1912 = nI (kd) := ((((h_file A hV.1 hV.2.2.1).trans (fc_filE hV.1 hpp ep)).trans (fb_filP_0 (by decide))).trans ekd)
        subst e_33
        refine lv_istore (lv' := [(4, .int (nI (kd))), (0, .ref (fa_B G + (0))), (1, .int (nI (ac))), (2, .int (nI (fi))), (3, .int (nI (ho)))]) hx hb dL_acts_36 hl (by decide) rfl (fun ls hl => ?_)
        refine lv_iload_n hx hb dL_acts_38 rfl (lv_at hl 2 rfl) ?_
        refine lv_bipush (v := nI (12)) hx hb dL_acts_39 (by decide) ?_
        refine lv_irem hx hb dL_acts_41 (by decide) ?_
        rw [show (nI (ac)) - (nI (ac)) / (nI (12)) * (nI (12)) = nI (ac % 12) from pk_rem (by omega) (by decide) (by omega)]
        have JOIN_96 : ∀  (H : Heap) (locs : List Loc) (ls : Array Slot), (True) → lv_has ls 34 [(0, .ref (fa_B G + (0))), (1, .int (nI (ac))), (2, .int (nI (fi))), (3, .int (nI (ho))), (4, .int ((-1 : Int32)))] → fa_HX G (n) v r s H locs → W p l e (fa_rm 8) s m args below meth c H locs (0) (0) Q (F0 m 96 ls []) := by
          intro  H locs ls hi_96 hl HX1914
          refine lv_aload_n hx hb dL_acts_96 rfl (lv_at hl 0 rfl) ?_
          refine lv_iconst (v := nI (1)) hx hb dL_acts_97 (by decide) ?_
          refine fa_callVip (As := [.int (nI (1))]) (rest := []) CX HX1914 (g_count l G n hn v r hC (nI (1))) ln_L_15 (by omega) rfl rfl rfl rfl (Nat.le_of_ble_eq_true rfl) hl.1 ⟨Nat.le_of_ble_eq_true rfl, Nat.le_of_ble_eq_true rfl⟩ ⟨Nat.le_refl _, Nat.le_refl _⟩ dL_acts_98 (fun x1916 H locs h1915 HX1917 => ?_)
          have h_count := h1915
          have e_98 : x1916 = nI (cm) := (((h_count A hV.1 hV.2.2.1).trans (fb_cntA_1 (by decide))).trans hk.2.1)
          subst e_98
          refine lv_istore (lv' := [(5, .int (nI (cm))), (0, .ref (fa_B G + (0))), (1, .int (nI (ac))), (2, .int (nI (fi))), (3, .int (nI (ho))), (4, .int ((-1 : Int32)))]) hx hb dL_acts_101 hl (by decide) rfl (fun ls hl => ?_)
          refine lv_iconst (v := nI (1)) hx hb dL_acts_103 (by decide) ?_
          refine lv_iload_n hx hb dL_acts_104 rfl (lv_at hl 2 rfl) ?_
          refine lv_bipush (v := nI (8)) hx hb dL_acts_105 (by decide) ?_
          refine lv_ishr hx hb dL_acts_107 ?_
          rw [show (nI (ac)) >>> ((nI (8)) &&& 31) = nI (ac / 256) from fc_shr (k := 8) (by omega) (by decide)]
          refine lv_bipush (v := nI (50)) hx hb dL_acts_108 (by decide) ?_
          refine lv_irem hx hb dL_acts_110 (by decide) ?_
          rw [show (nI (ac / 256)) - (nI (ac / 256)) / (nI (50)) * (nI (50)) = nI ((ac / 256) % 50) from pk_rem (by omega) (by decide) (by omega)]
          refine fa_iaddN hx hb dL_acts_111 ?_
          refine lv_istore (lv' := [(6, .int (nI (1 + ((ac / 256) % 50)))), (5, .int (nI (cm))), (0, .ref (fa_B G + (0))), (1, .int (nI (ac))), (2, .int (nI (fi))), (3, .int (nI (ho))), (4, .int ((-1 : Int32)))]) hx hb dL_acts_112 hl (by decide) rfl (fun ls hl => ?_)
          refine lv_aload_n hx hb dL_acts_114 rfl (lv_at hl 2 rfl) ?_
          refine lv_iconst (v := nI (0)) hx hb dL_acts_115 (by decide) ?_
          refine fa_callVip (As := [.int (nI (0))]) (rest := []) CX HX1917 (g_count l G n hn v r hC (nI (0))) ln_L_15 (by omega) rfl rfl rfl rfl (Nat.le_of_ble_eq_true rfl) hl.1 ⟨Nat.le_of_ble_eq_true rfl, Nat.le_of_ble_eq_true rfl⟩ ⟨Nat.le_refl _, Nat.le_refl _⟩ dL_acts_116 (fun x1919 H locs h1918 HX1920 => ?_)
          have h_count := h1918
          have e_116 : x1919 = nI (A.n) := ((h_count A hV.1 hV.2.2.1).trans (fb_cntA_0 (by decide)))
          subst e_116
          refine lv_bipush (v := nI (24)) hx hb dL_acts_119 (by decide) ?_
          refine lv_icmp_ge (tgt := 145) hx hb dL_acts_121 (by decide) (fun c_121 => ?_) (fun c_121 => ?_)
          · have h24 : 24 ≤ A.n := fa_leN (by omega) (by omega) c_121
            refine lv_iconst (v := nI (0)) hx hb dL_acts_145 (by decide) ?_
            refine lv_istore (lv' := [(7, .int (nI (0))), (6, .int (nI (1 + ((ac / 256) % 50)))), (5, .int (nI (cm))), (0, .ref (fa_B G + (0))), (1, .int (nI (ac))), (2, .int (nI (fi))), (3, .int (nI (ho))), (4, .int ((-1 : Int32)))]) hx hb dL_acts_146 hl (by decide) rfl (fun ls hl => ?_)
            refine lv_aload_n hx hb dL_acts_148 rfl (lv_at hl 3 rfl) ?_
            refine lv_iload_n hx hb dL_acts_149 rfl (lv_at hl 4 rfl) ?_
            refine lv_iconst (v := nI (4)) hx hb dL_acts_150 (by decide) ?_
            refine lv_ishr hx hb dL_acts_151 ?_
            rw [show (nI (ac)) >>> ((nI (4)) &&& 31) = nI (ac / 16) from fc_shr (k := 4) (by omega) (by decide)]
            refine lv_iconst (v := nI (5)) hx hb dL_acts_152 (by decide) ?_
            refine lv_irem hx hb dL_acts_153 (by decide) ?_
            rw [show (nI (ac / 16)) - (nI (ac / 16)) / (nI (5)) * (nI (5)) = nI ((ac / 16) % 5) from pk_rem (by omega) (by decide) (by omega)]
            refine lv_iload hx hb dL_acts_154 (lv_at hl 1 rfl) ?_
            refine fa_callVi (As := [.int (nI ((ac / 16) % 5)), .int (nI (1 + ((ac / 256) % 50)))]) (rest := []) CX HX1920 (g_add5 l G n hn v r hC (nI ((ac / 16) % 5)) (nI (1 + ((ac / 256) % 50)))) ln_L_44 (by omega) rfl rfl rfl rfl (Nat.le_of_ble_eq_true rfl) hl.1 ⟨Nat.le_of_ble_eq_true rfl, Nat.le_of_ble_eq_true rfl⟩ ⟨Nat.le_refl _, Nat.le_refl _⟩ dL_acts_156 (fun x1922 v1923 r1924 H locs h1921 HX1925 => ?_)
            dsimp only at h1921
            have hC_v1923 := h1921.2.1
            have h_add5 := h1921.1
            obtain ⟨hr58_156, hac_156⟩ := h_add5
            obtain ⟨hx_156, hV_156⟩ := hac_156 _ _ hV
            rw [fc_add0 (k := (ac / 16) % 5) (p := 1 + (ac / 256) % 50) (by omega) (by omega) (by omega) (Or.inl h24)] at hx_156 hV_156
            have hV_156 : fb_CV v1923 r1924 A _ := hV_156
            have hI_156 : fb_inj r1924 57 := hi57.congr hr58_156
            have hk_156 := hk
            have e_156 : x1922 = (-4 : Int32) := hx_156
            subst e_156
            refine lv_istore (lv' := [(8, .int ((-4 : Int32))), (7, .int (nI (0))), (6, .int (nI (1 + ((ac / 256) % 50)))), (5, .int (nI (cm))), (0, .ref (fa_B G + (0))), (1, .int (nI (ac))), (2, .int (nI (fi))), (3, .int (nI (ho))), (4, .int ((-1 : Int32)))]) hx hb dL_acts_159 hl (by decide) rfl (fun ls hl => ?_)
            refine lv_iload hx hb dL_acts_161 (lv_at hl 1 rfl) ?_
            refine lv_if_eq (tgt := 219) hx hb dL_acts_163 (by decide) (fun c_163 => ?_) (fun c_163 => ?_)
            · refine lv_iload hx hb dL_acts_219 (lv_at hl 0 rfl) ?_
              refine lv_bipush (v := (-4 : Int32)) hx hb dL_acts_221 (by decide) ?_
              refine lv_icmp_ne (tgt := 230) hx hb dL_acts_223 (by decide) (fun c_223 => ?_) (fun c_223 => ?_)
              · exact absurd (by try decide) c_223
              · refine lv_iconst (v := nI (1)) hx hb dL_acts_226 (by decide) ?_
                refine lv_goto (tgt := 231) hx hb dL_acts_227 (by decide) ?_
                exact RET _ _ _ _ _ _ _ HX1925 dL_acts_231 (by decide) (⟨⟨rfl, A, _, dy, cm, bu, hV_156, hk_156.more (Nat.le_succ _), ⟨by omega, by omega, by omega, by omega⟩, hI_156⟩, hC_v1923, (fa_fr.tr fa_fr.rf (fa_fr.wide h1921.2.2.1 (by omega) (by omega))), (fun k hk => ((h1921.2.2.2 k hk).trans rfl))⟩)
            · exact absurd (by try decide) c_163
          · have h24 : A.n < 24 := fa_ltN (by omega) (by omega) c_121
            refine lv_aload_n hx hb dL_acts_124 rfl (lv_at hl 2 rfl) ?_
            refine lv_iconst (v := nI (2)) hx hb dL_acts_125 (by decide) ?_
            refine fa_callVip (As := [.int (nI (2))]) (rest := []) CX HX1920 (g_count l G n hn v r hC (nI (2))) ln_L_15 (by omega) rfl rfl rfl rfl (Nat.le_of_ble_eq_true rfl) hl.1 ⟨Nat.le_of_ble_eq_true rfl, Nat.le_of_ble_eq_true rfl⟩ ⟨Nat.le_refl _, Nat.le_refl _⟩ dL_acts_126 (fun x1927 H locs h1926 HX1928 => ?_)
            have h_count := h1926
            have e_126 : x1927 = fb_pgs A := ((h_count A hV.1 hV.2.2.1).trans (fb_cntA_2 (by decide)))
            subst e_126
            refine lv_iload hx hb dL_acts_129 (lv_at hl 0 rfl) ?_
            refine lv_iadd hx hb dL_acts_131 ?_
            refine lv_aload_n hx hb dL_acts_132 rfl (lv_at hl 2 rfl) ?_
            refine lv_bipush (v := nI (6)) hx hb dL_acts_133 (by decide) ?_
            refine fa_callVip (As := [.int (nI (6))]) (rest := [.int ((fb_pgs A) + (nI (1 + ((ac / 256) % 50))))]) CX HX1928 (g_setting l G n hn v r hC (nI (6))) ln_L_22 (by omega) rfl rfl rfl rfl (Nat.le_of_ble_eq_true rfl) hl.1 ⟨Nat.le_of_ble_eq_true rfl, Nat.le_of_ble_eq_true rfl⟩ ⟨Nat.le_refl _, Nat.le_refl _⟩ dL_acts_135 (fun x1930 H locs h1929 HX1931 => ?_)
            have h_setting := h1929
            have e_135 : x1930 = A.g 6 := ((h_setting A hV.1 hV.2.2.1).trans (fc_stg (k := 6) (by decide)))
            subst e_135
            refine lv_icmp_gt (tgt := 145) hx hb dL_acts_138 (by decide) (fun c_138 => ?_) (fun c_138 => ?_)
            · refine lv_iconst (v := nI (0)) hx hb dL_acts_145 (by decide) ?_
              refine lv_istore (lv' := [(7, .int (nI (0))), (6, .int (nI (1 + ((ac / 256) % 50)))), (5, .int (nI (cm))), (0, .ref (fa_B G + (0))), (1, .int (nI (ac))), (2, .int (nI (fi))), (3, .int (nI (ho))), (4, .int ((-1 : Int32)))]) hx hb dL_acts_146 hl (by decide) rfl (fun ls hl => ?_)
              refine lv_aload_n hx hb dL_acts_148 rfl (lv_at hl 3 rfl) ?_
              refine lv_iload_n hx hb dL_acts_149 rfl (lv_at hl 4 rfl) ?_
              refine lv_iconst (v := nI (4)) hx hb dL_acts_150 (by decide) ?_
              refine lv_ishr hx hb dL_acts_151 ?_
              rw [show (nI (ac)) >>> ((nI (4)) &&& 31) = nI (ac / 16) from fc_shr (k := 4) (by omega) (by decide)]
              refine lv_iconst (v := nI (5)) hx hb dL_acts_152 (by decide) ?_
              refine lv_irem hx hb dL_acts_153 (by decide) ?_
              rw [show (nI (ac / 16)) - (nI (ac / 16)) / (nI (5)) * (nI (5)) = nI ((ac / 16) % 5) from pk_rem (by omega) (by decide) (by omega)]
              refine lv_iload hx hb dL_acts_154 (lv_at hl 1 rfl) ?_
              refine fa_callVi (As := [.int (nI ((ac / 16) % 5)), .int (nI (1 + ((ac / 256) % 50)))]) (rest := []) CX HX1931 (g_add5 l G n hn v r hC (nI ((ac / 16) % 5)) (nI (1 + ((ac / 256) % 50)))) ln_L_44 (by omega) rfl rfl rfl rfl (Nat.le_of_ble_eq_true rfl) hl.1 ⟨Nat.le_of_ble_eq_true rfl, Nat.le_of_ble_eq_true rfl⟩ ⟨Nat.le_refl _, Nat.le_refl _⟩ dL_acts_156 (fun x1933 v1934 r1935 H locs h1932 HX1936 => ?_)
              dsimp only at h1932
              have hC_v1934 := h1932.2.1
              have h_add5 := h1932.1
              obtain ⟨hr58_156, hac_156⟩ := h_add5
              obtain ⟨hx_156, hV_156⟩ := hac_156 _ _ hV
              rw [fc_add0 (k := (ac / 16) % 5) (p := 1 + (ac / 256) % 50) (by omega) (by omega) (by omega) (Or.inr (Int32.not_le.mpr c_138))] at hx_156 hV_156
              have hV_156 : fb_CV v1934 r1935 A _ := hV_156
              have hI_156 : fb_inj r1935 57 := hi57.congr hr58_156
              have hk_156 := hk
              have e_156 : x1933 = (-4 : Int32) := hx_156
              subst e_156
              refine lv_istore (lv' := [(8, .int ((-4 : Int32))), (7, .int (nI (0))), (6, .int (nI (1 + ((ac / 256) % 50)))), (5, .int (nI (cm))), (0, .ref (fa_B G + (0))), (1, .int (nI (ac))), (2, .int (nI (fi))), (3, .int (nI (ho))), (4, .int ((-1 : Int32)))]) hx hb dL_acts_159 hl (by decide) rfl (fun ls hl => ?_)
              refine lv_iload hx hb dL_acts_161 (lv_at hl 1 rfl) ?_
              refine lv_if_eq (tgt := 219) hx hb dL_acts_163 (by decide) (fun c_163 => ?_) (fun c_163 => ?_)
              · refine lv_iload hx hb dL_acts_219 (lv_at hl 0 rfl) ?_
                refine lv_bipush (v := (-4 : Int32)) hx hb dL_acts_221 (by decide) ?_
                refine lv_icmp_ne (tgt := 230) hx hb dL_acts_223 (by decide) (fun c_223 => ?_) (fun c_223 => ?_)
                · exact absurd (by try decide) c_223
                · refine lv_iconst (v := nI (1)) hx hb dL_acts_226 (by decide) ?_
                  refine lv_goto (tgt := 231) hx hb dL_acts_227 (by decide) ?_
                  exact RET _ _ _ _ _ _ _ HX1936 dL_acts_231 (by decide) (⟨⟨rfl, A, _, dy, cm, bu, hV_156, hk_156.more (Nat.le_succ _), ⟨by omega, by omega, by omega, by omega⟩, hI_156⟩, hC_v1934, (fa_fr.tr fa_fr.rf (fa_fr.wide h1932.2.2.1 (by omega) (by omega))), (fun k hk => ((h1932.2.2.2 k hk).trans rfl))⟩)
              · exact absurd (by try decide) c_163
            · refine lv_iconst (v := nI (1)) hx hb dL_acts_141 (by decide) ?_
              refine lv_goto (tgt := 146) hx hb dL_acts_142 (by decide) ?_
              refine lv_istore (lv' := [(7, .int (nI (1))), (6, .int (nI (1 + ((ac / 256) % 50)))), (5, .int (nI (cm))), (0, .ref (fa_B G + (0))), (1, .int (nI (ac))), (2, .int (nI (fi))), (3, .int (nI (ho))), (4, .int ((-1 : Int32)))]) hx hb dL_acts_146 hl (by decide) rfl (fun ls hl => ?_)
              refine lv_aload_n hx hb dL_acts_148 rfl (lv_at hl 3 rfl) ?_
              refine lv_iload_n hx hb dL_acts_149 rfl (lv_at hl 4 rfl) ?_
              refine lv_iconst (v := nI (4)) hx hb dL_acts_150 (by decide) ?_
              refine lv_ishr hx hb dL_acts_151 ?_
              rw [show (nI (ac)) >>> ((nI (4)) &&& 31) = nI (ac / 16) from fc_shr (k := 4) (by omega) (by decide)]
              refine lv_iconst (v := nI (5)) hx hb dL_acts_152 (by decide) ?_
              refine lv_irem hx hb dL_acts_153 (by decide) ?_
              rw [show (nI (ac / 16)) - (nI (ac / 16)) / (nI (5)) * (nI (5)) = nI ((ac / 16) % 5) from pk_rem (by omega) (by decide) (by omega)]
              refine lv_iload hx hb dL_acts_154 (lv_at hl 1 rfl) ?_
              refine fa_callVi (As := [.int (nI ((ac / 16) % 5)), .int (nI (1 + ((ac / 256) % 50)))]) (rest := []) CX HX1931 (g_add5 l G n hn v r hC (nI ((ac / 16) % 5)) (nI (1 + ((ac / 256) % 50)))) ln_L_44 (by omega) rfl rfl rfl rfl (Nat.le_of_ble_eq_true rfl) hl.1 ⟨Nat.le_of_ble_eq_true rfl, Nat.le_of_ble_eq_true rfl⟩ ⟨Nat.le_refl _, Nat.le_refl _⟩ dL_acts_156 (fun x1938 v1939 r1940 H locs h1937 HX1941 => ?_)
              dsimp only at h1937
              have hC_v1939 := h1937.2.1
              have h_add5 := h1937.1
              obtain ⟨hr58_156, hac_156⟩ := h_add5
              obtain ⟨hx_156, hV_156⟩ := hac_156 _ _ hV
              rw [fc_add1 (k := (ac / 16) % 5) (p := 1 + (ac / 256) % 50) (by omega) (by omega) (by omega) hk.2.1 h24 (by omega) (Int32.not_lt.mp c_138)] at hx_156 hV_156
              have hV_156 : fb_CV v1939 r1940 (fc_addX A (nI ((ac / 16) % 5)) (nI (1 + (ac / 256) % 50))) _ := hV_156
              have hI_156 : fb_inj r1940 57 := hi57.congr hr58_156
              have hk_156 : fc_ok (fc_addX A (nI ((ac / 16) % 5)) (nI (1 + (ac / 256) % 50))) dy (cm + 1) bu (dy / 90) (kn + 1) := ((hk.new (kd := nI ((ac / 16) % 5)) (pg := nI (1 + (ac / 256) % 50)) ⟨_, by omega, by omega, rfl⟩ (by omega)).more (Nat.le_succ _))
              have e_156 : x1938 = nI (cm) := hx_156
              subst e_156
              refine lv_istore (lv' := [(8, .int (nI (cm))), (7, .int (nI (1))), (6, .int (nI (1 + ((ac / 256) % 50)))), (5, .int (nI (cm))), (0, .ref (fa_B G + (0))), (1, .int (nI (ac))), (2, .int (nI (fi))), (3, .int (nI (ho))), (4, .int ((-1 : Int32)))]) hx hb dL_acts_159 hl (by decide) rfl (fun ls hl => ?_)
              refine lv_iload hx hb dL_acts_161 (lv_at hl 1 rfl) ?_
              refine lv_if_eq (tgt := 219) hx hb dL_acts_163 (by decide) (fun c_163 => ?_) (fun c_163 => ?_)
              · exact absurd c_163 (by try decide)
              · refine lv_iload hx hb dL_acts_166 (lv_at hl 0 rfl) ?_
                refine lv_iload hx hb dL_acts_168 (lv_at hl 3 rfl) ?_
                refine lv_icmp_ne (tgt := 215) hx hb dL_acts_170 (by decide) (fun c_170 => ?_) (fun c_170 => ?_)
                · exact absurd rfl c_170
                · refine lv_aload_n hx hb dL_acts_173 rfl (lv_at hl 4 rfl) ?_
                  refine lv_iload hx hb dL_acts_174 (lv_at hl 0 rfl) ?_
                  refine lv_iconst (v := nI (1)) hx hb dL_acts_176 (by decide) ?_
                  refine fa_callVip (As := [.int (nI (cm)), .int (nI (1))]) (rest := []) CX HX1941 (g_file l G n hn v1939 r1940 hC_v1939 (nI (cm)) (nI (1))) ln_L_9 (by omega) rfl rfl rfl rfl (Nat.le_of_ble_eq_true rfl) hl.1 ⟨Nat.le_of_ble_eq_true rfl, Nat.le_of_ble_eq_true rfl⟩ ⟨Nat.le_refl _, Nat.le_refl _⟩ dL_acts_177 (fun x1943 H locs h1942 HX1944 => ?_)
                  have h_file := h1942
                  have e_177 : x1943 = nI (1 + (ac / 256) % 50) := (((h_file (fc_addX A (nI ((ac / 16) % 5)) (nI (1 + (ac / 256) % 50))) hV_156.1 hV_156.2.2.1).trans (fc_addQ hV_156.1 hk.2.1)).trans ((fb_filP_1 (by decide)).trans fc_addF))
                  subst e_177
                  refine lv_iload hx hb dL_acts_180 (lv_at hl 2 rfl) ?_
                  refine lv_icmp_ne (tgt := 215) hx hb dL_acts_182 (by decide) (fun c_182 => ?_) (fun c_182 => ?_)
                  · exact absurd rfl c_182
                  · refine lv_aload_n hx hb dL_acts_185 rfl (lv_at hl 4 rfl) ?_
                    refine lv_iload hx hb dL_acts_186 (lv_at hl 0 rfl) ?_
                    refine lv_iconst (v := nI (2)) hx hb dL_acts_188 (by decide) ?_
                    refine fa_callVip (As := [.int (nI (cm)), .int (nI (2))]) (rest := []) CX HX1944 (g_file l G n hn v1939 r1940 hC_v1939 (nI (cm)) (nI (2))) ln_L_9 (by omega) rfl rfl rfl rfl (Nat.le_of_ble_eq_true rfl) hl.1 ⟨Nat.le_of_ble_eq_true rfl, Nat.le_of_ble_eq_true rfl⟩ ⟨Nat.le_refl _, Nat.le_refl _⟩ dL_acts_189 (fun x1946 H locs h1945 HX1947 => ?_)
                    have h_file := h1945
                    have e_189 : x1946 = nI (dy) := ((((h_file (fc_addX A (nI ((ac / 16) % 5)) (nI (1 + (ac / 256) % 50))) hV_156.1 hV_156.2.2.1).trans (fc_addQ hV_156.1 hk.2.1)).trans ((fb_filP_2 (by decide)).trans fc_addF)).trans hk.1)
                    subst e_189
                    refine lv_aload_n hx hb dL_acts_192 rfl (lv_at hl 4 rfl) ?_
                    refine fa_callVip (As := []) (rest := [.int (nI (dy))]) CX HX1947 (g_now l G n hn v1939 r1940 hC_v1939 ) ln_L_31 (by omega) rfl rfl rfl rfl (Nat.le_of_ble_eq_true rfl) hl.1 ⟨Nat.le_of_ble_eq_true rfl, Nat.le_of_ble_eq_true rfl⟩ ⟨Nat.le_refl _, Nat.le_refl _⟩ dL_acts_193 (fun x1949 H locs h1948 HX1950 => ?_)
                    have h_now := h1948
                    have e_193 : x1949 = nI (dy) := ((h_now.trans hV_156.2.2.1.now).trans hk_156.1)
                    subst e_193
                    refine lv_icmp_ne (tgt := 215) hx hb dL_acts_196 (by decide) (fun c_196 => ?_) (fun c_196 => ?_)
                    · exact absurd rfl c_196
                    · refine lv_aload_n hx hb dL_acts_199 rfl (lv_at hl 4 rfl) ?_
                      refine lv_iload hx hb dL_acts_200 (lv_at hl 0 rfl) ?_
                      refine lv_iconst (v := nI (3)) hx hb dL_acts_202 (by decide) ?_
                      refine fa_callVip (As := [.int (nI (cm)), .int (nI (3))]) (rest := []) CX HX1950 (g_file l G n hn v1939 r1940 hC_v1939 (nI (cm)) (nI (3))) ln_L_9 (by omega) rfl rfl rfl rfl (Nat.le_of_ble_eq_true rfl) hl.1 ⟨Nat.le_of_ble_eq_true rfl, Nat.le_of_ble_eq_true rfl⟩ ⟨Nat.le_refl _, Nat.le_refl _⟩ dL_acts_203 (fun x1952 H locs h1951 HX1953 => ?_)
                      have h_file := h1951
                      have e_203 : x1952 = (-6 : Int32) := ((((h_file (fc_addX A (nI ((ac / 16) % 5)) (nI (1 + (ac / 256) % 50))) hV_156.1 hV_156.2.2.1).trans (fc_addQ hV_156.1 hk.2.1)).trans (fb_filP_3 (by decide))).trans (by rw [fc_addF]; decide))
                      subst e_203
                      refine lv_bipush (v := (-6 : Int32)) hx hb dL_acts_206 (by decide) ?_
                      refine lv_icmp_ne (tgt := 215) hx hb dL_acts_208 (by decide) (fun c_208 => ?_) (fun c_208 => ?_)
                      · exact absurd (by try decide) c_208
                      · refine lv_iconst (v := nI (1)) hx hb dL_acts_211 (by decide) ?_
                        refine lv_goto (tgt := 231) hx hb dL_acts_212 (by decide) ?_
                        exact RET _ _ _ _ _ _ _ HX1953 dL_acts_231 (by decide) (⟨⟨rfl, (fc_addX A (nI ((ac / 16) % 5)) (nI (1 + (ac / 256) % 50))), _, dy, cm + 1, bu, hV_156, hk_156.more (Nat.le_refl _), ⟨by omega, by omega, by omega, by omega⟩, hI_156⟩, hC_v1939, (fa_fr.tr fa_fr.rf (fa_fr.wide h1937.2.2.1 (by omega) (by omega))), (fun k hk => ((h1937.2.2.2 k hk).trans rfl))⟩)
        have JOIN_232 : ∀  (H : Heap) (locs : List Loc) (ls : Array Slot), (True) → lv_has ls 34 [(0, .ref (fa_B G + (0))), (1, .int (nI (ac))), (2, .int (nI (fi))), (3, .int (nI (ho))), (4, .int ((-1 : Int32)))] → fa_HX G (n) v r s H locs → W p l e (fa_rm 8) s m args below meth c H locs (0) (0) Q (F0 m 232 ls []) := by
          intro  H locs ls hi_232 hl HX1954
          refine lv_aload_n hx hb dL_acts_232 rfl (lv_at hl 0 rfl) ?_
          refine lv_iload_n hx hb dL_acts_233 rfl (lv_at hl 2 rfl) ?_
          refine lv_iconst (v := nI (4)) hx hb dL_acts_234 (by decide) ?_
          refine fa_callVip (As := [.int (nI (fi)), .int (nI (4))]) (rest := []) CX HX1954 (g_file l G n hn v r hC (nI (fi)) (nI (4))) ln_L_9 (by omega) rfl rfl rfl rfl (Nat.le_of_ble_eq_true rfl) hl.1 ⟨Nat.le_of_ble_eq_true rfl, Nat.le_of_ble_eq_true rfl⟩ ⟨Nat.le_refl _, Nat.le_refl _⟩ dL_acts_235 (fun x1956 H locs h1955 HX1957 => ?_)
          have h_file := h1955
          have e_235 : x1956 = A.F pp 5 := (((h_file A hV.1 hV.2.2.1).trans (fc_filE hV.1 hpp ep)).trans (fb_filP_4 (by decide)))
          subst e_235
          refine lv_istore (lv' := [(9, .int (A.F pp 5)), (0, .ref (fa_B G + (0))), (1, .int (nI (ac))), (2, .int (nI (fi))), (3, .int (nI (ho))), (4, .int ((-1 : Int32)))]) hx hb dL_acts_238 hl (by decide) rfl (fun ls hl => ?_)
          refine lv_aload_n hx hb dL_acts_240 rfl (lv_at hl 1 rfl) ?_
          refine lv_bipush (v := nI (6)) hx hb dL_acts_241 (by decide) ?_
          refine fa_callVip (As := [.int (nI (6))]) (rest := []) CX HX1957 (g_count l G n hn v r hC (nI (6))) ln_L_15 (by omega) rfl rfl rfl rfl (Nat.le_of_ble_eq_true rfl) hl.1 ⟨Nat.le_of_ble_eq_true rfl, Nat.le_of_ble_eq_true rfl⟩ ⟨Nat.le_refl _, Nat.le_refl _⟩ dL_acts_243 (fun x1959 H locs h1958 HX1960 => ?_)
          have h_count := h1958
          have e_243 : x1959 = A.g 12 := ((h_count A hV.1 hV.2.2.1).trans (fb_cntA_6 (by decide)))
          subst e_243
          refine lv_istore (lv' := [(10, .int (A.g 12)), (9, .int (A.F pp 5)), (0, .ref (fa_B G + (0))), (1, .int (nI (ac))), (2, .int (nI (fi))), (3, .int (nI (ho))), (4, .int ((-1 : Int32)))]) hx hb dL_acts_246 hl (by decide) rfl (fun ls hl => ?_)
          refine lv_aload_n hx hb dL_acts_248 rfl (lv_at hl 2 rfl) ?_
          refine lv_iconst (v := nI (5)) hx hb dL_acts_249 (by decide) ?_
          refine fa_callVip (As := [.int (nI (5))]) (rest := []) CX HX1960 (g_count l G n hn v r hC (nI (5))) ln_L_15 (by omega) rfl rfl rfl rfl (Nat.le_of_ble_eq_true rfl) hl.1 ⟨Nat.le_of_ble_eq_true rfl, Nat.le_of_ble_eq_true rfl⟩ ⟨Nat.le_refl _, Nat.le_refl _⟩ dL_acts_250 (fun x1962 H locs h1961 HX1963 => ?_)
          have h_count := h1961
          have e_250 : x1962 = A.g 11 := ((h_count A hV.1 hV.2.2.1).trans (fb_cntA_5 (by decide)))
          subst e_250
          refine lv_istore (lv' := [(11, .int (A.g 11)), (10, .int (A.g 12)), (9, .int (A.F pp 5)), (0, .ref (fa_B G + (0))), (1, .int (nI (ac))), (2, .int (nI (fi))), (3, .int (nI (ho))), (4, .int ((-1 : Int32)))]) hx hb dL_acts_253 hl (by decide) rfl (fun ls hl => ?_)
          refine lv_aload_n hx hb dL_acts_255 rfl (lv_at hl 3 rfl) ?_
          refine lv_iload_n hx hb dL_acts_256 rfl (lv_at hl 5 rfl) ?_
          refine fa_callVi (As := [.int (nI (fi))]) (rest := []) CX HX1963 (g_ask5 l G n hn v r hC (nI (fi))) ln_L_47 (by omega) rfl rfl rfl rfl (Nat.le_of_ble_eq_true rfl) hl.1 ⟨Nat.le_of_ble_eq_true rfl, Nat.le_of_ble_eq_true rfl⟩ ⟨Nat.le_refl _, Nat.le_refl _⟩ dL_acts_257 (fun x1965 v1966 r1967 H locs h1964 HX1968 => ?_)
          dsimp only at h1964
          have hC_v1966 := h1964.2.1
          have h_ask5 := h1964.1
          obtain ⟨hr58_257, hac_257⟩ := h_ask5
          obtain ⟨hx_257, hV_257⟩ := hac_257 _ _ hV
          rw [fb_askA_s (fc_askC hk.2.1 hfi (by omega)) ei] at hx_257 hV_257
          have hV_257 : fb_CV v1966 r1967 (fb_askp A pp) _ := hV_257
          have hI_257 : fb_inj r1967 57 := hi57.congr hr58_257
          have hk_257 := hk.askp (p := pp)
          have e_257 : x1965 = A.F pp 5 + nI 1 := hx_257
          subst e_257
          refine lv_istore (lv' := [(12, .int (A.F pp 5 + nI 1)), (11, .int (A.g 11)), (10, .int (A.g 12)), (9, .int (A.F pp 5)), (0, .ref (fa_B G + (0))), (1, .int (nI (ac))), (2, .int (nI (fi))), (3, .int (nI (ho))), (4, .int ((-1 : Int32)))]) hx hb dL_acts_260 hl (by decide) rfl (fun ls hl => ?_)
          refine lv_aload_n hx hb dL_acts_262 rfl (lv_at hl 4 rfl) ?_
          refine lv_iconst (v := nI (1)) hx hb dL_acts_263 (by decide) ?_
          refine fa_callVip (As := [.int (nI (1))]) (rest := []) CX HX1968 (g_count l G n hn v1966 r1967 hC_v1966 (nI (1))) ln_L_15 (by omega) rfl rfl rfl rfl (Nat.le_of_ble_eq_true rfl) hl.1 ⟨Nat.le_of_ble_eq_true rfl, Nat.le_of_ble_eq_true rfl⟩ ⟨Nat.le_refl _, Nat.le_refl _⟩ dL_acts_264 (fun x1970 H locs h1969 HX1971 => ?_)
          have h_count := h1969
          have e_264 : x1970 = nI (cm) := (((h_count (fb_askp A pp) hV_257.1 hV_257.2.2.1).trans (fb_cntA_1 (by decide))).trans hk_257.2.1)
          subst e_264
          refine lv_if_ne (tgt := 284) hx hb dL_acts_267 (by decide) (fun c_267 => ?_) (fun c_267 => ?_)
          · refine lv_iload hx hb dL_acts_284 (lv_at hl 8 rfl) ?_
            refine lv_if_ge (tgt := 317) hx hb dL_acts_286 (by decide) (fun c_286 => ?_) (fun c_286 => ?_)
            · refine lv_iload hx hb dL_acts_317 (lv_at hl 0 rfl) ?_
              refine lv_iload hx hb dL_acts_319 (lv_at hl 3 rfl) ?_
              refine lv_iconst (v := nI (1)) hx hb dL_acts_321 (by decide) ?_
              refine lv_iadd hx hb dL_acts_322 ?_
              refine lv_icmp_ne (tgt := 355) hx hb dL_acts_323 (by decide) (fun c_323 => ?_) (fun c_323 => ?_)
              · exact absurd rfl c_323
              · refine lv_aload_n hx hb dL_acts_326 rfl (lv_at hl 4 rfl) ?_
                refine lv_iload_n hx hb dL_acts_327 rfl (lv_at hl 6 rfl) ?_
                refine lv_iconst (v := nI (3)) hx hb dL_acts_328 (by decide) ?_
                refine fa_callVip (As := [.int (nI (fi)), .int (nI (3))]) (rest := []) CX HX1971 (g_file l G n hn v1966 r1967 hC_v1966 (nI (fi)) (nI (3))) ln_L_9 (by omega) rfl rfl rfl rfl (Nat.le_of_ble_eq_true rfl) hl.1 ⟨Nat.le_of_ble_eq_true rfl, Nat.le_of_ble_eq_true rfl⟩ ⟨Nat.le_refl _, Nat.le_refl _⟩ dL_acts_329 (fun x1973 H locs h1972 HX1974 => ?_)
                have h_file := h1972
                have e_329 : x1973 = nI (dy) := ((((h_file (fb_askp A pp) hV_257.1 hV_257.2.2.1).trans (fc_filE hV_257.1 hpp (fc_askF0.trans ep))).trans (fb_filP_3 (by decide))).trans (by rw [fc_askF4, hk.1]; exact fc_m6N (by omega)))
                subst e_329
                refine lv_aload_n hx hb dL_acts_332 rfl (lv_at hl 4 rfl) ?_
                refine fa_callVip (As := []) (rest := [.int (nI (dy))]) CX HX1974 (g_now l G n hn v1966 r1967 hC_v1966 ) ln_L_31 (by omega) rfl rfl rfl rfl (Nat.le_of_ble_eq_true rfl) hl.1 ⟨Nat.le_of_ble_eq_true rfl, Nat.le_of_ble_eq_true rfl⟩ ⟨Nat.le_refl _, Nat.le_refl _⟩ dL_acts_333 (fun x1976 H locs h1975 HX1977 => ?_)
                have h_now := h1975
                have e_333 : x1976 = nI (dy) := ((h_now.trans hV_257.2.2.1.now).trans hk_257.1)
                subst e_333
                refine lv_icmp_ne (tgt := 355) hx hb dL_acts_336 (by decide) (fun c_336 => ?_) (fun c_336 => ?_)
                · exact absurd rfl c_336
                · refine lv_aload_n hx hb dL_acts_339 rfl (lv_at hl 4 rfl) ?_
                  refine lv_iconst (v := nI (5)) hx hb dL_acts_340 (by decide) ?_
                  refine fa_callVip (As := [.int (nI (5))]) (rest := []) CX HX1977 (g_count l G n hn v1966 r1967 hC_v1966 (nI (5))) ln_L_15 (by omega) rfl rfl rfl rfl (Nat.le_of_ble_eq_true rfl) hl.1 ⟨Nat.le_of_ble_eq_true rfl, Nat.le_of_ble_eq_true rfl⟩ ⟨Nat.le_refl _, Nat.le_refl _⟩ dL_acts_341 (fun x1979 H locs h1978 HX1980 => ?_)
                  have h_count := h1978
                  have e_341 : x1979 = (fb_askp A pp).g 11 := ((h_count (fb_askp A pp) hV_257.1 hV_257.2.2.1).trans (fb_cntA_5 (by decide)))
                  subst e_341
                  refine lv_iload hx hb dL_acts_344 (lv_at hl 1 rfl) ?_
                  refine lv_iconst (v := nI (1)) hx hb dL_acts_346 (by decide) ?_
                  refine lv_iadd hx hb dL_acts_347 ?_
                  refine lv_icmp_ne (tgt := 355) hx hb dL_acts_348 (by decide) (fun c_348 => ?_) (fun c_348 => ?_)
                  · exact absurd (show (fb_askp A pp).g 11 = (A.g 11) + (nI (1)) from fb_s1_s _ _ _) c_348
                  · refine lv_iconst (v := nI (1)) hx hb dL_acts_351 (by decide) ?_
                    refine lv_goto (tgt := 356) hx hb dL_acts_352 (by decide) ?_
                    exact RET _ _ _ _ _ _ _ HX1980 dL_acts_356 (by decide) (⟨⟨rfl, (fb_askp A pp), _, dy, cm, bu, hV_257, hk_257.more (Nat.le_refl _), ⟨by omega, by omega, by omega, by omega⟩, hI_257⟩, hC_v1966, (fa_fr.tr fa_fr.rf (fa_fr.wide h1964.2.2.1 (by omega) (by omega))), (fun k hk => ((h1964.2.2.2 k hk).trans rfl))⟩)
            · exact absurd (nI_pos' (n := kd) (by omega)) c_286
          · exact absurd (by first | exact c_267 | exact Decidable.not_not.mp c_267) (nI_ne0 (n := cm) (by omega) (by omega))
        by_cases c_42_0 : nI (ac % 12) = (0 : Int32)
        · refine lv_tableIn (off := 54) (tgt := 96) hx hb dL_acts_42 (by rw [c_42_0]; decide) (by rw [c_42_0]; decide) (by rw [c_42_0]; decide) (by decide) ?_
          exact JOIN_96   _ _ _ (trivial) (lv_sub hl [1, 2, 3, 4, 0] rfl) HX1913
        by_cases c_42_1 : nI (ac % 12) = (1 : Int32)
        · refine lv_tableIn (off := 54) (tgt := 96) hx hb dL_acts_42 (by rw [c_42_1]; decide) (by rw [c_42_1]; decide) (by rw [c_42_1]; decide) (by decide) ?_
          exact JOIN_96   _ _ _ (trivial) (lv_sub hl [1, 2, 3, 4, 0] rfl) HX1913
        by_cases c_42_2 : nI (ac % 12) = (2 : Int32)
        · refine lv_tableIn (off := 54) (tgt := 96) hx hb dL_acts_42 (by rw [c_42_2]; decide) (by rw [c_42_2]; decide) (by rw [c_42_2]; decide) (by decide) ?_
          exact JOIN_96   _ _ _ (trivial) (lv_sub hl [1, 2, 3, 4, 0] rfl) HX1913
        by_cases c_42_3 : nI (ac % 12) = (3 : Int32)
        · refine lv_tableIn (off := 190) (tgt := 232) hx hb dL_acts_42 (by rw [c_42_3]; decide) (by rw [c_42_3]; decide) (by rw [c_42_3]; decide) (by decide) ?_
          exact JOIN_232   _ _ _ (trivial) (lv_sub hl [1, 2, 3, 4, 0] rfl) HX1913
        by_cases c_42_4 : nI (ac % 12) = (4 : Int32)
        · refine lv_tableIn (off := 190) (tgt := 232) hx hb dL_acts_42 (by rw [c_42_4]; decide) (by rw [c_42_4]; decide) (by rw [c_42_4]; decide) (by decide) ?_
          exact JOIN_232   _ _ _ (trivial) (lv_sub hl [1, 2, 3, 4, 0] rfl) HX1913
        by_cases c_42_5 : nI (ac % 12) = (5 : Int32)
        · refine lv_tableIn (off := 315) (tgt := 357) hx hb dL_acts_42 (by rw [c_42_5]; decide) (by rw [c_42_5]; decide) (by rw [c_42_5]; decide) (by decide) ?_
          refine lv_iload_n hx hb dL_acts_357 rfl (lv_at hl 2 rfl) ?_
          refine lv_bipush (v := nI (12)) hx hb dL_acts_358 (by decide) ?_
          refine lv_ishr hx hb dL_acts_360 ?_
          rw [show (nI (ac)) >>> ((nI (12)) &&& 31) = nI (ac / 4096) from fc_shr (k := 12) (by omega) (by decide)]
          refine lv_iconst (v := nI (3)) hx hb dL_acts_361 (by decide) ?_
          refine lv_irem hx hb dL_acts_362 (by decide) ?_
          rw [show (nI (ac / 4096)) - (nI (ac / 4096)) / (nI (3)) * (nI (3)) = nI ((ac / 4096) % 3) from pk_rem (by omega) (by decide) (by omega)]
          have JOIN_385 : ∀ (la : Int32) (yy : Int32) (le : Nat) (H : Heap) (locs : List Loc) (ls : Array Slot), (fc_la dy la yy le) → lv_has ls 34 [(0, .ref (fa_B G + (0))), (1, .int (nI (ac))), (2, .int (nI (fi))), (3, .int (nI (ho))), (4, .int ((-1 : Int32))), (13, .int (la))] → fa_HX G (n) v r s H locs → W p l e (fa_rm 8) s m args below meth c H locs (0) (0) Q (F0 m 385 ls []) := by
            intro la yy le H locs ls hi_385 hl HX1981
            refine lv_aload_n hx hb dL_acts_385 rfl (lv_at hl 0 rfl) ?_
            refine lv_iload_n hx hb dL_acts_386 rfl (lv_at hl 3 rfl) ?_
            refine lv_iload_n hx hb dL_acts_387 rfl (lv_at hl 2 rfl) ?_
            refine lv_iload hx hb dL_acts_388 (lv_at hl 5 rfl) ?_
            refine fa_callVi (As := [.int (nI (ho)), .int (nI (fi)), .int (la)]) (rest := []) CX HX1981 (g_seal5 l G n hn v r hC (nI (ho)) (nI (fi)) (la)) ln_L_50 (by omega) rfl rfl rfl rfl (Nat.le_of_ble_eq_true rfl) hl.1 ⟨Nat.le_of_ble_eq_true rfl, Nat.le_of_ble_eq_true rfl⟩ ⟨Nat.le_refl _, Nat.le_refl _⟩ dL_acts_390 (fun x1983 v1984 r1985 H locs h1982 HX1986 => ?_)
            dsimp only at h1982
            have hC_v1984 := h1982.2.1
            have h_seal5 := h1982.1
            obtain ⟨hr58_390, hac_390⟩ := h_seal5
            obtain ⟨hx_390, hV_390⟩ := hac_390 _ _ hV
            rw [fc_seal1 ei hi_30 hk.1 (by omega) hi_385] at hx_390 hV_390
            have hV_390 : fb_CV v1984 r1985 (A.sF pp (7 + ho) yy) _ := hV_390
            have hI_390 : fb_inj r1985 57 := hi57.congr hr58_390
            have hk_390 := hk.sFo (p := pp) (i := 7 + ho) (x := yy) (by omega)
            have e_390 : x1983 = fb_bits (fb_maskA (A.sF pp (7 + ho) yy) pp) := hx_390
            subst e_390
            refine lv_istore (lv' := [(14, .int (fb_bits (fb_maskA (A.sF pp (7 + ho) yy) pp))), (0, .ref (fa_B G + (0))), (1, .int (nI (ac))), (2, .int (nI (fi))), (3, .int (nI (ho))), (4, .int ((-1 : Int32))), (13, .int (la))]) hx hb dL_acts_393 hl (by decide) rfl (fun ls hl => ?_)
            refine lv_iload hx hb dL_acts_395 (lv_at hl 5 rfl) ?_
            refine lv_if_ge (tgt := 414) hx hb dL_acts_397 (by decide) (fun c_397 => ?_) (fun c_397 => ?_)
            · refine lv_iload hx hb dL_acts_414 (lv_at hl 0 rfl) ?_
              refine lv_iconst (v := nI (1)) hx hb dL_acts_416 (by decide) ?_
              refine lv_icmp_lt (tgt := 468) hx hb dL_acts_417 (by decide) (fun c_417 => ?_) (fun c_417 => ?_)
              · exact absurd c_417 (fc_bits1 (c := fun h => decide ((A.sF pp (7 + ho) yy).g 7 < (A.sF pp (7 + ho) yy).F pp (7 + h))) hi_30 (fc_sealH hk.1 (by omega) hi_385))
              · refine lv_iload hx hb dL_acts_420 (lv_at hl 0 rfl) ?_
                refine lv_bipush (v := nI (8)) hx hb dL_acts_422 (by decide) ?_
                refine lv_icmp_gt (tgt := 468) hx hb dL_acts_424 (by decide) (fun c_424 => ?_) (fun c_424 => ?_)
                · exact absurd c_424 (fc_bits8 _)
                · refine lv_aload_n hx hb dL_acts_427 rfl (lv_at hl 1 rfl) ?_
                  refine lv_iload_n hx hb dL_acts_428 rfl (lv_at hl 4 rfl) ?_
                  refine lv_iload_n hx hb dL_acts_429 rfl (lv_at hl 3 rfl) ?_
                  refine fa_callVip (As := [.int (nI (ho)), .int (nI (fi))]) (rest := []) CX HX1986 (g_sealOf l G n hn v1984 r1985 hC_v1984 (nI (ho)) (nI (fi))) ln_L_28 (by omega) rfl rfl rfl rfl (Nat.le_of_ble_eq_true rfl) hl.1 ⟨Nat.le_of_ble_eq_true rfl, Nat.le_of_ble_eq_true rfl⟩ ⟨Nat.le_refl _, Nat.le_refl _⟩ dL_acts_430 (fun x1988 H locs h1987 HX1989 => ?_)
                  have h_sealOf := h1987
                  have e_430 : x1988 = nI (le) := ((h_sealOf (A.sF pp (7 + ho) yy) hV_390.1 hV_390.2.2.1).trans (fc_slo2 hV_390.1 hpp ep hi_30 hi_385))
                  subst e_430
                  refine lv_iload hx hb dL_acts_433 (lv_at hl 6 rfl) ?_
                  refine lv_if_ge (tgt := 444) hx hb dL_acts_435 (by decide) (fun c_435 => ?_) (fun c_435 => ?_)
                  · refine lv_iload hx hb dL_acts_444 (lv_at hl 6 rfl) ?_
                    refine lv_icmp_ne (tgt := 468) hx hb dL_acts_446 (by decide) (fun c_446 => ?_) (fun c_446 => ?_)
                    · exact absurd (fc_la_p hi_385 c_435).symm c_446
                    · refine lv_aload_n hx hb dL_acts_449 rfl (lv_at hl 1 rfl) ?_
                      refine lv_iload_n hx hb dL_acts_450 rfl (lv_at hl 3 rfl) ?_
                      refine lv_bipush (v := nI (7)) hx hb dL_acts_451 (by decide) ?_
                      refine fa_callVip (As := [.int (nI (fi)), .int (nI (7))]) (rest := []) CX HX1989 (g_file l G n hn v1984 r1985 hC_v1984 (nI (fi)) (nI (7))) ln_L_9 (by omega) rfl rfl rfl rfl (Nat.le_of_ble_eq_true rfl) hl.1 ⟨Nat.le_of_ble_eq_true rfl, Nat.le_of_ble_eq_true rfl⟩ ⟨Nat.le_refl _, Nat.le_refl _⟩ dL_acts_453 (fun x1991 H locs h1990 HX1992 => ?_)
                      have h_file := h1990
                      have e_453 : x1991 = fb_maskA (A.sF pp (7 + ho) yy) pp := (((h_file (A.sF pp (7 + ho) yy) hV_390.1 hV_390.2.2.1).trans (fc_filE hV_390.1 hpp ((fc_sF0 (by omega)).trans ep))).trans (fb_filP_7 (by decide)))
                      subst e_453
                      refine lv_iload_n hx hb dL_acts_456 rfl (lv_at hl 4 rfl) ?_
                      refine lv_ishr hx hb dL_acts_457 ?_
                      refine lv_iconst (v := nI (1)) hx hb dL_acts_458 (by decide) ?_
                      refine lv_iand hx hb dL_acts_459 ?_
                      refine lv_iconst (v := nI (1)) hx hb dL_acts_460 (by decide) ?_
                      refine lv_icmp_ne (tgt := 468) hx hb dL_acts_461 (by decide) (fun c_461 => ?_) (fun c_461 => ?_)
                      · exact absurd (fc_bitk (c := fun h => decide ((A.sF pp (7 + ho) yy).g 7 < (A.sF pp (7 + ho) yy).F pp (7 + h))) hi_30 (fc_sealH hk.1 (by omega) hi_385)) c_461
                      · refine lv_iconst (v := nI (1)) hx hb dL_acts_464 (by decide) ?_
                        refine lv_goto (tgt := 469) hx hb dL_acts_465 (by decide) ?_
                        exact RET _ _ _ _ _ _ _ HX1992 dL_acts_469 (by decide) (⟨⟨rfl, (A.sF pp (7 + ho) yy), _, dy, cm, bu, hV_390, hk_390.more (Nat.le_succ _), ⟨by omega, by omega, by omega, by omega⟩, hI_390⟩, hC_v1984, (fa_fr.tr fa_fr.rf (fa_fr.wide h1982.2.2.1 (by omega) (by omega))), (fun k hk => ((h1982.2.2.2 k hk).trans rfl))⟩)
                  · refine lv_sipush (v := nI (10000)) hx hb dL_acts_438 (by decide) ?_
                    refine lv_goto (tgt := 446) hx hb dL_acts_441 (by decide) ?_
                    refine lv_icmp_ne (tgt := 468) hx hb dL_acts_446 (by decide) (fun c_446 => ?_) (fun c_446 => ?_)
                    · exact absurd (congrArg nI (fc_la_n hi_385 c_435)) c_446
                    · refine lv_aload_n hx hb dL_acts_449 rfl (lv_at hl 1 rfl) ?_
                      refine lv_iload_n hx hb dL_acts_450 rfl (lv_at hl 3 rfl) ?_
                      refine lv_bipush (v := nI (7)) hx hb dL_acts_451 (by decide) ?_
                      refine fa_callVip (As := [.int (nI (fi)), .int (nI (7))]) (rest := []) CX HX1989 (g_file l G n hn v1984 r1985 hC_v1984 (nI (fi)) (nI (7))) ln_L_9 (by omega) rfl rfl rfl rfl (Nat.le_of_ble_eq_true rfl) hl.1 ⟨Nat.le_of_ble_eq_true rfl, Nat.le_of_ble_eq_true rfl⟩ ⟨Nat.le_refl _, Nat.le_refl _⟩ dL_acts_453 (fun x1994 H locs h1993 HX1995 => ?_)
                      have h_file := h1993
                      have e_453 : x1994 = fb_maskA (A.sF pp (7 + ho) yy) pp := (((h_file (A.sF pp (7 + ho) yy) hV_390.1 hV_390.2.2.1).trans (fc_filE hV_390.1 hpp ((fc_sF0 (by omega)).trans ep))).trans (fb_filP_7 (by decide)))
                      subst e_453
                      refine lv_iload_n hx hb dL_acts_456 rfl (lv_at hl 4 rfl) ?_
                      refine lv_ishr hx hb dL_acts_457 ?_
                      refine lv_iconst (v := nI (1)) hx hb dL_acts_458 (by decide) ?_
                      refine lv_iand hx hb dL_acts_459 ?_
                      refine lv_iconst (v := nI (1)) hx hb dL_acts_460 (by decide) ?_
                      refine lv_icmp_ne (tgt := 468) hx hb dL_acts_461 (by decide) (fun c_461 => ?_) (fun c_461 => ?_)
                      · exact absurd (fc_bitk (c := fun h => decide ((A.sF pp (7 + ho) yy).g 7 < (A.sF pp (7 + ho) yy).F pp (7 + h))) hi_30 (fc_sealH hk.1 (by omega) hi_385)) c_461
                      · refine lv_iconst (v := nI (1)) hx hb dL_acts_464 (by decide) ?_
                        refine lv_goto (tgt := 469) hx hb dL_acts_465 (by decide) ?_
                        exact RET _ _ _ _ _ _ _ HX1995 dL_acts_469 (by decide) (⟨⟨rfl, (A.sF pp (7 + ho) yy), _, dy, cm, bu, hV_390, hk_390.more (Nat.le_succ _), ⟨by omega, by omega, by omega, by omega⟩, hI_390⟩, hC_v1984, (fa_fr.tr fa_fr.rf (fa_fr.wide h1982.2.2.1 (by omega) (by omega))), (fun k hk => ((h1982.2.2.2 k hk).trans rfl))⟩)
            · exact absurd (nI_pos' (n := kd) (by omega)) c_397
          refine lv_if_ne (tgt := 370) hx hb dL_acts_363 (by decide) (fun c_363 => ?_) (fun c_363 => ?_)
          · refine lv_aload_n hx hb dL_acts_370 rfl (lv_at hl 1 rfl) ?_
            refine fa_callVip (As := []) (rest := []) CX HX1913 (g_now l G n hn v r hC ) ln_L_31 (by omega) rfl rfl rfl rfl (Nat.le_of_ble_eq_true rfl) hl.1 ⟨Nat.le_of_ble_eq_true rfl, Nat.le_of_ble_eq_true rfl⟩ ⟨Nat.le_refl _, Nat.le_refl _⟩ dL_acts_371 (fun x1997 H locs h1996 HX1998 => ?_)
            have h_now := h1996
            have e_371 : x1997 = nI (dy) := ((h_now.trans hV.2.2.1.now).trans hk.1)
            subst e_371
            refine lv_iload_n hx hb dL_acts_374 rfl (lv_at hl 2 rfl) ?_
            refine lv_bipush (v := nI (12)) hx hb dL_acts_375 (by decide) ?_
            refine lv_ishr hx hb dL_acts_377 ?_
            rw [show (nI (ac)) >>> ((nI (12)) &&& 31) = nI (ac / 4096) from fc_shr (k := 12) (by omega) (by decide)]
            refine lv_sipush (v := nI (300)) hx hb dL_acts_378 (by decide) ?_
            refine lv_irem hx hb dL_acts_381 (by decide) ?_
            rw [show (nI (ac / 4096)) - (nI (ac / 4096)) / (nI (300)) * (nI (300)) = nI ((ac / 4096) % 300) from pk_rem (by omega) (by decide) (by omega)]
            refine fa_iaddN hx hb dL_acts_382 ?_
            refine lv_istore (lv' := [(13, .int (nI (dy + ((ac / 4096) % 300)))), (4, .int (nI (kd))), (0, .ref (fa_B G + (0))), (1, .int (nI (ac))), (2, .int (nI (fi))), (3, .int (nI (ho)))]) hx hb dL_acts_383 hl (by decide) rfl (fun ls hl => ?_)
            exact JOIN_385 (nI (dy + ((ac / 4096) % 300))) (nI (dy + ((ac / 4096) % 300) + 1)) (dy + ((ac / 4096) % 300))  _ _ _ (⟨rfl, Or.inr ⟨rfl, by omega, by omega⟩⟩) (lv_sub hl [2, 3, 4, 5, 1, 0] rfl) HX1998
          · refine lv_iconst (v := (-1 : Int32)) hx hb dL_acts_366 (by decide) ?_
            refine lv_goto (tgt := 383) hx hb dL_acts_367 (by decide) ?_
            refine lv_istore (lv' := [(13, .int ((-1 : Int32))), (4, .int (nI (kd))), (0, .ref (fa_B G + (0))), (1, .int (nI (ac))), (2, .int (nI (fi))), (3, .int (nI (ho)))]) hx hb dL_acts_383 hl (by decide) rfl (fun ls hl => ?_)
            exact JOIN_385 ((-1 : Int32)) (nI 10001) (10000)  _ _ _ (⟨rfl, Or.inl ⟨rfl, rfl⟩⟩) (lv_sub hl [2, 3, 4, 5, 1, 0] rfl) HX1913
        by_cases c_42_6 : nI (ac % 12) = (6 : Int32)
        · refine lv_tableIn (off := 428) (tgt := 470) hx hb dL_acts_42 (by rw [c_42_6]; decide) (by rw [c_42_6]; decide) (by rw [c_42_6]; decide) (by decide) ?_
          by_cases h0 : A.F pp (7 + ho) = 0
          · have hz0 := h0
            refine lv_aload_n hx hb dL_acts_470 rfl (lv_at hl 1 rfl) ?_
            refine lv_iload_n hx hb dL_acts_471 rfl (lv_at hl 4 rfl) ?_
            refine lv_iload_n hx hb dL_acts_472 rfl (lv_at hl 3 rfl) ?_
            refine fa_callVip (As := [.int (nI (ho)), .int (nI (fi))]) (rest := []) CX HX1913 (g_sealOf l G n hn v r hC (nI (ho)) (nI (fi))) ln_L_28 (by omega) rfl rfl rfl rfl (Nat.le_of_ble_eq_true rfl) hl.1 ⟨Nat.le_of_ble_eq_true rfl, Nat.le_of_ble_eq_true rfl⟩ ⟨Nat.le_refl _, Nat.le_refl _⟩ dL_acts_473 (fun x2000 H locs h1999 HX2001 => ?_)
            have h_sealOf := h1999
            have e_473 : x2000 = (-6 : Int32) := ((h_sealOf A hV.1 hV.2.2.1).trans ((fc_slo1 ei hi_30).trans (if_pos h0)))
            subst e_473
            refine lv_istore (lv' := [(15, .int ((-6 : Int32))), (4, .int (nI (kd))), (0, .ref (fa_B G + (0))), (1, .int (nI (ac))), (2, .int (nI (fi))), (3, .int (nI (ho)))]) hx hb dL_acts_476 hl (by decide) rfl (fun ls hl => ?_)
            refine lv_aload_n hx hb dL_acts_478 rfl (lv_at hl 2 rfl) ?_
            refine lv_iload_n hx hb dL_acts_479 rfl (lv_at hl 5 rfl) ?_
            refine lv_iload_n hx hb dL_acts_480 rfl (lv_at hl 4 rfl) ?_
            refine fa_callVi (As := [.int (nI (ho)), .int (nI (fi))]) (rest := []) CX HX2001 (g_lift5 l G n hn v r hC (nI (ho)) (nI (fi))) ln_L_54 (by omega) rfl rfl rfl rfl (Nat.le_of_ble_eq_true rfl) hl.1 ⟨Nat.le_of_ble_eq_true rfl, Nat.le_of_ble_eq_true rfl⟩ ⟨Nat.le_refl _, Nat.le_refl _⟩ dL_acts_481 (fun x2003 v2004 r2005 H locs h2002 HX2006 => ?_)
            dsimp only at h2002
            have hC_v2004 := h2002.2.1
            have h_lift5 := h2002.1
            obtain ⟨hr58_481, hac_481⟩ := h_lift5
            obtain ⟨hx_481, hV_481⟩ := hac_481 _ _ hV
            rw [fc_lift0 ei hi_30 h0] at hx_481 hV_481
            have hV_481 : fb_CV v2004 r2005 A _ := hV_481
            have hI_481 : fb_inj r2005 57 := hi57.congr hr58_481
            have hk_481 := hk
            have e_481 : x2003 = (-1 : Int32) := hx_481
            subst e_481
            refine lv_istore (lv' := [(16, .int ((-1 : Int32))), (15, .int ((-6 : Int32))), (4, .int (nI (kd))), (0, .ref (fa_B G + (0))), (1, .int (nI (ac))), (2, .int (nI (fi))), (3, .int (nI (ho)))]) hx hb dL_acts_484 hl (by decide) rfl (fun ls hl => ?_)
            refine lv_iload hx hb dL_acts_486 (lv_at hl 1 rfl) ?_
            refine lv_if_ge (tgt := 505) hx hb dL_acts_488 (by decide) (fun c_488 => ?_) (fun c_488 => ?_)
            · exact absurd c_488 (by try decide)
            · refine lv_iload hx hb dL_acts_491 (lv_at hl 0 rfl) ?_
              refine lv_iconst (v := (-1 : Int32)) hx hb dL_acts_493 (by decide) ?_
              refine lv_icmp_ne (tgt := 501) hx hb dL_acts_494 (by decide) (fun c_494 => ?_) (fun c_494 => ?_)
              · exact absurd (by try decide) c_494
              · refine lv_iconst (v := nI (1)) hx hb dL_acts_497 (by decide) ?_
                refine lv_goto (tgt := 526) hx hb dL_acts_498 (by decide) ?_
                exact RET _ _ _ _ _ _ _ HX2006 dL_acts_526 (by decide) (⟨⟨rfl, A, _, dy, cm, bu, hV_481, hk_481.more (Nat.le_succ _), ⟨by omega, by omega, by omega, by omega⟩, hI_481⟩, hC_v2004, (fa_fr.tr fa_fr.rf (fa_fr.wide h2002.2.2.1 (by omega) (by omega))), (fun k hk => ((h2002.2.2.2 k hk).trans rfl))⟩)
          · have hz0 := h0
            refine lv_aload_n hx hb dL_acts_470 rfl (lv_at hl 1 rfl) ?_
            refine lv_iload_n hx hb dL_acts_471 rfl (lv_at hl 4 rfl) ?_
            refine lv_iload_n hx hb dL_acts_472 rfl (lv_at hl 3 rfl) ?_
            refine fa_callVip (As := [.int (nI (ho)), .int (nI (fi))]) (rest := []) CX HX1913 (g_sealOf l G n hn v r hC (nI (ho)) (nI (fi))) ln_L_28 (by omega) rfl rfl rfl rfl (Nat.le_of_ble_eq_true rfl) hl.1 ⟨Nat.le_of_ble_eq_true rfl, Nat.le_of_ble_eq_true rfl⟩ ⟨Nat.le_refl _, Nat.le_refl _⟩ dL_acts_473 (fun x2008 H locs h2007 HX2009 => ?_)
            have h_sealOf := h2007
            have e_473 : x2008 = A.F pp (7 + ho) - 1 := ((h_sealOf A hV.1 hV.2.2.1).trans ((fc_slo1 ei hi_30).trans (if_neg h0)))
            subst e_473
            refine lv_istore (lv' := [(15, .int (A.F pp (7 + ho) - 1)), (4, .int (nI (kd))), (0, .ref (fa_B G + (0))), (1, .int (nI (ac))), (2, .int (nI (fi))), (3, .int (nI (ho)))]) hx hb dL_acts_476 hl (by decide) rfl (fun ls hl => ?_)
            refine lv_aload_n hx hb dL_acts_478 rfl (lv_at hl 2 rfl) ?_
            refine lv_iload_n hx hb dL_acts_479 rfl (lv_at hl 5 rfl) ?_
            refine lv_iload_n hx hb dL_acts_480 rfl (lv_at hl 4 rfl) ?_
            refine fa_callVi (As := [.int (nI (ho)), .int (nI (fi))]) (rest := []) CX HX2009 (g_lift5 l G n hn v r hC (nI (ho)) (nI (fi))) ln_L_54 (by omega) rfl rfl rfl rfl (Nat.le_of_ble_eq_true rfl) hl.1 ⟨Nat.le_of_ble_eq_true rfl, Nat.le_of_ble_eq_true rfl⟩ ⟨Nat.le_refl _, Nat.le_refl _⟩ dL_acts_481 (fun x2011 v2012 r2013 H locs h2010 HX2014 => ?_)
            dsimp only at h2010
            have hC_v2012 := h2010.2.1
            have h_lift5 := h2010.1
            obtain ⟨hr58_481, hac_481⟩ := h_lift5
            obtain ⟨hx_481, hV_481⟩ := hac_481 _ _ hV
            rw [fc_lift1 ei hi_30 h0] at hx_481 hV_481
            have hV_481 : fb_CV v2012 r2013 (A.sF pp (7 + ho) 0) _ := hV_481
            have hI_481 : fb_inj r2013 57 := hi57.congr hr58_481
            have hk_481 := hk.sFo (p := pp) (i := 7 + ho) (x := 0) (by omega)
            have e_481 : x2011 = fb_bits (fb_maskA (A.sF pp (7 + ho) 0) pp) := hx_481
            subst e_481
            refine lv_istore (lv' := [(16, .int (fb_bits (fb_maskA (A.sF pp (7 + ho) 0) pp))), (15, .int (A.F pp (7 + ho) - 1)), (4, .int (nI (kd))), (0, .ref (fa_B G + (0))), (1, .int (nI (ac))), (2, .int (nI (fi))), (3, .int (nI (ho)))]) hx hb dL_acts_484 hl (by decide) rfl (fun ls hl => ?_)
            refine lv_iload hx hb dL_acts_486 (lv_at hl 1 rfl) ?_
            refine lv_if_ge (tgt := 505) hx hb dL_acts_488 (by decide) (fun c_488 => ?_) (fun c_488 => ?_)
            · refine lv_iload hx hb dL_acts_505 (lv_at hl 0 rfl) ?_
              refine lv_if_lt (tgt := 525) hx hb dL_acts_507 (by decide) (fun c_507 => ?_) (fun c_507 => ?_)
              · exact absurd c_507 (fc_bits0 _)
              · refine lv_aload_n hx hb dL_acts_510 rfl (lv_at hl 3 rfl) ?_
                refine lv_iload_n hx hb dL_acts_511 rfl (lv_at hl 6 rfl) ?_
                refine lv_iload_n hx hb dL_acts_512 rfl (lv_at hl 5 rfl) ?_
                refine fa_callVip (As := [.int (nI (ho)), .int (nI (fi))]) (rest := []) CX HX2014 (g_sealOf l G n hn v2012 r2013 hC_v2012 (nI (ho)) (nI (fi))) ln_L_28 (by omega) rfl rfl rfl rfl (Nat.le_of_ble_eq_true rfl) hl.1 ⟨Nat.le_of_ble_eq_true rfl, Nat.le_of_ble_eq_true rfl⟩ ⟨Nat.le_refl _, Nat.le_refl _⟩ dL_acts_513 (fun x2016 H locs h2015 HX2017 => ?_)
                have h_sealOf := h2015
                have e_513 : x2016 = (-6 : Int32) := ((h_sealOf (A.sF pp (7 + ho) 0) hV_481.1 hV_481.2.2.1).trans ((fc_slo1 (fc_ixS hV_481.1 hpp ep (by omega)) hi_30).trans (if_pos fc_sealF)))
                subst e_513
                refine lv_bipush (v := (-6 : Int32)) hx hb dL_acts_516 (by decide) ?_
                refine lv_icmp_ne (tgt := 525) hx hb dL_acts_518 (by decide) (fun c_518 => ?_) (fun c_518 => ?_)
                · exact absurd (by try decide) c_518
                · refine lv_iconst (v := nI (1)) hx hb dL_acts_521 (by decide) ?_
                  refine lv_goto (tgt := 526) hx hb dL_acts_522 (by decide) ?_
                  exact RET _ _ _ _ _ _ _ HX2017 dL_acts_526 (by decide) (⟨⟨rfl, (A.sF pp (7 + ho) 0), _, dy, cm, bu, hV_481, hk_481.more (Nat.le_succ _), ⟨by omega, by omega, by omega, by omega⟩, hI_481⟩, hC_v2012, (fa_fr.tr fa_fr.rf (fa_fr.wide h2010.2.2.1 (by omega) (by omega))), (fun k hk => ((h2010.2.2.2 k hk).trans rfl))⟩)
            · exact absurd (Int32.not_lt.mp (fc_slo_pos hok hpp hi_30 h0)) c_488
        by_cases c_42_7 : nI (ac % 12) = (7 : Int32)
        · refine lv_tableIn (off := 485) (tgt := 527) hx hb dL_acts_42 (by rw [c_42_7]; decide) (by rw [c_42_7]; decide) (by rw [c_42_7]; decide) (by decide) ?_
          refine lv_aload_n hx hb dL_acts_527 rfl (lv_at hl 1 rfl) ?_
          refine lv_iconst (v := nI (1)) hx hb dL_acts_528 (by decide) ?_
          refine fa_callVip (As := [.int (nI (1))]) (rest := []) CX HX1913 (g_count l G n hn v r hC (nI (1))) ln_L_15 (by omega) rfl rfl rfl rfl (Nat.le_of_ble_eq_true rfl) hl.1 ⟨Nat.le_of_ble_eq_true rfl, Nat.le_of_ble_eq_true rfl⟩ ⟨Nat.le_refl _, Nat.le_refl _⟩ dL_acts_529 (fun x2019 H locs h2018 HX2020 => ?_)
          have h_count := h2018
          have e_529 : x2019 = nI (cm) := (((h_count A hV.1 hV.2.2.1).trans (fb_cntA_1 (by decide))).trans hk.2.1)
          subst e_529
          have JOIN_551 : ∀ (ta : Nat) (H : Heap) (locs : List Loc) (ls : Array Slot), (ta < cm ∨ (cm = 0 ∧ ta = 0)) → lv_has ls 34 [(0, .ref (fa_B G + (0))), (1, .int (nI (ac))), (2, .int (nI (fi))), (3, .int (nI (ho))), (4, .int ((-1 : Int32))), (17, .int (nI (ta)))] → fa_HX G (n) v r s H locs → W p l e (fa_rm 8) s m args below meth c H locs (0) (0) Q (F0 m 551 ls []) := by
            intro ta H locs ls hi_551 hl HX2021
            rcases fc_split (A := A) (nI ta) with hnt | ⟨tp, htp, etp⟩
            · have hnt2 := hnt
              refine lv_iload hx hb dL_acts_551 (lv_at hl 4 rfl) ?_
              refine lv_if_lt (tgt := 570) hx hb dL_acts_553 (by decide) (fun c_553 => ?_) (fun c_553 => ?_)
              · exact absurd c_553 (nI_pos (n := kd) (by omega))
              · refine lv_aload_n hx hb dL_acts_556 rfl (lv_at hl 0 rfl) ?_
                refine lv_iload hx hb dL_acts_557 (lv_at hl 5 rfl) ?_
                refine lv_iconst (v := nI (0)) hx hb dL_acts_559 (by decide) ?_
                refine fa_callVip (As := [.int (nI (ta)), .int (nI (0))]) (rest := []) CX HX2021 (g_file l G n hn v r hC (nI (ta)) (nI (0))) ln_L_9 (by omega) rfl rfl rfl rfl (Nat.le_of_ble_eq_true rfl) hl.1 ⟨Nat.le_of_ble_eq_true rfl, Nat.le_of_ble_eq_true rfl⟩ ⟨Nat.le_refl _, Nat.le_refl _⟩ dL_acts_560 (fun x2023 H locs h2022 HX2024 => ?_)
                have h_file := h2022
                have e_560 : x2023 = (-1 : Int32) := ((h_file A hV.1 hV.2.2.1).trans (fb_filA_n hnt))
                subst e_560
                refine lv_if_lt (tgt := 570) hx hb dL_acts_563 (by decide) (fun c_563 => ?_) (fun c_563 => ?_)
                · refine lv_iconst (v := nI (0)) hx hb dL_acts_570 (by decide) ?_
                  refine lv_istore (lv' := [(18, .int (nI (0))), (0, .ref (fa_B G + (0))), (1, .int (nI (ac))), (2, .int (nI (fi))), (3, .int (nI (ho))), (4, .int ((-1 : Int32))), (17, .int (nI (ta)))]) hx hb dL_acts_571 hl (by decide) rfl (fun ls hl => ?_)
                  refine lv_aload_n hx hb dL_acts_573 rfl (lv_at hl 1 rfl) ?_
                  refine lv_iload_n hx hb dL_acts_574 rfl (lv_at hl 3 rfl) ?_
                  refine lv_iload hx hb dL_acts_575 (lv_at hl 6 rfl) ?_
                  refine fa_callVi (As := [.int (nI (fi)), .int (nI (ta))]) (rest := []) CX HX2024 (g_refer5 l G n hn v r hC (nI (fi)) (nI (ta))) ln_L_57 (by omega) rfl rfl rfl rfl (Nat.le_of_ble_eq_true rfl) hl.1 ⟨Nat.le_of_ble_eq_true rfl, Nat.le_of_ble_eq_true rfl⟩ ⟨Nat.le_refl _, Nat.le_refl _⟩ dL_acts_577 (fun x2026 v2027 r2028 H locs h2025 HX2029 => ?_)
                  dsimp only at h2025
                  have hC_v2027 := h2025.2.1
                  have h_refer5 := h2025.1
                  obtain ⟨hr58_577, hac_577⟩ := h_refer5
                  obtain ⟨hx_577, hV_577⟩ := hac_577 _ _ hV
                  rw [fb_refA_m ei hnt] at hx_577 hV_577
                  have hV_577 : fb_CV v2027 r2028 A _ := hV_577
                  have hI_577 : fb_inj r2028 57 := hi57.congr hr58_577
                  have hk_577 := hk
                  have e_577 : x2026 = (-1 : Int32) := hx_577
                  subst e_577
                  refine lv_istore (lv' := [(19, .int ((-1 : Int32))), (18, .int (nI (0))), (0, .ref (fa_B G + (0))), (1, .int (nI (ac))), (2, .int (nI (fi))), (3, .int (nI (ho))), (4, .int ((-1 : Int32))), (17, .int (nI (ta)))]) hx hb dL_acts_580 hl (by decide) rfl (fun ls hl => ?_)
                  refine lv_iload hx hb dL_acts_582 (lv_at hl 1 rfl) ?_
                  refine lv_if_eq (tgt := 619) hx hb dL_acts_584 (by decide) (fun c_584 => ?_) (fun c_584 => ?_)
                  · refine lv_iload hx hb dL_acts_619 (lv_at hl 0 rfl) ?_
                    refine lv_iconst (v := (-1 : Int32)) hx hb dL_acts_621 (by decide) ?_
                    refine lv_icmp_ne (tgt := 629) hx hb dL_acts_622 (by decide) (fun c_622 => ?_) (fun c_622 => ?_)
                    · exact absurd (by try decide) c_622
                    · refine lv_iconst (v := nI (1)) hx hb dL_acts_625 (by decide) ?_
                      refine lv_goto (tgt := 630) hx hb dL_acts_626 (by decide) ?_
                      exact RET _ _ _ _ _ _ _ HX2029 dL_acts_630 (by decide) (⟨⟨rfl, A, _, dy, cm, bu, hV_577, hk_577.more (Nat.le_succ _), ⟨by omega, by omega, by omega, by omega⟩, hI_577⟩, hC_v2027, (fa_fr.tr fa_fr.rf (fa_fr.wide h2025.2.2.1 (by omega) (by omega))), (fun k hk => ((h2025.2.2.2 k hk).trans rfl))⟩)
                  · exact absurd (by try decide) c_584
                · exact absurd (by try decide) c_563
            · have eti := fc_ixE hok htp etp
              obtain ⟨kt, hkt, ekt⟩ := (hok.1.2.2.2.2.2 tp htp).1
              refine lv_iload hx hb dL_acts_551 (lv_at hl 4 rfl) ?_
              refine lv_if_lt (tgt := 570) hx hb dL_acts_553 (by decide) (fun c_553 => ?_) (fun c_553 => ?_)
              · exact absurd c_553 (nI_pos (n := kd) (by omega))
              · refine lv_aload_n hx hb dL_acts_556 rfl (lv_at hl 0 rfl) ?_
                refine lv_iload hx hb dL_acts_557 (lv_at hl 5 rfl) ?_
                refine lv_iconst (v := nI (0)) hx hb dL_acts_559 (by decide) ?_
                refine fa_callVip (As := [.int (nI (ta)), .int (nI (0))]) (rest := []) CX HX2021 (g_file l G n hn v r hC (nI (ta)) (nI (0))) ln_L_9 (by omega) rfl rfl rfl rfl (Nat.le_of_ble_eq_true rfl) hl.1 ⟨Nat.le_of_ble_eq_true rfl, Nat.le_of_ble_eq_true rfl⟩ ⟨Nat.le_refl _, Nat.le_refl _⟩ dL_acts_560 (fun x2031 H locs h2030 HX2032 => ?_)
                have h_file := h2030
                have e_560 : x2031 = nI (kt) := ((((h_file A hV.1 hV.2.2.1).trans (fc_filE hV.1 htp etp)).trans (fb_filP_0 (by decide))).trans ekt)
                subst e_560
                refine lv_if_lt (tgt := 570) hx hb dL_acts_563 (by decide) (fun c_563 => ?_) (fun c_563 => ?_)
                · exact absurd c_563 (nI_pos (n := kt) (by omega))
                · refine lv_iconst (v := nI (1)) hx hb dL_acts_566 (by decide) ?_
                  refine lv_goto (tgt := 571) hx hb dL_acts_567 (by decide) ?_
                  refine lv_istore (lv' := [(18, .int (nI (1))), (0, .ref (fa_B G + (0))), (1, .int (nI (ac))), (2, .int (nI (fi))), (3, .int (nI (ho))), (4, .int ((-1 : Int32))), (17, .int (nI (ta)))]) hx hb dL_acts_571 hl (by decide) rfl (fun ls hl => ?_)
                  refine lv_aload_n hx hb dL_acts_573 rfl (lv_at hl 1 rfl) ?_
                  refine lv_iload_n hx hb dL_acts_574 rfl (lv_at hl 3 rfl) ?_
                  refine lv_iload hx hb dL_acts_575 (lv_at hl 6 rfl) ?_
                  refine fa_callVi (As := [.int (nI (fi)), .int (nI (ta))]) (rest := []) CX HX2032 (g_refer5 l G n hn v r hC (nI (fi)) (nI (ta))) ln_L_57 (by omega) rfl rfl rfl rfl (Nat.le_of_ble_eq_true rfl) hl.1 ⟨Nat.le_of_ble_eq_true rfl, Nat.le_of_ble_eq_true rfl⟩ ⟨Nat.le_refl _, Nat.le_refl _⟩ dL_acts_577 (fun x2034 v2035 r2036 H locs h2033 HX2037 => ?_)
                  dsimp only at h2033
                  have hC_v2035 := h2033.2.1
                  have h_refer5 := h2033.1
                  obtain ⟨hr58_577, hac_577⟩ := h_refer5
                  obtain ⟨hx_577, hV_577⟩ := hac_577 _ _ hV
                  rw [fb_refA_s ei eti] at hx_577 hV_577
                  have hV_577 : fb_CV v2035 r2036 (A.sF pp 6 (nI (ta))) _ := hV_577
                  have hI_577 : fb_inj r2036 57 := hi57.congr hr58_577
                  have hk_577 := hk.sFo (p := pp) (i := 6) (x := nI (ta)) (by decide)
                  have e_577 : x2034 = fb_refs (A.sF pp 6 (nI (ta))) (nI (ta)) := hx_577
                  subst e_577
                  refine lv_istore (lv' := [(19, .int (fb_refs (A.sF pp 6 (nI (ta))) (nI (ta)))), (18, .int (nI (1))), (0, .ref (fa_B G + (0))), (1, .int (nI (ac))), (2, .int (nI (fi))), (3, .int (nI (ho))), (4, .int ((-1 : Int32))), (17, .int (nI (ta)))]) hx hb dL_acts_580 hl (by decide) rfl (fun ls hl => ?_)
                  refine lv_iload hx hb dL_acts_582 (lv_at hl 1 rfl) ?_
                  refine lv_if_eq (tgt := 619) hx hb dL_acts_584 (by decide) (fun c_584 => ?_) (fun c_584 => ?_)
                  · exact absurd c_584 (by try decide)
                  · refine lv_iload hx hb dL_acts_587 (lv_at hl 0 rfl) ?_
                    refine lv_aload_n hx hb dL_acts_589 rfl (lv_at hl 2 rfl) ?_
                    refine lv_iload hx hb dL_acts_590 (lv_at hl 7 rfl) ?_
                    refine lv_bipush (v := nI (8)) hx hb dL_acts_592 (by decide) ?_
                    refine fa_callVip (As := [.int (nI (ta)), .int (nI (8))]) (rest := [.int (fb_refs (A.sF pp 6 (nI (ta))) (nI (ta)))]) CX HX2037 (g_file l G n hn v2035 r2036 hC_v2035 (nI (ta)) (nI (8))) ln_L_9 (by omega) rfl rfl rfl rfl (Nat.le_of_ble_eq_true rfl) hl.1 ⟨Nat.le_of_ble_eq_true rfl, Nat.le_of_ble_eq_true rfl⟩ ⟨Nat.le_refl _, Nat.le_refl _⟩ dL_acts_594 (fun x2039 H locs h2038 HX2040 => ?_)
                    have h_file := h2038
                    have e_594 : x2039 = fb_refs (A.sF pp 6 (nI (ta))) (nI (ta)) := ((((h_file (A.sF pp 6 (nI (ta))) hV_577.1 hV_577.2.2.1).trans (fc_filE hV_577.1 htp ((fc_sF0 (by decide)).trans etp))).trans (fb_filP_8 (by decide))).trans (by rw [show (A.sF pp 6 (nI (ta))).F tp 0 = nI ta from ((fc_sF0 (by decide)).trans etp)]))
                    subst e_594
                    refine lv_icmp_ne (tgt := 615) hx hb dL_acts_597 (by decide) (fun c_597 => ?_) (fun c_597 => ?_)
                    · exact absurd rfl c_597
                    · refine lv_aload_n hx hb dL_acts_600 rfl (lv_at hl 2 rfl) ?_
                      refine lv_iload_n hx hb dL_acts_601 rfl (lv_at hl 4 rfl) ?_
                      refine lv_iconst (v := nI (5)) hx hb dL_acts_602 (by decide) ?_
                      refine fa_callVip (As := [.int (nI (fi)), .int (nI (5))]) (rest := []) CX HX2040 (g_file l G n hn v2035 r2036 hC_v2035 (nI (fi)) (nI (5))) ln_L_9 (by omega) rfl rfl rfl rfl (Nat.le_of_ble_eq_true rfl) hl.1 ⟨Nat.le_of_ble_eq_true rfl, Nat.le_of_ble_eq_true rfl⟩ ⟨Nat.le_refl _, Nat.le_refl _⟩ dL_acts_603 (fun x2042 H locs h2041 HX2043 => ?_)
                      have h_file := h2041
                      have e_603 : x2042 = nI (ta) := ((((h_file (A.sF pp 6 (nI (ta))) hV_577.1 hV_577.2.2.1).trans (fc_filE hV_577.1 hpp ((fc_sF0 (by decide)).trans ep))).trans (fb_filP_5 (by decide))).trans (by rw [show (A.sF pp 6 (nI (ta))).F pp 6 = nI ta from fa_u_s _ _ _ _]; exact fc_m6N (by omega)))
                      subst e_603
                      refine lv_iload hx hb dL_acts_606 (lv_at hl 7 rfl) ?_
                      refine lv_icmp_ne (tgt := 615) hx hb dL_acts_608 (by decide) (fun c_608 => ?_) (fun c_608 => ?_)
                      · exact absurd rfl c_608
                      · refine lv_iconst (v := nI (1)) hx hb dL_acts_611 (by decide) ?_
                        refine lv_goto (tgt := 630) hx hb dL_acts_612 (by decide) ?_
                        exact RET _ _ _ _ _ _ _ HX2043 dL_acts_630 (by decide) (⟨⟨rfl, (A.sF pp 6 (nI (ta))), _, dy, cm, bu, hV_577, hk_577.more (Nat.le_succ _), ⟨by omega, by omega, by omega, by omega⟩, hI_577⟩, hC_v2035, (fa_fr.tr fa_fr.rf (fa_fr.wide h2033.2.2.1 (by omega) (by omega))), (fun k hk => ((h2033.2.2.2 k hk).trans rfl))⟩)
          refine lv_if_ne (tgt := 539) hx hb dL_acts_532 (by decide) (fun c_532 => ?_) (fun c_532 => ?_)
          · have hcm1 : 0 < cm := by
              refine Nat.pos_of_ne_zero (fun z => c_532 ?_)
              rw [z]; decide
            refine lv_iload_n hx hb dL_acts_539 rfl (lv_at hl 2 rfl) ?_
            refine lv_bipush (v := nI (12)) hx hb dL_acts_540 (by decide) ?_
            refine lv_ishr hx hb dL_acts_542 ?_
            rw [show (nI (ac)) >>> ((nI (12)) &&& 31) = nI (ac / 4096) from fc_shr (k := 12) (by omega) (by decide)]
            refine lv_aload_n hx hb dL_acts_543 rfl (lv_at hl 1 rfl) ?_
            refine lv_iconst (v := nI (1)) hx hb dL_acts_544 (by decide) ?_
            refine fa_callVip (As := [.int (nI (1))]) (rest := [.int (nI (ac / 4096))]) CX HX2020 (g_count l G n hn v r hC (nI (1))) ln_L_15 (by omega) rfl rfl rfl rfl (Nat.le_of_ble_eq_true rfl) hl.1 ⟨Nat.le_of_ble_eq_true rfl, Nat.le_of_ble_eq_true rfl⟩ ⟨Nat.le_refl _, Nat.le_refl _⟩ dL_acts_545 (fun x2045 H locs h2044 HX2046 => ?_)
            have h_count := h2044
            have e_545 : x2045 = nI (cm) := (((h_count A hV.1 hV.2.2.1).trans (fb_cntA_1 (by decide))).trans hk.2.1)
            subst e_545
            refine lv_irem hx hb dL_acts_548 (nI_ne0 hcm1 (by omega)) ?_
            rw [show (nI (ac / 4096)) - (nI (ac / 4096)) / (nI (cm)) * (nI (cm)) = nI ((ac / 4096) % cm) from pk_rem (by omega) hcm1 (by omega)]
            refine lv_istore (lv' := [(17, .int (nI ((ac / 4096) % cm))), (4, .int (nI (kd))), (0, .ref (fa_B G + (0))), (1, .int (nI (ac))), (2, .int (nI (fi))), (3, .int (nI (ho)))]) hx hb dL_acts_549 hl (by decide) rfl (fun ls hl => ?_)
            exact JOIN_551 ((ac / 4096) % cm)  _ _ _ (Or.inl (Nat.mod_lt _ hcm1)) (lv_sub hl [2, 3, 4, 5, 1, 0] rfl) HX2046
          · have hcm1 : cm = 0 := fa_nIinj (by omega) (by decide) (by first | exact c_532 | exact Decidable.not_not.mp c_532)
            refine lv_iconst (v := nI (0)) hx hb dL_acts_535 (by decide) ?_
            refine lv_goto (tgt := 549) hx hb dL_acts_536 (by decide) ?_
            refine lv_istore (lv' := [(17, .int (nI (0))), (4, .int (nI (kd))), (0, .ref (fa_B G + (0))), (1, .int (nI (ac))), (2, .int (nI (fi))), (3, .int (nI (ho)))]) hx hb dL_acts_549 hl (by decide) rfl (fun ls hl => ?_)
            exact JOIN_551 (0)  _ _ _ (Or.inr ⟨hcm1, rfl⟩) (lv_sub hl [2, 3, 4, 5, 1, 0] rfl) HX2020
        by_cases c_42_8 : nI (ac % 12) = (8 : Int32)
        · refine lv_tableIn (off := 589) (tgt := 631) hx hb dL_acts_42 (by rw [c_42_8]; decide) (by rw [c_42_8]; decide) (by rw [c_42_8]; decide) (by decide) ?_
          refine lv_aload_n hx hb dL_acts_631 rfl (lv_at hl 1 rfl) ?_
          refine fa_callVip (As := []) (rest := []) CX HX1913 (g_now l G n hn v r hC ) ln_L_31 (by omega) rfl rfl rfl rfl (Nat.le_of_ble_eq_true rfl) hl.1 ⟨Nat.le_of_ble_eq_true rfl, Nat.le_of_ble_eq_true rfl⟩ ⟨Nat.le_refl _, Nat.le_refl _⟩ dL_acts_632 (fun x2048 H locs h2047 HX2049 => ?_)
          have h_now := h2047
          have e_632 : x2048 = nI (dy) := ((h_now.trans hV.2.2.1.now).trans hk.1)
          subst e_632
          refine lv_iconst (v := nI (1)) hx hb dL_acts_635 (by decide) ?_
          refine fa_iaddN hx hb dL_acts_636 ?_
          refine lv_iload_n hx hb dL_acts_637 rfl (lv_at hl 2 rfl) ?_
          refine lv_bipush (v := nI (9)) hx hb dL_acts_638 (by decide) ?_
          refine lv_ishr hx hb dL_acts_640 ?_
          rw [show (nI (ac)) >>> ((nI (9)) &&& 31) = nI (ac / 512) from fc_shr (k := 9) (by omega) (by decide)]
          refine lv_sipush (v := nI (200)) hx hb dL_acts_641 (by decide) ?_
          refine lv_irem hx hb dL_acts_644 (by decide) ?_
          rw [show (nI (ac / 512)) - (nI (ac / 512)) / (nI (200)) * (nI (200)) = nI ((ac / 512) % 200) from pk_rem (by omega) (by decide) (by omega)]
          refine fa_iaddN hx hb dL_acts_645 ?_
          refine lv_istore (lv' := [(20, .int (nI (dy + 1 + ((ac / 512) % 200)))), (4, .int (nI (kd))), (0, .ref (fa_B G + (0))), (1, .int (nI (ac))), (2, .int (nI (fi))), (3, .int (nI (ho)))]) hx hb dL_acts_646 hl (by decide) rfl (fun ls hl => ?_)
          refine lv_aload_n hx hb dL_acts_648 rfl (lv_at hl 2 rfl) ?_
          refine lv_bipush (v := nI (8)) hx hb dL_acts_649 (by decide) ?_
          refine fa_callVip (As := [.int (nI (8))]) (rest := []) CX HX2049 (g_count l G n hn v r hC (nI (8))) ln_L_15 (by omega) rfl rfl rfl rfl (Nat.le_of_ble_eq_true rfl) hl.1 ⟨Nat.le_of_ble_eq_true rfl, Nat.le_of_ble_eq_true rfl⟩ ⟨Nat.le_refl _, Nat.le_refl _⟩ dL_acts_651 (fun x2051 H locs h2050 HX2052 => ?_)
          have h_count := h2050
          have e_651 : x2051 = nI (A.q.length) := ((h_count A hV.1 hV.2.2.1).trans (fb_cntA_8 (by decide)))
          subst e_651
          refine lv_istore (lv' := [(21, .int (nI (A.q.length))), (20, .int (nI (dy + 1 + ((ac / 512) % 200)))), (4, .int (nI (kd))), (0, .ref (fa_B G + (0))), (1, .int (nI (ac))), (2, .int (nI (fi))), (3, .int (nI (ho)))]) hx hb dL_acts_654 hl (by decide) rfl (fun ls hl => ?_)
          rcases (show ((nI fi, nI (dy + 1 + (ac / 512) % 200)) ∈ A.q) ∨ (¬ (nI fi, nI (dy + 1 + (ac / 512) % 200)) ∈ A.q ∧ 8 ≤ A.q.length) ∨ (¬ (nI fi, nI (dy + 1 + (ac / 512) % 200)) ∈ A.q ∧ ¬ 8 ≤ A.q.length) from by (by_cases z : (nI fi, nI (dy + 1 + (ac / 512) % 200)) ∈ A.q; exact Or.inl z; by_cases y : 8 ≤ A.q.length; exact Or.inr (Or.inl ⟨z, y⟩); exact Or.inr (Or.inr ⟨z, y⟩))) with hmm | ⟨hmm, h8q⟩ | ⟨hmm, h8q⟩
          · have hmm2 := hmm
            refine lv_aload_n hx hb dL_acts_656 rfl (lv_at hl 3 rfl) ?_
            refine lv_iload_n hx hb dL_acts_657 rfl (lv_at hl 5 rfl) ?_
            refine lv_iload hx hb dL_acts_658 (lv_at hl 1 rfl) ?_
            refine fa_callVi (As := [.int (nI (fi)), .int (nI (dy + 1 + ((ac / 512) % 200)))]) (rest := []) CX HX2052 (g_reserve5 l G n hn v r hC (nI (fi)) (nI (dy + 1 + ((ac / 512) % 200)))) ln_L_60 (by omega) rfl rfl rfl rfl (Nat.le_of_ble_eq_true rfl) hl.1 ⟨Nat.le_of_ble_eq_true rfl, Nat.le_of_ble_eq_true rfl⟩ ⟨Nat.le_refl _, Nat.le_refl _⟩ dL_acts_660 (fun x2054 v2055 r2056 H locs h2053 HX2057 => ?_)
            dsimp only at h2053
            have hC_v2055 := h2053.2.1
            have h_reserve5 := h2053.1
            obtain ⟨hr58_660, hac_660⟩ := h_reserve5
            obtain ⟨hx_660, hV_660⟩ := hac_660 _ _ hV
            rw [fb_resA_p ei (fc_res1 ei hk.1 (x := dy + 1 + (ac / 512) % 200) (by omega) (by omega)) hmm] at hx_660 hV_660
            have hV_660 : fb_CV v2055 r2056 A _ := hV_660
            have hI_660 : fb_inj r2056 57 := hi57.congr hr58_660
            have hk_660 := hk
            have e_660 : x2054 = (-5 : Int32) := hx_660
            subst e_660
            refine lv_istore (lv' := [(22, .int ((-5 : Int32))), (21, .int (nI (A.q.length))), (20, .int (nI (dy + 1 + ((ac / 512) % 200)))), (4, .int (nI (kd))), (0, .ref (fa_B G + (0))), (1, .int (nI (ac))), (2, .int (nI (fi))), (3, .int (nI (ho)))]) hx hb dL_acts_663 hl (by decide) rfl (fun ls hl => ?_)
            refine lv_iload hx hb dL_acts_665 (lv_at hl 3 rfl) ?_
            refine lv_if_ge (tgt := 684) hx hb dL_acts_667 (by decide) (fun c_667 => ?_) (fun c_667 => ?_)
            · refine lv_iload hx hb dL_acts_684 (lv_at hl 0 rfl) ?_
              refine lv_bipush (v := (-5 : Int32)) hx hb dL_acts_686 (by decide) ?_
              refine lv_icmp_eq (tgt := 749) hx hb dL_acts_688 (by decide) (fun c_688 => ?_) (fun c_688 => ?_)
              · refine lv_iconst (v := nI (1)) hx hb dL_acts_749 (by decide) ?_
                refine lv_goto (tgt := 754) hx hb dL_acts_750 (by decide) ?_
                exact RET _ _ _ _ _ _ _ HX2057 dL_acts_754 (by decide) (⟨⟨rfl, A, _, dy, cm, bu, hV_660, hk_660.more (Nat.le_succ _), ⟨by omega, by omega, by omega, by omega⟩, hI_660⟩, hC_v2055, (fa_fr.tr fa_fr.rf (fa_fr.wide h2053.2.2.1 (by omega) (by omega))), (fun k hk => ((h2053.2.2.2 k hk).trans rfl))⟩)
              · exact absurd (by try decide) c_688
            · exact absurd (nI_pos' (n := kd) (by omega)) c_667
          · have hmm2 := hmm
            refine lv_aload_n hx hb dL_acts_656 rfl (lv_at hl 3 rfl) ?_
            refine lv_iload_n hx hb dL_acts_657 rfl (lv_at hl 5 rfl) ?_
            refine lv_iload hx hb dL_acts_658 (lv_at hl 1 rfl) ?_
            refine fa_callVi (As := [.int (nI (fi)), .int (nI (dy + 1 + ((ac / 512) % 200)))]) (rest := []) CX HX2052 (g_reserve5 l G n hn v r hC (nI (fi)) (nI (dy + 1 + ((ac / 512) % 200)))) ln_L_60 (by omega) rfl rfl rfl rfl (Nat.le_of_ble_eq_true rfl) hl.1 ⟨Nat.le_of_ble_eq_true rfl, Nat.le_of_ble_eq_true rfl⟩ ⟨Nat.le_refl _, Nat.le_refl _⟩ dL_acts_660 (fun x2059 v2060 r2061 H locs h2058 HX2062 => ?_)
            dsimp only at h2058
            have hC_v2060 := h2058.2.1
            have h_reserve5 := h2058.1
            obtain ⟨hr58_660, hac_660⟩ := h_reserve5
            obtain ⟨hx_660, hV_660⟩ := hac_660 _ _ hV
            rw [fb_resA_m ei (fc_res1 ei hk.1 (x := dy + 1 + (ac / 512) % 200) (by omega) (by omega)) hmm h8q] at hx_660 hV_660
            have hV_660 : fb_CV v2060 r2061 A _ := hV_660
            have hI_660 : fb_inj r2061 57 := hi57.congr hr58_660
            have hk_660 := hk
            have e_660 : x2059 = (-4 : Int32) := hx_660
            subst e_660
            refine lv_istore (lv' := [(22, .int ((-4 : Int32))), (21, .int (nI (A.q.length))), (20, .int (nI (dy + 1 + ((ac / 512) % 200)))), (4, .int (nI (kd))), (0, .ref (fa_B G + (0))), (1, .int (nI (ac))), (2, .int (nI (fi))), (3, .int (nI (ho)))]) hx hb dL_acts_663 hl (by decide) rfl (fun ls hl => ?_)
            refine lv_iload hx hb dL_acts_665 (lv_at hl 3 rfl) ?_
            refine lv_if_ge (tgt := 684) hx hb dL_acts_667 (by decide) (fun c_667 => ?_) (fun c_667 => ?_)
            · refine lv_iload hx hb dL_acts_684 (lv_at hl 0 rfl) ?_
              refine lv_bipush (v := (-5 : Int32)) hx hb dL_acts_686 (by decide) ?_
              refine lv_icmp_eq (tgt := 749) hx hb dL_acts_688 (by decide) (fun c_688 => ?_) (fun c_688 => ?_)
              · exact absurd c_688 (by try decide)
              · refine lv_iload hx hb dL_acts_691 (lv_at hl 1 rfl) ?_
                refine lv_bipush (v := nI (8)) hx hb dL_acts_693 (by decide) ?_
                refine lv_icmp_ne (tgt := 708) hx hb dL_acts_695 (by decide) (fun c_695 => ?_) (fun c_695 => ?_)
                · exact absurd (congrArg nI (show A.q.length = 8 by omega)) c_695
                · refine lv_iload hx hb dL_acts_698 (lv_at hl 0 rfl) ?_
                  refine lv_bipush (v := (-4 : Int32)) hx hb dL_acts_700 (by decide) ?_
                  refine lv_icmp_ne (tgt := 753) hx hb dL_acts_702 (by decide) (fun c_702 => ?_) (fun c_702 => ?_)
                  · exact absurd (by try decide) c_702
                  · refine lv_goto (tgt := 749) hx hb dL_acts_705 (by decide) ?_
                    refine lv_iconst (v := nI (1)) hx hb dL_acts_749 (by decide) ?_
                    refine lv_goto (tgt := 754) hx hb dL_acts_750 (by decide) ?_
                    exact RET _ _ _ _ _ _ _ HX2062 dL_acts_754 (by decide) (⟨⟨rfl, A, _, dy, cm, bu, hV_660, hk_660.more (Nat.le_succ _), ⟨by omega, by omega, by omega, by omega⟩, hI_660⟩, hC_v2060, (fa_fr.tr fa_fr.rf (fa_fr.wide h2058.2.2.1 (by omega) (by omega))), (fun k hk => ((h2058.2.2.2 k hk).trans rfl))⟩)
            · exact absurd (nI_pos' (n := kd) (by omega)) c_667
          · have hmm2 := hmm
            refine lv_aload_n hx hb dL_acts_656 rfl (lv_at hl 3 rfl) ?_
            refine lv_iload_n hx hb dL_acts_657 rfl (lv_at hl 5 rfl) ?_
            refine lv_iload hx hb dL_acts_658 (lv_at hl 1 rfl) ?_
            refine fa_callVi (As := [.int (nI (fi)), .int (nI (dy + 1 + ((ac / 512) % 200)))]) (rest := []) CX HX2052 (g_reserve5 l G n hn v r hC (nI (fi)) (nI (dy + 1 + ((ac / 512) % 200)))) ln_L_60 (by omega) rfl rfl rfl rfl (Nat.le_of_ble_eq_true rfl) hl.1 ⟨Nat.le_of_ble_eq_true rfl, Nat.le_of_ble_eq_true rfl⟩ ⟨Nat.le_refl _, Nat.le_refl _⟩ dL_acts_660 (fun x2064 v2065 r2066 H locs h2063 HX2067 => ?_)
            dsimp only at h2063
            have hC_v2065 := h2063.2.1
            have h_reserve5 := h2063.1
            obtain ⟨hr58_660, hac_660⟩ := h_reserve5
            obtain ⟨hx_660, hV_660⟩ := hac_660 _ _ hV
            rw [fb_resA_s ei (fc_res1 ei hk.1 (x := dy + 1 + (ac / 512) % 200) (by omega) (by omega)) hmm h8q] at hx_660 hV_660
            have hV_660 : fb_CV v2065 r2066 (A.sq ((nI (fi), nI (dy + 1 + (ac / 512) % 200)) :: A.q)) _ := hV_660
            have hI_660 : fb_inj r2066 57 := hi57.congr hr58_660
            have hk_660 := hk.sqo (q := (nI (fi), nI (dy + 1 + (ac / 512) % 200)) :: A.q)
            have e_660 : x2064 = nI (A.q.length + 1) := hx_660
            subst e_660
            refine lv_istore (lv' := [(22, .int (nI (A.q.length + 1))), (21, .int (nI (A.q.length))), (20, .int (nI (dy + 1 + ((ac / 512) % 200)))), (4, .int (nI (kd))), (0, .ref (fa_B G + (0))), (1, .int (nI (ac))), (2, .int (nI (fi))), (3, .int (nI (ho)))]) hx hb dL_acts_663 hl (by decide) rfl (fun ls hl => ?_)
            refine lv_iload hx hb dL_acts_665 (lv_at hl 3 rfl) ?_
            refine lv_if_ge (tgt := 684) hx hb dL_acts_667 (by decide) (fun c_667 => ?_) (fun c_667 => ?_)
            · refine lv_iload hx hb dL_acts_684 (lv_at hl 0 rfl) ?_
              refine lv_bipush (v := (-5 : Int32)) hx hb dL_acts_686 (by decide) ?_
              refine lv_icmp_eq (tgt := 749) hx hb dL_acts_688 (by decide) (fun c_688 => ?_) (fun c_688 => ?_)
              · exact absurd c_688 (fc_ne5 (by omega))
              · refine lv_iload hx hb dL_acts_691 (lv_at hl 1 rfl) ?_
                refine lv_bipush (v := nI (8)) hx hb dL_acts_693 (by decide) ?_
                refine lv_icmp_ne (tgt := 708) hx hb dL_acts_695 (by decide) (fun c_695 => ?_) (fun c_695 => ?_)
                · refine lv_iload hx hb dL_acts_708 (lv_at hl 0 rfl) ?_
                  refine lv_iload hx hb dL_acts_710 (lv_at hl 1 rfl) ?_
                  refine lv_iconst (v := nI (1)) hx hb dL_acts_712 (by decide) ?_
                  refine fa_iaddN hx hb dL_acts_713 ?_
                  refine lv_icmp_ne (tgt := 753) hx hb dL_acts_714 (by decide) (fun c_714 => ?_) (fun c_714 => ?_)
                  · exact absurd rfl c_714
                  · refine lv_aload_n hx hb dL_acts_717 rfl (lv_at hl 4 rfl) ?_
                    refine lv_iload_n hx hb dL_acts_718 rfl (lv_at hl 6 rfl) ?_
                    refine lv_iload hx hb dL_acts_719 (lv_at hl 2 rfl) ?_
                    refine fa_callVi (As := [.int (nI (fi)), .int (nI (dy + 1 + ((ac / 512) % 200)))]) (rest := []) CX HX2067 (g_reserve5 l G n hn v2065 r2066 hC_v2065 (nI (fi)) (nI (dy + 1 + ((ac / 512) % 200)))) ln_L_60 (by omega) rfl rfl rfl rfl (Nat.le_of_ble_eq_true rfl) hl.1 ⟨Nat.le_of_ble_eq_true rfl, Nat.le_of_ble_eq_true rfl⟩ ⟨Nat.le_refl _, Nat.le_refl _⟩ dL_acts_721 (fun x2069 v2070 r2071 H locs h2068 HX2072 => ?_)
                    dsimp only at h2068
                    have hC_v2070 := h2068.2.1
                    have h_reserve5 := h2068.1
                    obtain ⟨hr58_721, hac_721⟩ := h_reserve5
                    obtain ⟨hx_721, hV_721⟩ := hac_721 _ _ hV_660
                    rw [show fb_resA (A.sq ((nI (fi), nI (dy + 1 + (ac / 512) % 200)) :: A.q)) (nI fi) (nI (dy + 1 + (ac / 512) % 200)) = ((-5 : Int32), A.sq ((nI (fi), nI (dy + 1 + (ac / 512) % 200)) :: A.q)) from fb_resA_p (A := A.sq ((nI (fi), nI (dy + 1 + (ac / 512) % 200)) :: A.q)) ei (fc_res1 ei hk.1 (x := dy + 1 + (ac / 512) % 200) (by omega) (by omega)) List.mem_cons_self] at hx_721 hV_721
                    have hV_721 : fb_CV v2070 r2071 (A.sq ((nI (fi), nI (dy + 1 + (ac / 512) % 200)) :: A.q)) _ := hV_721
                    have hI_721 : fb_inj r2071 57 := hI_660.congr hr58_721
                    have hk_721 := hk_660
                    have e_721 : x2069 = (-5 : Int32) := hx_721
                    subst e_721
                    refine lv_bipush (v := (-5 : Int32)) hx hb dL_acts_724 (by decide) ?_
                    refine lv_icmp_ne (tgt := 753) hx hb dL_acts_726 (by decide) (fun c_726 => ?_) (fun c_726 => ?_)
                    · exact absurd (by try decide) c_726
                    · refine lv_iload_n hx hb dL_acts_729 rfl (lv_at hl 5 rfl) ?_
                      refine lv_iconst (v := nI (4)) hx hb dL_acts_730 (by decide) ?_
                      refine lv_ishr hx hb dL_acts_731 ?_
                      rw [show (nI (ac)) >>> ((nI (4)) &&& 31) = nI (ac / 16) from fc_shr (k := 4) (by omega) (by decide)]
                      refine lv_iconst (v := nI (4)) hx hb dL_acts_732 (by decide) ?_
                      refine lv_irem hx hb dL_acts_733 (by decide) ?_
                      rw [show (nI (ac / 16)) - (nI (ac / 16)) / (nI (4)) * (nI (4)) = nI ((ac / 16) % 4) from pk_rem (by omega) (by decide) (by omega)]
                      refine lv_if_gt (tgt := 749) hx hb dL_acts_734 (by decide) (fun c_734 => ?_) (fun c_734 => ?_)
                      · refine lv_iconst (v := nI (1)) hx hb dL_acts_749 (by decide) ?_
                        refine lv_goto (tgt := 754) hx hb dL_acts_750 (by decide) ?_
                        exact RET _ _ _ _ _ _ _ HX2072 dL_acts_754 (by decide) (⟨⟨rfl, (A.sq ((nI (fi), nI (dy + 1 + (ac / 512) % 200)) :: A.q)), _, dy, cm, bu, hV_721, hk_721.more (Nat.le_succ _), ⟨by omega, by omega, by omega, by omega⟩, hI_721⟩, hC_v2070, (fa_fr.tr (fa_fr.tr fa_fr.rf (fa_fr.wide h2063.2.2.1 (by omega) (by omega))) (fa_fr.wide h2068.2.2.1 (by omega) (by omega))), (fun k hk => ((h2068.2.2.2 k hk).trans ((h2063.2.2.2 k hk).trans rfl)))⟩)
                      · refine lv_aload_n hx hb dL_acts_737 rfl (lv_at hl 4 rfl) ?_
                        refine lv_iload_n hx hb dL_acts_738 rfl (lv_at hl 6 rfl) ?_
                        refine lv_iload hx hb dL_acts_739 (lv_at hl 2 rfl) ?_
                        refine fa_callVi (As := [.int (nI (fi)), .int (nI (dy + 1 + ((ac / 512) % 200)))]) (rest := []) CX HX2072 (g_cancel5 l G n hn v2070 r2071 hC_v2070 (nI (fi)) (nI (dy + 1 + ((ac / 512) % 200)))) ln_L_63 (by omega) rfl rfl rfl rfl (Nat.le_of_ble_eq_true rfl) hl.1 ⟨Nat.le_of_ble_eq_true rfl, Nat.le_of_ble_eq_true rfl⟩ ⟨Nat.le_refl _, Nat.le_refl _⟩ dL_acts_741 (fun x2074 v2075 r2076 H locs h2073 HX2077 => ?_)
                        dsimp only at h2073
                        have hC_v2075 := h2073.2.1
                        have h_cancel5 := h2073.1
                        obtain ⟨hr58_741, hac_741⟩ := h_cancel5
                        obtain ⟨hx_741, hV_741⟩ := hac_741 _ _ hV_721
                        rw [show fb_canA (A.sq ((nI (fi), nI (dy + 1 + (ac / 512) % 200)) :: A.q)) (nI fi) (nI (dy + 1 + (ac / 512) % 200)) = (nI (((nI (fi), nI (dy + 1 + (ac / 512) % 200)) :: A.q).length - 1), (A.sq ((nI (fi), nI (dy + 1 + (ac / 512) % 200)) :: A.q)).sq (((nI (fi), nI (dy + 1 + (ac / 512) % 200)) :: A.q).erase (nI (fi), nI (dy + 1 + (ac / 512) % 200)))) from fb_canA_s (A := A.sq ((nI (fi), nI (dy + 1 + (ac / 512) % 200)) :: A.q)) List.mem_cons_self] at hx_741 hV_741
                        have hV_741 : fb_CV v2075 r2076 ((A.sq ((nI (fi), nI (dy + 1 + (ac / 512) % 200)) :: A.q)).sq (((nI (fi), nI (dy + 1 + (ac / 512) % 200)) :: A.q).erase (nI (fi), nI (dy + 1 + (ac / 512) % 200)))) _ := hV_741
                        have hI_741 : fb_inj r2076 57 := hI_721.congr hr58_741
                        have hk_741 := hk_721.sqo (q := ((nI (fi), nI (dy + 1 + (ac / 512) % 200)) :: A.q).erase (nI (fi), nI (dy + 1 + (ac / 512) % 200)))
                        have e_741 : x2074 = nI (A.q.length) := hx_741
                        subst e_741
                        refine lv_iload hx hb dL_acts_744 (lv_at hl 1 rfl) ?_
                        refine lv_icmp_ne (tgt := 753) hx hb dL_acts_746 (by decide) (fun c_746 => ?_) (fun c_746 => ?_)
                        · exact absurd rfl c_746
                        · refine lv_iconst (v := nI (1)) hx hb dL_acts_749 (by decide) ?_
                          refine lv_goto (tgt := 754) hx hb dL_acts_750 (by decide) ?_
                          exact RET _ _ _ _ _ _ _ HX2077 dL_acts_754 (by decide) (⟨⟨rfl, ((A.sq ((nI (fi), nI (dy + 1 + (ac / 512) % 200)) :: A.q)).sq (((nI (fi), nI (dy + 1 + (ac / 512) % 200)) :: A.q).erase (nI (fi), nI (dy + 1 + (ac / 512) % 200)))), _, dy, cm, bu, hV_741, hk_741.more (Nat.le_succ _), ⟨by omega, by omega, by omega, by omega⟩, hI_741⟩, hC_v2075, (fa_fr.tr (fa_fr.tr (fa_fr.tr fa_fr.rf (fa_fr.wide h2063.2.2.1 (by omega) (by omega))) (fa_fr.wide h2068.2.2.1 (by omega) (by omega))) (fa_fr.wide h2073.2.2.1 (by omega) (by omega))), (fun k hk => ((h2073.2.2.2 k hk).trans ((h2068.2.2.2 k hk).trans ((h2063.2.2.2 k hk).trans rfl))))⟩)
                · exact absurd (fa_nIinj (by omega) (by decide) c_695) (by omega)
            · exact absurd (nI_pos' (n := kd) (by omega)) c_667
        by_cases c_42_9 : nI (ac % 12) = (9 : Int32)
        · refine lv_tableIn (off := 713) (tgt := 755) hx hb dL_acts_42 (by rw [c_42_9]; decide) (by rw [c_42_9]; decide) (by rw [c_42_9]; decide) (by decide) ?_
          have JOIN_763 : ∀ (wh : Nat) (H : Heap) (locs : List Loc) (ls : Array Slot), (wh < 7) → lv_has ls 34 [(0, .ref (fa_B G + (0))), (1, .int (nI (ac))), (2, .int (nI (fi))), (3, .int (nI (ho))), (4, .int ((-1 : Int32))), (23, .int (nI (wh)))] → fa_HX G (n) v r s H locs → W p l e (fa_rm 8) s m args below meth c H locs (0) (0) Q (F0 m 763 ls []) := by
            intro wh H locs ls hi_763 hl HX2078
            refine lv_iload hx hb dL_acts_763 (lv_at hl 5 rfl) ?_
            refine lv_iconst (v := nI (5)) hx hb dL_acts_765 (by decide) ?_
            have JOIN_814 : ∀ (va : Nat) (H : Heap) (locs : List Loc) (ls : Array Slot), (fc_va wh va) → lv_has ls 34 [(0, .ref (fa_B G + (0))), (1, .int (nI (ac))), (2, .int (nI (fi))), (3, .int (nI (ho))), (4, .int ((-1 : Int32))), (23, .int (nI (wh))), (24, .int (nI (va)))] → fa_HX G (n) v r s H locs → W p l e (fa_rm 8) s m args below meth c H locs (0) (0) Q (F0 m 814 ls []) := by
              intro va H locs ls hi_814 hl HX2079
              refine lv_aload_n hx hb dL_acts_814 rfl (lv_at hl 0 rfl) ?_
              refine lv_iload hx hb dL_acts_815 (lv_at hl 5 rfl) ?_
              refine fa_callVip (As := [.int (nI (wh))]) (rest := []) CX HX2079 (g_setting l G n hn v r hC (nI (wh))) ln_L_22 (by omega) rfl rfl rfl rfl (Nat.le_of_ble_eq_true rfl) hl.1 ⟨Nat.le_of_ble_eq_true rfl, Nat.le_of_ble_eq_true rfl⟩ ⟨Nat.le_refl _, Nat.le_refl _⟩ dL_acts_817 (fun x2081 H locs h2080 HX2082 => ?_)
              have h_setting := h2080
              have e_817 : x2081 = A.g wh := ((h_setting A hV.1 hV.2.2.1).trans (fc_stg hi_763))
              subst e_817
              refine lv_istore (lv' := [(25, .int (A.g wh)), (0, .ref (fa_B G + (0))), (1, .int (nI (ac))), (2, .int (nI (fi))), (3, .int (nI (ho))), (4, .int ((-1 : Int32))), (23, .int (nI (wh))), (24, .int (nI (va)))]) hx hb dL_acts_820 hl (by decide) rfl (fun ls hl => ?_)
              refine lv_aload_n hx hb dL_acts_822 rfl (lv_at hl 1 rfl) ?_
              refine lv_iload hx hb dL_acts_823 (lv_at hl 6 rfl) ?_
              refine lv_iload hx hb dL_acts_825 (lv_at hl 7 rfl) ?_
              refine fa_callVi (As := [.int (nI (wh)), .int (nI (va))]) (rest := []) CX HX2082 (g_set5 l G n hn v r hC (nI (wh)) (nI (va))) ln_L_66 (by omega) rfl rfl rfl rfl (Nat.le_of_ble_eq_true rfl) hl.1 ⟨Nat.le_of_ble_eq_true rfl, Nat.le_of_ble_eq_true rfl⟩ ⟨Nat.le_refl _, Nat.le_refl _⟩ dL_acts_827 (fun x2084 v2085 r2086 H locs h2083 HX2087 => ?_)
              dsimp only at h2083
              have hC_v2085 := h2083.2.1
              have h_set5 := h2083.1
              obtain ⟨hr58_827, hac_827⟩ := h_set5
              obtain ⟨hx_827, hV_827⟩ := hac_827 _ _ hV
              rw [fc_set1 hi_814] at hx_827 hV_827
              have hV_827 : fb_CV v2085 r2086 (A.sg wh (nI (va))) _ := hV_827
              have hI_827 : fb_inj r2086 57 := hi57.congr hr58_827
              have hk_827 := hk.set1 hi_763 (fc_setS hk.2.2.2.2.2.2.1 hi_814)
              have e_827 : x2084 = A.g wh := hx_827
              subst e_827
              refine lv_iload hx hb dL_acts_830 (lv_at hl 0 rfl) ?_
              refine lv_icmp_ne (tgt := 850) hx hb dL_acts_832 (by decide) (fun c_832 => ?_) (fun c_832 => ?_)
              · exact absurd rfl c_832
              · refine lv_aload_n hx hb dL_acts_835 rfl (lv_at hl 1 rfl) ?_
                refine lv_iload hx hb dL_acts_836 (lv_at hl 6 rfl) ?_
                refine fa_callVip (As := [.int (nI (wh))]) (rest := []) CX HX2087 (g_setting l G n hn v2085 r2086 hC_v2085 (nI (wh))) ln_L_22 (by omega) rfl rfl rfl rfl (Nat.le_of_ble_eq_true rfl) hl.1 ⟨Nat.le_of_ble_eq_true rfl, Nat.le_of_ble_eq_true rfl⟩ ⟨Nat.le_refl _, Nat.le_refl _⟩ dL_acts_838 (fun x2089 H locs h2088 HX2090 => ?_)
                have h_setting := h2088
                have e_838 : x2089 = nI (va) := ((h_setting (A.sg wh (nI (va))) hV_827.1 hV_827.2.2.1).trans ((fc_stg hi_763).trans (fb_s1_s _ _ _)))
                subst e_838
                refine lv_iload hx hb dL_acts_841 (lv_at hl 7 rfl) ?_
                refine lv_icmp_ne (tgt := 850) hx hb dL_acts_843 (by decide) (fun c_843 => ?_) (fun c_843 => ?_)
                · exact absurd rfl c_843
                · refine lv_iconst (v := nI (1)) hx hb dL_acts_846 (by decide) ?_
                  refine lv_goto (tgt := 851) hx hb dL_acts_847 (by decide) ?_
                  exact RET _ _ _ _ _ _ _ HX2090 dL_acts_851 (by decide) (⟨⟨rfl, (A.sg wh (nI (va))), _, dy, cm, bu, hV_827, hk_827.more (Nat.le_succ _), ⟨by omega, by omega, by omega, by omega⟩, hI_827⟩, hC_v2085, (fa_fr.tr fa_fr.rf (fa_fr.wide h2083.2.2.1 (by omega) (by omega))), (fun k hk => ((h2083.2.2.2 k hk).trans rfl))⟩)
            refine lv_icmp_ge (tgt := 783) hx hb dL_acts_766 (by decide) (fun c_766 => ?_) (fun c_766 => ?_)
            · have hw5 : 5 ≤ wh := fa_leN (by omega) (by omega) c_766
              refine lv_iload hx hb dL_acts_783 (lv_at hl 5 rfl) ?_
              refine lv_iconst (v := nI (5)) hx hb dL_acts_785 (by decide) ?_
              refine lv_icmp_ne (tgt := 801) hx hb dL_acts_786 (by decide) (fun c_786 => ?_) (fun c_786 => ?_)
              · have hw6 : ¬ wh = 5 := fun z => c_786 (by rw [z])
                refine lv_bipush (v := nI (50)) hx hb dL_acts_801 (by decide) ?_
                refine lv_iload_n hx hb dL_acts_803 rfl (lv_at hl 1 rfl) ?_
                refine lv_bipush (v := nI (8)) hx hb dL_acts_804 (by decide) ?_
                refine lv_ishr hx hb dL_acts_806 ?_
                rw [show (nI (ac)) >>> ((nI (8)) &&& 31) = nI (ac / 256) from fc_shr (k := 8) (by omega) (by decide)]
                refine lv_sipush (v := nI (551)) hx hb dL_acts_807 (by decide) ?_
                refine lv_irem hx hb dL_acts_810 (by decide) ?_
                rw [show (nI (ac / 256)) - (nI (ac / 256)) / (nI (551)) * (nI (551)) = nI ((ac / 256) % 551) from pk_rem (by omega) (by decide) (by omega)]
                refine fa_iaddN hx hb dL_acts_811 ?_
                refine lv_istore (lv' := [(24, .int (nI (50 + ((ac / 256) % 551)))), (0, .ref (fa_B G + (0))), (1, .int (nI (ac))), (2, .int (nI (fi))), (3, .int (nI (ho))), (4, .int ((-1 : Int32))), (23, .int (nI (wh)))]) hx hb dL_acts_812 hl (by decide) rfl (fun ls hl => ?_)
                exact JOIN_814 (50 + ((ac / 256) % 551))  _ _ _ (by unfold fc_va; omega) (lv_sub hl [1, 2, 3, 4, 5, 6, 0] rfl) HX2078
              · have hw6 : wh = 5 := fa_nIinj (by omega) (by omega) c_786
                refine lv_iconst (v := nI (1)) hx hb dL_acts_789 (by decide) ?_
                refine lv_iload_n hx hb dL_acts_790 rfl (lv_at hl 1 rfl) ?_
                refine lv_bipush (v := nI (8)) hx hb dL_acts_791 (by decide) ?_
                refine lv_ishr hx hb dL_acts_793 ?_
                rw [show (nI (ac)) >>> ((nI (8)) &&& 31) = nI (ac / 256) from fc_shr (k := 8) (by omega) (by decide)]
                refine lv_bipush (v := nI (20)) hx hb dL_acts_794 (by decide) ?_
                refine lv_irem hx hb dL_acts_796 (by decide) ?_
                rw [show (nI (ac / 256)) - (nI (ac / 256)) / (nI (20)) * (nI (20)) = nI ((ac / 256) % 20) from pk_rem (by omega) (by decide) (by omega)]
                refine fa_iaddN hx hb dL_acts_797 ?_
                refine lv_goto (tgt := 812) hx hb dL_acts_798 (by decide) ?_
                refine lv_istore (lv' := [(24, .int (nI (1 + ((ac / 256) % 20)))), (0, .ref (fa_B G + (0))), (1, .int (nI (ac))), (2, .int (nI (fi))), (3, .int (nI (ho))), (4, .int ((-1 : Int32))), (23, .int (nI (wh)))]) hx hb dL_acts_812 hl (by decide) rfl (fun ls hl => ?_)
                exact JOIN_814 (1 + ((ac / 256) % 20))  _ _ _ (by unfold fc_va; omega) (lv_sub hl [1, 2, 3, 4, 5, 6, 0] rfl) HX2078
            · have hw5 : wh < 5 := fa_ltN (by omega) (by omega) c_766
              refine lv_bipush (v := nI (30)) hx hb dL_acts_769 (by decide) ?_
              refine lv_iload_n hx hb dL_acts_771 rfl (lv_at hl 1 rfl) ?_
              refine lv_bipush (v := nI (8)) hx hb dL_acts_772 (by decide) ?_
              refine lv_ishr hx hb dL_acts_774 ?_
              rw [show (nI (ac)) >>> ((nI (8)) &&& 31) = nI (ac / 256) from fc_shr (k := 8) (by omega) (by decide)]
              refine lv_sipush (v := nI (300)) hx hb dL_acts_775 (by decide) ?_
              refine lv_irem hx hb dL_acts_778 (by decide) ?_
              rw [show (nI (ac / 256)) - (nI (ac / 256)) / (nI (300)) * (nI (300)) = nI ((ac / 256) % 300) from pk_rem (by omega) (by decide) (by omega)]
              refine fa_iaddN hx hb dL_acts_779 ?_
              refine lv_goto (tgt := 812) hx hb dL_acts_780 (by decide) ?_
              refine lv_istore (lv' := [(24, .int (nI (30 + ((ac / 256) % 300)))), (0, .ref (fa_B G + (0))), (1, .int (nI (ac))), (2, .int (nI (fi))), (3, .int (nI (ho))), (4, .int ((-1 : Int32))), (23, .int (nI (wh)))]) hx hb dL_acts_812 hl (by decide) rfl (fun ls hl => ?_)
              exact JOIN_814 (30 + ((ac / 256) % 300))  _ _ _ (by unfold fc_va; omega) (lv_sub hl [1, 2, 3, 4, 5, 6, 0] rfl) HX2078
          refine lv_iload_n hx hb dL_acts_755 rfl (lv_at hl 2 rfl) ?_
          refine lv_iconst (v := nI (4)) hx hb dL_acts_756 (by decide) ?_
          refine lv_ishr hx hb dL_acts_757 ?_
          rw [show (nI (ac)) >>> ((nI (4)) &&& 31) = nI (ac / 16) from fc_shr (k := 4) (by omega) (by decide)]
          refine lv_bipush (v := nI (7)) hx hb dL_acts_758 (by decide) ?_
          refine lv_irem hx hb dL_acts_760 (by decide) ?_
          rw [show (nI (ac / 16)) - (nI (ac / 16)) / (nI (7)) * (nI (7)) = nI ((ac / 16) % 7) from pk_rem (by omega) (by decide) (by omega)]
          refine lv_istore (lv' := [(23, .int (nI ((ac / 16) % 7))), (4, .int (nI (kd))), (0, .ref (fa_B G + (0))), (1, .int (nI (ac))), (2, .int (nI (fi))), (3, .int (nI (ho)))]) hx hb dL_acts_761 hl (by decide) rfl (fun ls hl => ?_)
          exact JOIN_763 ((ac / 16) % 7)  _ _ _ (Nat.mod_lt _ (by decide)) (lv_sub hl [2, 3, 4, 5, 1, 0] rfl) HX1913
        have hout_42 : (nI (ac % 12)).toInt < 0 ∨ 9 < (nI (ac % 12)).toInt := by
          have z0 := lv_neT (a := 0) c_42_0 (by decide)
          have z1 := lv_neT (a := 1) c_42_1 (by decide)
          have z2 := lv_neT (a := 2) c_42_2 (by decide)
          have z3 := lv_neT (a := 3) c_42_3 (by decide)
          have z4 := lv_neT (a := 4) c_42_4 (by decide)
          have z5 := lv_neT (a := 5) c_42_5 (by decide)
          have z6 := lv_neT (a := 6) c_42_6 (by decide)
          have z7 := lv_neT (a := 7) c_42_7 (by decide)
          have z8 := lv_neT (a := 8) c_42_8 (by decide)
          have z9 := lv_neT (a := 9) c_42_9 (by decide)
          omega
        refine lv_tableOut (tgt := 852) hx hb dL_acts_42 hout_42 (by decide) ?_
        have JOIN_862 : ∀ (da : Nat) (H : Heap) (locs : List Loc) (ls : Array Slot), (1 ≤ da ∧ da ≤ 120) → lv_has ls 34 [(0, .ref (fa_B G + (0))), (1, .int (nI (ac))), (2, .int (nI (fi))), (3, .int (nI (ho))), (4, .int ((-1 : Int32))), (26, .int (nI (da)))] → fa_HX G (n) v r s H locs → W p l e (fa_rm 8) s m args below meth c H locs (0) (0) Q (F0 m 862 ls []) := by
          intro da H locs ls hi_862 hl HX2091
          refine lv_aload_n hx hb dL_acts_862 rfl (lv_at hl 0 rfl) ?_
          refine fa_callVip (As := []) (rest := []) CX HX2091 (g_now l G n hn v r hC ) ln_L_31 (by omega) rfl rfl rfl rfl (Nat.le_of_ble_eq_true rfl) hl.1 ⟨Nat.le_of_ble_eq_true rfl, Nat.le_of_ble_eq_true rfl⟩ ⟨Nat.le_refl _, Nat.le_refl _⟩ dL_acts_863 (fun x2093 H locs h2092 HX2094 => ?_)
          have h_now := h2092
          have e_863 : x2093 = nI (dy) := ((h_now.trans hV.2.2.1.now).trans hk.1)
          subst e_863
          refine lv_istore (lv' := [(27, .int (nI (dy))), (0, .ref (fa_B G + (0))), (1, .int (nI (ac))), (2, .int (nI (fi))), (3, .int (nI (ho))), (4, .int ((-1 : Int32))), (26, .int (nI (da)))]) hx hb dL_acts_866 hl (by decide) rfl (fun ls hl => ?_)
          refine lv_aload_n hx hb dL_acts_868 rfl (lv_at hl 1 rfl) ?_
          refine lv_iconst (v := nI (3)) hx hb dL_acts_869 (by decide) ?_
          refine fa_callVip (As := [.int (nI (3))]) (rest := []) CX HX2094 (g_count l G n hn v r hC (nI (3))) ln_L_15 (by omega) rfl rfl rfl rfl (Nat.le_of_ble_eq_true rfl) hl.1 ⟨Nat.le_of_ble_eq_true rfl, Nat.le_of_ble_eq_true rfl⟩ ⟨Nat.le_refl _, Nat.le_refl _⟩ dL_acts_870 (fun x2096 H locs h2095 HX2097 => ?_)
          have h_count := h2095
          have e_870 : x2096 = nI (bu) := (((h_count A hV.1 hV.2.2.1).trans (fb_cntA_3 (by decide))).trans hk.2.2.1)
          subst e_870
          refine lv_istore (lv' := [(28, .int (nI (bu))), (27, .int (nI (dy))), (0, .ref (fa_B G + (0))), (1, .int (nI (ac))), (2, .int (nI (fi))), (3, .int (nI (ho))), (4, .int ((-1 : Int32))), (26, .int (nI (da)))]) hx hb dL_acts_873 hl (by decide) rfl (fun ls hl => ?_)
          refine lv_aload_n hx hb dL_acts_875 rfl (lv_at hl 2 rfl) ?_
          refine lv_iconst (v := nI (4)) hx hb dL_acts_876 (by decide) ?_
          refine fa_callVip (As := [.int (nI (4))]) (rest := []) CX HX2097 (g_count l G n hn v r hC (nI (4))) ln_L_15 (by omega) rfl rfl rfl rfl (Nat.le_of_ble_eq_true rfl) hl.1 ⟨Nat.le_of_ble_eq_true rfl, Nat.le_of_ble_eq_true rfl⟩ ⟨Nat.le_refl _, Nat.le_refl _⟩ dL_acts_877 (fun x2099 H locs h2098 HX2100 => ?_)
          have h_count := h2098
          have e_877 : x2099 = A.g 10 := ((h_count A hV.1 hV.2.2.1).trans (fb_cntA_4 (by decide)))
          subst e_877
          refine lv_istore (lv' := [(29, .int (A.g 10)), (28, .int (nI (bu))), (27, .int (nI (dy))), (0, .ref (fa_B G + (0))), (1, .int (nI (ac))), (2, .int (nI (fi))), (3, .int (nI (ho))), (4, .int ((-1 : Int32))), (26, .int (nI (da)))]) hx hb dL_acts_880 hl (by decide) rfl (fun ls hl => ?_)
          refine lv_aload_n hx hb dL_acts_882 rfl (lv_at hl 3 rfl) ?_
          refine lv_iconst (v := nI (5)) hx hb dL_acts_883 (by decide) ?_
          refine fa_callVip (As := [.int (nI (5))]) (rest := []) CX HX2100 (g_count l G n hn v r hC (nI (5))) ln_L_15 (by omega) rfl rfl rfl rfl (Nat.le_of_ble_eq_true rfl) hl.1 ⟨Nat.le_of_ble_eq_true rfl, Nat.le_of_ble_eq_true rfl⟩ ⟨Nat.le_refl _, Nat.le_refl _⟩ dL_acts_884 (fun x2102 H locs h2101 HX2103 => ?_)
          have h_count := h2101
          have e_884 : x2102 = A.g 11 := ((h_count A hV.1 hV.2.2.1).trans (fb_cntA_5 (by decide)))
          subst e_884
          refine lv_istore (lv' := [(30, .int (A.g 11)), (29, .int (A.g 10)), (28, .int (nI (bu))), (27, .int (nI (dy))), (0, .ref (fa_B G + (0))), (1, .int (nI (ac))), (2, .int (nI (fi))), (3, .int (nI (ho))), (4, .int ((-1 : Int32))), (26, .int (nI (da)))]) hx hb dL_acts_887 hl (by decide) rfl (fun ls hl => ?_)
          refine lv_aload_n hx hb dL_acts_889 rfl (lv_at hl 4 rfl) ?_
          refine lv_iload hx hb dL_acts_890 (lv_at hl 9 rfl) ?_
          refine lv_iconst (v := nI (0)) hx hb dL_acts_892 (by decide) ?_
          refine fa_callVi (As := [.int (nI (da)), .int (nI (0))]) (rest := []) CX HX2103 (g_ifPassed l G n hn v r hC (nI (da)) (nI (0))) ln_L_69 (by omega) rfl rfl rfl rfl (Nat.le_of_ble_eq_true rfl) hl.1 ⟨Nat.le_of_ble_eq_true rfl, Nat.le_of_ble_eq_true rfl⟩ ⟨Nat.le_refl _, Nat.le_refl _⟩ dL_acts_893 (fun x2105 v2106 r2107 H locs h2104 HX2108 => ?_)
          dsimp only at h2104
          have hC_v2106 := h2104.2.1
          have h_ifPassed := h2104.1
          have hV_893 := hV.fut h2104.2.2.1 h_ifPassed.1
          obtain ⟨hI_893, hip_893⟩ := h_ifPassed.2 A dy hok hk.1 (by omega) hi57 hV.2.2.1
          have e_893 : x2105 = (fb_daysA A da).2.g 9 - A.g 9 := ((hip_893 da rfl hi_862.1 (by omega)).1 (by decide))
          subst e_893
          refine lv_istore (lv' := [(31, .int ((fb_daysA A da).2.g 9 - A.g 9)), (30, .int (A.g 11)), (29, .int (A.g 10)), (28, .int (nI (bu))), (27, .int (nI (dy))), (0, .ref (fa_B G + (0))), (1, .int (nI (ac))), (2, .int (nI (fi))), (3, .int (nI (ho))), (4, .int ((-1 : Int32))), (26, .int (nI (da)))]) hx hb dL_acts_896 hl (by decide) rfl (fun ls hl => ?_)
          refine lv_aload_n hx hb dL_acts_898 rfl (lv_at hl 5 rfl) ?_
          refine lv_iload hx hb dL_acts_899 (lv_at hl 10 rfl) ?_
          refine lv_iconst (v := nI (1)) hx hb dL_acts_901 (by decide) ?_
          refine fa_callVi (As := [.int (nI (da)), .int (nI (1))]) (rest := []) CX HX2108 (g_ifPassed l G n hn v2106 r2107 hC_v2106 (nI (da)) (nI (1))) ln_L_69 (by omega) rfl rfl rfl rfl (Nat.le_of_ble_eq_true rfl) hl.1 ⟨Nat.le_of_ble_eq_true rfl, Nat.le_of_ble_eq_true rfl⟩ ⟨Nat.le_refl _, Nat.le_refl _⟩ dL_acts_902 (fun x2110 v2111 r2112 H locs h2109 HX2113 => ?_)
          dsimp only at h2109
          have hC_v2111 := h2109.2.1
          have h_ifPassed := h2109.1
          have hV_902 := hV_893.fut h2109.2.2.1 h_ifPassed.1
          obtain ⟨hI_902, hip_902⟩ := h_ifPassed.2 A dy hok hk.1 (by omega) hI_893 hV_893.2.2.1
          have e_902 : x2110 = (fb_daysA A da).2.g 10 - A.g 10 := ((hip_902 da rfl hi_862.1 (by omega)).2.1 (by decide))
          subst e_902
          refine lv_istore (lv' := [(32, .int ((fb_daysA A da).2.g 10 - A.g 10)), (31, .int ((fb_daysA A da).2.g 9 - A.g 9)), (30, .int (A.g 11)), (29, .int (A.g 10)), (28, .int (nI (bu))), (27, .int (nI (dy))), (0, .ref (fa_B G + (0))), (1, .int (nI (ac))), (2, .int (nI (fi))), (3, .int (nI (ho))), (4, .int ((-1 : Int32))), (26, .int (nI (da)))]) hx hb dL_acts_905 hl (by decide) rfl (fun ls hl => ?_)
          refine lv_aload_n hx hb dL_acts_907 rfl (lv_at hl 6 rfl) ?_
          refine lv_iload hx hb dL_acts_908 (lv_at hl 11 rfl) ?_
          refine lv_iconst (v := nI (2)) hx hb dL_acts_910 (by decide) ?_
          refine fa_callVi (As := [.int (nI (da)), .int (nI (2))]) (rest := []) CX HX2113 (g_ifPassed l G n hn v2111 r2112 hC_v2111 (nI (da)) (nI (2))) ln_L_69 (by omega) rfl rfl rfl rfl (Nat.le_of_ble_eq_true rfl) hl.1 ⟨Nat.le_of_ble_eq_true rfl, Nat.le_of_ble_eq_true rfl⟩ ⟨Nat.le_refl _, Nat.le_refl _⟩ dL_acts_911 (fun x2115 v2116 r2117 H locs h2114 HX2118 => ?_)
          dsimp only at h2114
          have hC_v2116 := h2114.2.1
          have h_ifPassed := h2114.1
          have hV_911 := hV_902.fut h2114.2.2.1 h_ifPassed.1
          obtain ⟨hI_911, hip_911⟩ := h_ifPassed.2 A dy hok hk.1 (by omega) hI_902 hV_902.2.2.1
          have e_911 : x2115 = (fb_daysA A da).2.g 11 - A.g 11 := ((hip_911 da rfl hi_862.1 (by omega)).2.2 rfl)
          subst e_911
          refine lv_istore (lv' := [(33, .int ((fb_daysA A da).2.g 11 - A.g 11)), (32, .int ((fb_daysA A da).2.g 10 - A.g 10)), (31, .int ((fb_daysA A da).2.g 9 - A.g 9)), (30, .int (A.g 11)), (29, .int (A.g 10)), (28, .int (nI (bu))), (27, .int (nI (dy))), (0, .ref (fa_B G + (0))), (1, .int (nI (ac))), (2, .int (nI (fi))), (3, .int (nI (ho))), (4, .int ((-1 : Int32))), (26, .int (nI (da)))]) hx hb dL_acts_914 hl (by decide) rfl (fun ls hl => ?_)
          refine lv_aload_n hx hb dL_acts_916 rfl (lv_at hl 7 rfl) ?_
          refine lv_iload hx hb dL_acts_917 (lv_at hl 12 rfl) ?_
          refine fa_callVi (As := [.int (nI (da))]) (rest := []) CX HX2118 (g_pass5 l G n hn v2116 r2117 hC_v2116 (nI (da))) ln_L_72 (by omega) rfl rfl rfl rfl (Nat.le_of_ble_eq_true rfl) hl.1 ⟨Nat.le_of_ble_eq_true rfl, Nat.le_of_ble_eq_true rfl⟩ ⟨Nat.le_refl _, Nat.le_refl _⟩ dL_acts_919 (fun x2120 v2121 r2122 H locs h2119 HX2123 => ?_)
          dsimp only at h2119
          have hC_v2121 := h2119.2.1
          have h_pass5 := h2119.1
          obtain ⟨hr58_919, hac_919⟩ := h_pass5
          obtain ⟨hx_919, hV_919⟩ := hac_919 _ _ hV_911
          rw [fc_pass1 hk.1 hi_862.1 (by omega) (by omega)] at hx_919 hV_919
          have hV_919 : fb_CV v2121 r2122 ((fb_daysA A da).2) _ := hV_919
          have hI_919 : fb_inj r2122 57 := hI_911.congr hr58_919
          obtain ⟨b2, hb2, hk_919, -⟩ := hk.days hok (by omega) da (by omega)
          have e_919 : x2120 = (fb_daysA A da).1 := hx_919
          subst e_919
          refine lv_iload hx hb dL_acts_922 (lv_at hl 2 rfl) ?_
          refine lv_icmp_ne (tgt := 982) hx hb dL_acts_924 (by decide) (fun c_924 => ?_) (fun c_924 => ?_)
          · exact absurd (fc_days9 A da) c_924
          · refine lv_aload_n hx hb dL_acts_927 rfl (lv_at hl 7 rfl) ?_
            refine fa_callVip (As := []) (rest := []) CX HX2123 (g_now l G n hn v2121 r2122 hC_v2121 ) ln_L_31 (by omega) rfl rfl rfl rfl (Nat.le_of_ble_eq_true rfl) hl.1 ⟨Nat.le_of_ble_eq_true rfl, Nat.le_of_ble_eq_true rfl⟩ ⟨Nat.le_refl _, Nat.le_refl _⟩ dL_acts_928 (fun x2125 H locs h2124 HX2126 => ?_)
            have h_now := h2124
            have e_928 : x2125 = nI (dy + da) := ((h_now.trans hV_919.2.2.1.now).trans hk_919.1)
            subst e_928
            refine lv_iload hx hb dL_acts_931 (lv_at hl 6 rfl) ?_
            refine lv_iload hx hb dL_acts_933 (lv_at hl 12 rfl) ?_
            refine fa_iaddN hx hb dL_acts_935 ?_
            refine lv_icmp_ne (tgt := 982) hx hb dL_acts_936 (by decide) (fun c_936 => ?_) (fun c_936 => ?_)
            · exact absurd rfl c_936
            · refine lv_aload_n hx hb dL_acts_939 rfl (lv_at hl 7 rfl) ?_
              refine lv_iconst (v := nI (3)) hx hb dL_acts_940 (by decide) ?_
              refine fa_callVip (As := [.int (nI (3))]) (rest := []) CX HX2126 (g_count l G n hn v2121 r2122 hC_v2121 (nI (3))) ln_L_15 (by omega) rfl rfl rfl rfl (Nat.le_of_ble_eq_true rfl) hl.1 ⟨Nat.le_of_ble_eq_true rfl, Nat.le_of_ble_eq_true rfl⟩ ⟨Nat.le_refl _, Nat.le_refl _⟩ dL_acts_941 (fun x2128 H locs h2127 HX2129 => ?_)
              have h_count := h2127
              have e_941 : x2128 = (fb_daysA A da).2.g 9 := ((h_count ((fb_daysA A da).2) hV_919.1 hV_919.2.2.1).trans (fb_cntA_3 (by decide)))
              subst e_941
              refine lv_iload hx hb dL_acts_944 (lv_at hl 5 rfl) ?_
              refine lv_iload hx hb dL_acts_946 (lv_at hl 2 rfl) ?_
              refine lv_iadd hx hb dL_acts_948 ?_
              refine lv_icmp_ne (tgt := 982) hx hb dL_acts_949 (by decide) (fun c_949 => ?_) (fun c_949 => ?_)
              · exact absurd (by rw [← hk.2.2.1]; exact (fc_diff _ _).symm) c_949
              · refine lv_aload_n hx hb dL_acts_952 rfl (lv_at hl 7 rfl) ?_
                refine lv_iconst (v := nI (4)) hx hb dL_acts_953 (by decide) ?_
                refine fa_callVip (As := [.int (nI (4))]) (rest := []) CX HX2129 (g_count l G n hn v2121 r2122 hC_v2121 (nI (4))) ln_L_15 (by omega) rfl rfl rfl rfl (Nat.le_of_ble_eq_true rfl) hl.1 ⟨Nat.le_of_ble_eq_true rfl, Nat.le_of_ble_eq_true rfl⟩ ⟨Nat.le_refl _, Nat.le_refl _⟩ dL_acts_954 (fun x2131 H locs h2130 HX2132 => ?_)
                have h_count := h2130
                have e_954 : x2131 = (fb_daysA A da).2.g 10 := ((h_count ((fb_daysA A da).2) hV_919.1 hV_919.2.2.1).trans (fb_cntA_4 (by decide)))
                subst e_954
                refine lv_iload hx hb dL_acts_957 (lv_at hl 4 rfl) ?_
                refine lv_iload hx hb dL_acts_959 (lv_at hl 1 rfl) ?_
                refine lv_iadd hx hb dL_acts_961 ?_
                refine lv_icmp_ne (tgt := 982) hx hb dL_acts_962 (by decide) (fun c_962 => ?_) (fun c_962 => ?_)
                · exact absurd (fc_diff _ _).symm c_962
                · refine lv_aload_n hx hb dL_acts_965 rfl (lv_at hl 7 rfl) ?_
                  refine lv_iconst (v := nI (5)) hx hb dL_acts_966 (by decide) ?_
                  refine fa_callVip (As := [.int (nI (5))]) (rest := []) CX HX2132 (g_count l G n hn v2121 r2122 hC_v2121 (nI (5))) ln_L_15 (by omega) rfl rfl rfl rfl (Nat.le_of_ble_eq_true rfl) hl.1 ⟨Nat.le_of_ble_eq_true rfl, Nat.le_of_ble_eq_true rfl⟩ ⟨Nat.le_refl _, Nat.le_refl _⟩ dL_acts_967 (fun x2134 H locs h2133 HX2135 => ?_)
                  have h_count := h2133
                  have e_967 : x2134 = (fb_daysA A da).2.g 11 := ((h_count ((fb_daysA A da).2) hV_919.1 hV_919.2.2.1).trans (fb_cntA_5 (by decide)))
                  subst e_967
                  refine lv_iload hx hb dL_acts_970 (lv_at hl 3 rfl) ?_
                  refine lv_iload hx hb dL_acts_972 (lv_at hl 0 rfl) ?_
                  refine lv_iadd hx hb dL_acts_974 ?_
                  refine lv_icmp_ne (tgt := 982) hx hb dL_acts_975 (by decide) (fun c_975 => ?_) (fun c_975 => ?_)
                  · exact absurd (fc_diff _ _).symm c_975
                  · refine lv_iconst (v := nI (1)) hx hb dL_acts_978 (by decide) ?_
                    refine lv_goto (tgt := 983) hx hb dL_acts_979 (by decide) ?_
                    exact RET _ _ _ _ _ _ _ HX2135 dL_acts_983 (by decide) (⟨⟨rfl, ((fb_daysA A da).2), _, dy + da, cm, b2, hV_919, hk_919.more (Nat.le_succ _), ⟨by omega, by omega, by omega, by omega⟩, hI_919⟩, hC_v2121, (fa_fr.tr (fa_fr.tr (fa_fr.tr (fa_fr.tr fa_fr.rf (fa_fr.wide h2104.2.2.1 (by omega) (by omega))) (fa_fr.wide h2109.2.2.1 (by omega) (by omega))) (fa_fr.wide h2114.2.2.1 (by omega) (by omega))) (fa_fr.wide h2119.2.2.1 (by omega) (by omega))), (fun k hk => ((h2119.2.2.2 k hk).trans ((h2114.2.2.2 k hk).trans ((h2109.2.2.2 k hk).trans ((h2104.2.2.2 k hk).trans rfl)))))⟩)
        refine lv_iconst (v := nI (1)) hx hb dL_acts_852 (by decide) ?_
        refine lv_iload_n hx hb dL_acts_853 rfl (lv_at hl 2 rfl) ?_
        refine lv_iconst (v := nI (4)) hx hb dL_acts_854 (by decide) ?_
        refine lv_ishr hx hb dL_acts_855 ?_
        rw [show (nI (ac)) >>> ((nI (4)) &&& 31) = nI (ac / 16) from fc_shr (k := 4) (by omega) (by decide)]
        refine lv_bipush (v := nI (120)) hx hb dL_acts_856 (by decide) ?_
        refine lv_irem hx hb dL_acts_858 (by decide) ?_
        rw [show (nI (ac / 16)) - (nI (ac / 16)) / (nI (120)) * (nI (120)) = nI ((ac / 16) % 120) from pk_rem (by omega) (by decide) (by omega)]
        refine fa_iaddN hx hb dL_acts_859 ?_
        refine lv_istore (lv' := [(26, .int (nI (1 + ((ac / 16) % 120)))), (4, .int (nI (kd))), (0, .ref (fa_B G + (0))), (1, .int (nI (ac))), (2, .int (nI (fi))), (3, .int (nI (ho)))]) hx hb dL_acts_860 hl (by decide) rfl (fun ls hl => ?_)
        exact JOIN_862 (1 + ((ac / 16) % 120))  _ _ _ (⟨by omega, by omega⟩) (lv_sub hl [2, 3, 4, 5, 1, 0] rfl) HX1913
    refine lv_iload_n hx hb dL_acts_22 rfl (lv_at hl 1 rfl) ?_
    refine lv_bipush (v := nI (9)) hx hb dL_acts_23 (by decide) ?_
    refine lv_ishr hx hb dL_acts_25 ?_
    rw [show (nI (ac)) >>> ((nI (9)) &&& 31) = nI (ac / 512) from fc_shr (k := 9) (by omega) (by decide)]
    refine lv_bipush (v := nI (8)) hx hb dL_acts_26 (by decide) ?_
    refine lv_irem hx hb dL_acts_28 (by decide) ?_
    rw [show (nI (ac / 512)) - (nI (ac / 512)) / (nI (8)) * (nI (8)) = nI ((ac / 512) % 8) from pk_rem (by omega) (by decide) (by omega)]
    refine lv_istore_n (lv' := [(3, .int (nI ((ac / 512) % 8))), (0, .ref (fa_B G + (0))), (1, .int (nI (ac))), (2, .int (nI (fi)))]) hx hb dL_acts_29 rfl hl (by decide) rfl (fun ls hl => ?_)
    exact JOIN_30 ((ac / 512) % 8)  _ _ _ (Nat.mod_lt _ (by decide)) (lv_sub hl [1, 2, 3, 0] rfl) HX1578
  refine lv_if_ne (tgt := 12) hx hb dL_acts_5 (by decide) (fun c_5 => ?_) (fun c_5 => ?_)
  · have hcm0 : 0 < cm := by
      refine Nat.pos_of_ne_zero (fun z => c_5 ?_)
      rw [z]; decide
    refine lv_iload_n hx hb dL_acts_12 rfl (lv_at hl 1 rfl) ?_
    refine lv_iconst (v := nI (4)) hx hb dL_acts_13 (by decide) ?_
    refine lv_ishr hx hb dL_acts_14 ?_
    rw [show (nI (ac)) >>> ((nI (4)) &&& 31) = nI (ac / 16) from fc_shr (k := 4) (by omega) (by decide)]
    refine lv_aload_n hx hb dL_acts_15 rfl (lv_at hl 0 rfl) ?_
    refine lv_iconst (v := nI (1)) hx hb dL_acts_16 (by decide) ?_
    refine fa_callVip (As := [.int (nI (1))]) (rest := [.int (nI (ac / 16))]) CX HX1577 (g_count l G n hn v r hC (nI (1))) ln_L_15 (by omega) rfl rfl rfl rfl (Nat.le_of_ble_eq_true rfl) hl.1 ⟨Nat.le_of_ble_eq_true rfl, Nat.le_of_ble_eq_true rfl⟩ ⟨Nat.le_refl _, Nat.le_refl _⟩ dL_acts_17 (fun x2137 H locs h2136 HX2138 => ?_)
    have h_count := h2136
    have e_17 : x2137 = nI (cm) := (((h_count A hV.1 hV.2.2.1).trans (fb_cntA_1 (by decide))).trans hk.2.1)
    subst e_17
    refine lv_irem hx hb dL_acts_20 (nI_ne0 hcm0 (by omega)) ?_
    rw [show (nI (ac / 16)) - (nI (ac / 16)) / (nI (cm)) * (nI (cm)) = nI ((ac / 16) % cm) from pk_rem (by omega) hcm0 (by omega)]
    refine lv_istore_n (lv' := [(2, .int (nI ((ac / 16) % cm))), (0, .ref (fa_B G + (0))), (1, .int (nI (ac)))]) hx hb dL_acts_21 rfl hl (by decide) rfl (fun ls hl => ?_)
    exact JOIN_22 ((ac / 16) % cm)  _ _ _ (Or.inl (Nat.mod_lt _ hcm0)) (lv_sub hl [1, 2, 0] rfl) HX2138
  · have hcm0 : cm = 0 := fa_nIinj (by omega) (by decide) (by first | exact c_5 | exact Decidable.not_not.mp c_5)
    refine lv_iconst (v := nI (0)) hx hb dL_acts_8 (by decide) ?_
    refine lv_goto (tgt := 21) hx hb dL_acts_9 (by decide) ?_
    refine lv_istore_n (lv' := [(2, .int (nI (0))), (0, .ref (fa_B G + (0))), (1, .int (nI (ac)))]) hx hb dL_acts_21 rfl hl (by decide) rfl (fun ls hl => ?_)
    exact JOIN_22 (0)  _ _ _ (Or.inr ⟨hcm0, rfl⟩) (lv_sub hl [1, 2, 0] rfl) HX1577
