set_option maxHeartbeats 4000000 in
set_option maxRecDepth 100000 in
theorem l_acts (l : Launch) (G : fa_G) (n : Nat) (hn : 397 ≤ n) (v : fa_V) (r : fa_R) (hC : fa_CI v r) (A : fb_At) (H0 : List fb_At) (dy cm bu kn : Nat) (hV : fb_CV v r A H0) (hk : fc_ok A dy cm bu (dy / 90) kn) (hd : dy ≤ 6400) (hcm : cm ≤ 100) (hkn : kn ≤ 1000) (hi57 : fb_inj r 57) (ac : Nat) (hac : ac < 2147483648) : fa_MI l G n yL_acts cL_acts 34 (some .boolean) 8 [.ref (fa_B G + (0)), .int (nI (ac))] v r (fun x w => (x = nI 1 ∧ fc_nx w.1 w.2 dy cm kn) ∧ (fa_CI w.1 w.2) ∧ (fa_fr 0 395 v w.1) ∧ (∀ k, 395 ≤ k → w.2 k = r k)) := by
  refine fa_startZ (by decide +kernel) (Nat.le_of_ble_eq_true rfl) (fun p e s m args below meth c ls Q CX hl HX RET => ?_)
  have hl : lv_has ls 34 [(0, .ref (fa_B G + (0))), (1, .int (nI (ac)))] := hl
  have hx := CX.1.1
  have hb := CX.1.2.1
  have hB : (1 : Nat) ∈ fa_bs := by decide
  have hok := hV.1
  have hn24 : A.n ≤ 24 := hok.1.1
  have hm12 : A.m ≤ 12 := hok.2.1
  have hq8 : A.q.length ≤ 8 := hok.2.2.1
  refine lv_aload_n hx hb dL_acts_0 rfl (lv_at hl 0 rfl) ?_
  refine lv_iconst (v := nI (1)) hx hb dL_acts_1 (by decide) ?_
  refine fa_callVip (As := [.int (nI (1))]) (rest := []) CX HX (g_count l G n hn v r hC (nI (1))) ln_L_15 (by omega) rfl rfl rfl rfl (Nat.le_of_ble_eq_true rfl) hl.1 ⟨Nat.le_of_ble_eq_true rfl, Nat.le_of_ble_eq_true rfl⟩ ⟨Nat.le_refl _, Nat.le_refl _⟩ dL_acts_2 (fun x1619 H locs h1618 HX1620 => ?_)
  have h_count := h1618
  have e_2 : x1619 = nI (cm) := (((h_count A hV.1 hV.2.2.1).trans (fb_cntA_1 (by decide))).trans hk.2.1)
  subst e_2
  have JOIN_22 : ∀ (fi : Nat) (H : Heap) (locs : List Loc) (ls : Array Slot), (fi < cm ∨ (cm = 0 ∧ fi = 0)) → lv_has ls 34 [(0, .ref (fa_B G + (0))), (1, .int (nI (ac))), (2, .int (nI (fi)))] → fa_HX G (n) v r s H locs → W p l e (fa_rm 8) s m args below meth c H locs (0) (0) Q (F0 m 22 ls []) := by
    intro fi H locs ls hi_22 hl HX1621
    have JOIN_30 : ∀ (ho : Nat) (H : Heap) (locs : List Loc) (ls : Array Slot), (ho < 8) → lv_has ls 34 [(0, .ref (fa_B G + (0))), (1, .int (nI (ac))), (2, .int (nI (fi))), (3, .int (nI (ho)))] → fa_HX G (n) v r s H locs → W p l e (fa_rm 8) s m args below meth c H locs (0) (0) Q (F0 m 30 ls []) := by
      intro ho H locs ls hi_30 hl HX1622
      rcases (show (fb_ix A.F (nI fi) A.n = none ∧ cm = 0 ∧ fi = 0) ∨ (fb_ix A.F (nI fi) A.n = none ∧ fi < cm) ∨ ∃ pp, pp < A.n ∧ A.F pp 0 = nI fi from (fc_split (A := A) (nI fi)).elim (fun z => hi_22.elim (fun y => Or.inr (Or.inl ⟨z, y⟩)) (fun y => Or.inl ⟨z, y⟩)) (fun z => Or.inr (Or.inr z))) with ⟨hno, hc0, hf0⟩ | ⟨hno, hfi⟩ | ⟨pp, hpp, ep⟩
      · have hfi9 : fi ≤ cm := by omega
        refine lv_aload_n hx hb dL_acts_30 rfl (lv_at hl 0 rfl) ?_
        refine lv_iload_n hx hb dL_acts_31 rfl (lv_at hl 2 rfl) ?_
        refine lv_iconst (v := nI (0)) hx hb dL_acts_32 (by decide) ?_
        refine fa_callVip (As := [.int (nI (fi)), .int (nI (0))]) (rest := []) CX HX1622 (g_file l G n hn v r hC (nI (fi)) (nI (0))) ln_L_9 (by omega) rfl rfl rfl rfl (Nat.le_of_ble_eq_true rfl) hl.1 ⟨Nat.le_of_ble_eq_true rfl, Nat.le_of_ble_eq_true rfl⟩ ⟨Nat.le_refl _, Nat.le_refl _⟩ dL_acts_33 (fun x1624 H locs h1623 HX1625 => ?_)
        have h_file := h1623
        have e_33 : x1624 = (-1 : Int32) := ((h_file A hV.1 hV.2.2.1).trans (fb_filA_n hno))
        subst e_33
        refine lv_istore (lv' := [(4, .int ((-1 : Int32))), (0, .ref (fa_B G + (0))), (1, .int (nI (ac))), (2, .int (nI (fi))), (3, .int (nI (ho)))]) hx hb dL_acts_36 hl (by decide) rfl (fun ls hl => ?_)
        refine lv_iload_n hx hb dL_acts_38 rfl (lv_at hl 2 rfl) ?_
        refine lv_bipush (v := nI (12)) hx hb dL_acts_39 (by decide) ?_
        refine lv_irem hx hb dL_acts_41 (by decide) ?_
        rw [show (nI (ac)) - (nI (ac)) / (nI (12)) * (nI (12)) = nI (ac % 12) from pk_rem (by omega) (by decide) (by omega)]
        have JOIN_96 : ∀  (H : Heap) (locs : List Loc) (ls : Array Slot), (True) → lv_has ls 34 [(0, .ref (fa_B G + (0))), (1, .int (nI (ac))), (2, .int (nI (fi))), (3, .int (nI (ho))), (4, .int ((-1 : Int32)))] → fa_HX G (n) v r s H locs → W p l e (fa_rm 8) s m args below meth c H locs (0) (0) Q (F0 m 96 ls []) := by
          intro  H locs ls hi_96 hl HX1626
          refine lv_aload_n hx hb dL_acts_96 rfl (lv_at hl 0 rfl) ?_
          refine lv_iconst (v := nI (1)) hx hb dL_acts_97 (by decide) ?_
          refine fa_callVip (As := [.int (nI (1))]) (rest := []) CX HX1626 (g_count l G n hn v r hC (nI (1))) ln_L_15 (by omega) rfl rfl rfl rfl (Nat.le_of_ble_eq_true rfl) hl.1 ⟨Nat.le_of_ble_eq_true rfl, Nat.le_of_ble_eq_true rfl⟩ ⟨Nat.le_refl _, Nat.le_refl _⟩ dL_acts_98 (fun x1628 H locs h1627 HX1629 => ?_)
          have h_count := h1627
          have e_98 : x1628 = nI (cm) := (((h_count A hV.1 hV.2.2.1).trans (fb_cntA_1 (by decide))).trans hk.2.1)
          subst e_98
          refine lv_istore (lv' := [(5, .int (nI (cm))), (0, .ref (fa_B G + (0))), (1, .int (nI (ac))), (2, .int (nI (fi))), (3, .int (nI (ho))), (4, .int ((-1 : Int32)))]) hx hb dL_acts_101 hl (by decide) rfl (fun ls hl => ?_)
          refine lv_iconst (v := nI (1)) hx hb dL_acts_103 (by decide) ?_
          refine lv_iload_n hx hb dL_acts_104 rfl (lv_at hl 2 rfl) ?_
          refine lv_bipush (v := nI (8)) hx hb dL_acts_105 (by decide) ?_
          refine lv_ishr hx hb dL_acts_107 ?_
          rw [show (nI (ac)) >>> ((nI (8)) &&& 31) = nI (ac / 256) from fc_shr (k := 8) (by omega) (by decide)]
          refine lv_bipush (v := nI (50)) hx hb dL_acts_108 (by decide) ?_
          refine lv_irem hx hb dL_acts_110 (by decide) ?_
          rw [show (nI (ac / 256)) - (nI (ac / 256)) / (nI (50)) * (nI (50)) = nI ((ac / 256) % 50) from pk_rem (by omega) (by decide) (by omega)]
          refine fa_iaddN hx hb dL_acts_111 ?_
          refine lv_istore (lv' := [(6, .int (nI (1 + ((ac / 256) % 50)))), (5, .int (nI (cm))), (0, .ref (fa_B G + (0))), (1, .int (nI (ac))), (2, .int (nI (fi))), (3, .int (nI (ho))), (4, .int ((-1 : Int32)))]) hx hb dL_acts_112 hl (by decide) rfl (fun ls hl => ?_)
          refine lv_aload_n hx hb dL_acts_114 rfl (lv_at hl 2 rfl) ?_
          refine lv_iconst (v := nI (0)) hx hb dL_acts_115 (by decide) ?_
          refine fa_callVip (As := [.int (nI (0))]) (rest := []) CX HX1629 (g_count l G n hn v r hC (nI (0))) ln_L_15 (by omega) rfl rfl rfl rfl (Nat.le_of_ble_eq_true rfl) hl.1 ⟨Nat.le_of_ble_eq_true rfl, Nat.le_of_ble_eq_true rfl⟩ ⟨Nat.le_refl _, Nat.le_refl _⟩ dL_acts_116 (fun x1631 H locs h1630 HX1632 => ?_)
          have h_count := h1630
          have e_116 : x1631 = nI (A.n) := ((h_count A hV.1 hV.2.2.1).trans (fb_cntA_0 (by decide)))
          subst e_116
          refine lv_bipush (v := nI (24)) hx hb dL_acts_119 (by decide) ?_
          refine lv_icmp_ge (tgt := 145) hx hb dL_acts_121 (by decide) (fun c_121 => ?_) (fun c_121 => ?_)
          · have h24 : 24 ≤ A.n := fa_leN (by omega) (by omega) c_121
            refine lv_iconst (v := nI (0)) hx hb dL_acts_145 (by decide) ?_
            refine lv_istore (lv' := [(7, .int (nI (0))), (6, .int (nI (1 + ((ac / 256) % 50)))), (5, .int (nI (cm))), (0, .ref (fa_B G + (0))), (1, .int (nI (ac))), (2, .int (nI (fi))), (3, .int (nI (ho))), (4, .int ((-1 : Int32)))]) hx hb dL_acts_146 hl (by decide) rfl (fun ls hl => ?_)
            refine lv_aload_n hx hb dL_acts_148 rfl (lv_at hl 3 rfl) ?_
            refine lv_iload_n hx hb dL_acts_149 rfl (lv_at hl 4 rfl) ?_
            refine lv_iconst (v := nI (4)) hx hb dL_acts_150 (by decide) ?_
            refine lv_ishr hx hb dL_acts_151 ?_
            rw [show (nI (ac)) >>> ((nI (4)) &&& 31) = nI (ac / 16) from fc_shr (k := 4) (by omega) (by decide)]
            refine lv_iconst (v := nI (5)) hx hb dL_acts_152 (by decide) ?_
            refine lv_irem hx hb dL_acts_153 (by decide) ?_
            rw [show (nI (ac / 16)) - (nI (ac / 16)) / (nI (5)) * (nI (5)) = nI ((ac / 16) % 5) from pk_rem (by omega) (by decide) (by omega)]
            refine lv_iload hx hb dL_acts_154 (lv_at hl 1 rfl) ?_
            refine fa_callVi (As := [.int (nI ((ac / 16) % 5)), .int (nI (1 + ((ac / 256) % 50)))]) (rest := []) CX HX1632 (g_add5 l G n hn v r hC (nI ((ac / 16) % 5)) (nI (1 + ((ac / 256) % 50)))) ln_L_44 (by omega) rfl rfl rfl rfl (Nat.le_of_ble_eq_true rfl) hl.1 ⟨Nat.le_of_ble_eq_true rfl, Nat.le_of_ble_eq_true rfl⟩ ⟨Nat.le_refl _, Nat.le_refl _⟩ dL_acts_156 (fun x1634 v1635 r1636 H locs h1633 HX1637 => ?_)
            dsimp only at h1633
            have hC_v1635 := h1633.2.1
            have h_add5 := h1633.1
            obtain ⟨hr58_156, hac_156⟩ := h_add5
            obtain ⟨hx_156, hV_156⟩ := hac_156 _ _ hV
            rw [fc_add0 (k := (ac / 16) % 5) (p := 1 + (ac / 256) % 50) (by omega) (by omega) (by omega) (Or.inl h24)] at hx_156 hV_156
            have hV_156 : fb_CV v1635 r1636 A _ := hV_156
            have hI_156 : fb_inj r1636 57 := hi57.congr hr58_156
            have hk_156 := hk
            have e_156 : x1634 = (-4 : Int32) := hx_156
            subst e_156
            refine lv_istore (lv' := [(8, .int ((-4 : Int32))), (7, .int (nI (0))), (6, .int (nI (1 + ((ac / 256) % 50)))), (5, .int (nI (cm))), (0, .ref (fa_B G + (0))), (1, .int (nI (ac))), (2, .int (nI (fi))), (3, .int (nI (ho))), (4, .int ((-1 : Int32)))]) hx hb dL_acts_159 hl (by decide) rfl (fun ls hl => ?_)
            refine lv_iload hx hb dL_acts_161 (lv_at hl 1 rfl) ?_
            refine lv_if_eq (tgt := 219) hx hb dL_acts_163 (by decide) (fun c_163 => ?_) (fun c_163 => ?_)
            · refine lv_iload hx hb dL_acts_219 (lv_at hl 0 rfl) ?_
              refine lv_bipush (v := (-4 : Int32)) hx hb dL_acts_221 (by decide) ?_
              refine lv_icmp_ne (tgt := 230) hx hb dL_acts_223 (by decide) (fun c_223 => ?_) (fun c_223 => ?_)
              · exact absurd (by try decide) c_223
              · refine lv_iconst (v := nI (1)) hx hb dL_acts_226 (by decide) ?_
                refine lv_goto (tgt := 231) hx hb dL_acts_227 (by decide) ?_
                exact RET _ _ _ _ _ _ _ HX1637 dL_acts_231 (by decide) (⟨⟨rfl, A, _, dy, cm, bu, hV_156, hk_156.more (Nat.le_succ _), ⟨by omega, by omega, by omega, by omega⟩, hI_156⟩, hC_v1635, (fa_fr.tr fa_fr.rf (fa_fr.wide h1633.2.2.1 (by omega) (by omega))), (fun k hk => ((h1633.2.2.2 k hk).trans rfl))⟩)
            · exact absurd (by try decide) c_163
          · have h24 : A.n < 24 := fa_ltN (by omega) (by omega) c_121
            refine lv_aload_n hx hb dL_acts_124 rfl (lv_at hl 2 rfl) ?_
            refine lv_iconst (v := nI (2)) hx hb dL_acts_125 (by decide) ?_
            refine fa_callVip (As := [.int (nI (2))]) (rest := []) CX HX1632 (g_count l G n hn v r hC (nI (2))) ln_L_15 (by omega) rfl rfl rfl rfl (Nat.le_of_ble_eq_true rfl) hl.1 ⟨Nat.le_of_ble_eq_true rfl, Nat.le_of_ble_eq_true rfl⟩ ⟨Nat.le_refl _, Nat.le_refl _⟩ dL_acts_126 (fun x1639 H locs h1638 HX1640 => ?_)
            have h_count := h1638
            have e_126 : x1639 = fb_pgs A := ((h_count A hV.1 hV.2.2.1).trans (fb_cntA_2 (by decide)))
            subst e_126
            refine lv_iload hx hb dL_acts_129 (lv_at hl 0 rfl) ?_
            refine lv_iadd hx hb dL_acts_131 ?_
            refine lv_aload_n hx hb dL_acts_132 rfl (lv_at hl 2 rfl) ?_
            refine lv_bipush (v := nI (6)) hx hb dL_acts_133 (by decide) ?_
            refine fa_callVip (As := [.int (nI (6))]) (rest := [.int ((fb_pgs A) + (nI (1 + ((ac / 256) % 50))))]) CX HX1640 (g_setting l G n hn v r hC (nI (6))) ln_L_22 (by omega) rfl rfl rfl rfl (Nat.le_of_ble_eq_true rfl) hl.1 ⟨Nat.le_of_ble_eq_true rfl, Nat.le_of_ble_eq_true rfl⟩ ⟨Nat.le_refl _, Nat.le_refl _⟩ dL_acts_135 (fun x1642 H locs h1641 HX1643 => ?_)
            have h_setting := h1641
            have e_135 : x1642 = A.g 6 := ((h_setting A hV.1 hV.2.2.1).trans (fc_stg (k := 6) (by decide)))
            subst e_135
            refine lv_icmp_gt (tgt := 145) hx hb dL_acts_138 (by decide) (fun c_138 => ?_) (fun c_138 => ?_)
            · refine lv_iconst (v := nI (0)) hx hb dL_acts_145 (by decide) ?_
              refine lv_istore (lv' := [(7, .int (nI (0))), (6, .int (nI (1 + ((ac / 256) % 50)))), (5, .int (nI (cm))), (0, .ref (fa_B G + (0))), (1, .int (nI (ac))), (2, .int (nI (fi))), (3, .int (nI (ho))), (4, .int ((-1 : Int32)))]) hx hb dL_acts_146 hl (by decide) rfl (fun ls hl => ?_)
              refine lv_aload_n hx hb dL_acts_148 rfl (lv_at hl 3 rfl) ?_
              refine lv_iload_n hx hb dL_acts_149 rfl (lv_at hl 4 rfl) ?_
              refine lv_iconst (v := nI (4)) hx hb dL_acts_150 (by decide) ?_
              refine lv_ishr hx hb dL_acts_151 ?_
              rw [show (nI (ac)) >>> ((nI (4)) &&& 31) = nI (ac / 16) from fc_shr (k := 4) (by omega) (by decide)]
              refine lv_iconst (v := nI (5)) hx hb dL_acts_152 (by decide) ?_
              refine lv_irem hx hb dL_acts_153 (by decide) ?_
              rw [show (nI (ac / 16)) - (nI (ac / 16)) / (nI (5)) * (nI (5)) = nI ((ac / 16) % 5) from pk_rem (by omega) (by decide) (by omega)]
              refine lv_iload hx hb dL_acts_154 (lv_at hl 1 rfl) ?_
              refine fa_callVi (As := [.int (nI ((ac / 16) % 5)), .int (nI (1 + ((ac / 256) % 50)))]) (rest := []) CX HX1643 (g_add5 l G n hn v r hC (nI ((ac / 16) % 5)) (nI (1 + ((ac / 256) % 50)))) ln_L_44 (by omega) rfl rfl rfl rfl (Nat.le_of_ble_eq_true rfl) hl.1 ⟨Nat.le_of_ble_eq_true rfl, Nat.le_of_ble_eq_true rfl⟩ ⟨Nat.le_refl _, Nat.le_refl _⟩ dL_acts_156 (fun x1645 v1646 r1647 H locs h1644 HX1648 => ?_)
              dsimp only at h1644
              have hC_v1646 := h1644.2.1
              have h_add5 := h1644.1
              obtain ⟨hr58_156, hac_156⟩ := h_add5
              obtain ⟨hx_156, hV_156⟩ := hac_156 _ _ hV
              rw [fc_add0 (k := (ac / 16) % 5) (p := 1 + (ac / 256) % 50) (by omega) (by omega) (by omega) (Or.inr (Int32.not_le.mpr c_138))] at hx_156 hV_156
              have hV_156 : fb_CV v1646 r1647 A _ := hV_156
              have hI_156 : fb_inj r1647 57 := hi57.congr hr58_156
              have hk_156 := hk
              have e_156 : x1645 = (-4 : Int32) := hx_156
              subst e_156
              refine lv_istore (lv' := [(8, .int ((-4 : Int32))), (7, .int (nI (0))), (6, .int (nI (1 + ((ac / 256) % 50)))), (5, .int (nI (cm))), (0, .ref (fa_B G + (0))), (1, .int (nI (ac))), (2, .int (nI (fi))), (3, .int (nI (ho))), (4, .int ((-1 : Int32)))]) hx hb dL_acts_159 hl (by decide) rfl (fun ls hl => ?_)
              refine lv_iload hx hb dL_acts_161 (lv_at hl 1 rfl) ?_
              refine lv_if_eq (tgt := 219) hx hb dL_acts_163 (by decide) (fun c_163 => ?_) (fun c_163 => ?_)
              · refine lv_iload hx hb dL_acts_219 (lv_at hl 0 rfl) ?_
                refine lv_bipush (v := (-4 : Int32)) hx hb dL_acts_221 (by decide) ?_
                refine lv_icmp_ne (tgt := 230) hx hb dL_acts_223 (by decide) (fun c_223 => ?_) (fun c_223 => ?_)
                · exact absurd (by try decide) c_223
                · refine lv_iconst (v := nI (1)) hx hb dL_acts_226 (by decide) ?_
                  refine lv_goto (tgt := 231) hx hb dL_acts_227 (by decide) ?_
                  exact RET _ _ _ _ _ _ _ HX1648 dL_acts_231 (by decide) (⟨⟨rfl, A, _, dy, cm, bu, hV_156, hk_156.more (Nat.le_succ _), ⟨by omega, by omega, by omega, by omega⟩, hI_156⟩, hC_v1646, (fa_fr.tr fa_fr.rf (fa_fr.wide h1644.2.2.1 (by omega) (by omega))), (fun k hk => ((h1644.2.2.2 k hk).trans rfl))⟩)
              · exact absurd (by try decide) c_163
            · refine lv_iconst (v := nI (1)) hx hb dL_acts_141 (by decide) ?_
              refine lv_goto (tgt := 146) hx hb dL_acts_142 (by decide) ?_
              refine lv_istore (lv' := [(7, .int (nI (1))), (6, .int (nI (1 + ((ac / 256) % 50)))), (5, .int (nI (cm))), (0, .ref (fa_B G + (0))), (1, .int (nI (ac))), (2, .int (nI (fi))), (3, .int (nI (ho))), (4, .int ((-1 : Int32)))]) hx hb dL_acts_146 hl (by decide) rfl (fun ls hl => ?_)
              refine lv_aload_n hx hb dL_acts_148 rfl (lv_at hl 3 rfl) ?_
              refine lv_iload_n hx hb dL_acts_149 rfl (lv_at hl 4 rfl) ?_
              refine lv_iconst (v := nI (4)) hx hb dL_acts_150 (by decide) ?_
              refine lv_ishr hx hb dL_acts_151 ?_
              rw [show (nI (ac)) >>> ((nI (4)) &&& 31) = nI (ac / 16) from fc_shr (k := 4) (by omega) (by decide)]
              refine lv_iconst (v := nI (5)) hx hb dL_acts_152 (by decide) ?_
              refine lv_irem hx hb dL_acts_153 (by decide) ?_
              rw [show (nI (ac / 16)) - (nI (ac / 16)) / (nI (5)) * (nI (5)) = nI ((ac / 16) % 5) from pk_rem (by omega) (by decide) (by omega)]
              refine lv_iload hx hb dL_acts_154 (lv_at hl 1 rfl) ?_
              refine fa_callVi (As := [.int (nI ((ac / 16) % 5)), .int (nI (1 + ((ac / 256) % 50)))]) (rest := []) CX HX1643 (g_add5 l G n hn v r hC (nI ((ac / 16) % 5)) (nI (1 + ((ac / 256) % 50)))) ln_L_44 (by omega) rfl rfl rfl rfl (Nat.le_of_ble_eq_true rfl) hl.1 ⟨Nat.le_of_ble_eq_true rfl, Nat.le_of_ble_eq_true rfl⟩ ⟨Nat.le_refl _, Nat.le_refl _⟩ dL_acts_156 (fun x1650 v1651 r1652 H locs h1649 HX1653 => ?_)
              dsimp only at h1649
              have hC_v1651 := h1649.2.1
              have h_add5 := h1649.1
              obtain ⟨hr58_156, hac_156⟩ := h_add5
              obtain ⟨hx_156, hV_156⟩ := hac_156 _ _ hV
              rw [fc_add1 (k := (ac / 16) % 5) (p := 1 + (ac / 256) % 50) (by omega) (by omega) (by omega) hk.2.1 h24 (by omega) (Int32.not_lt.mp c_138)] at hx_156 hV_156
              have hV_156 : fb_CV v1651 r1652 (fc_addX A (nI ((ac / 16) % 5)) (nI (1 + (ac / 256) % 50))) _ := hV_156
              have hI_156 : fb_inj r1652 57 := hi57.congr hr58_156
              have hk_156 : fc_ok (fc_addX A (nI ((ac / 16) % 5)) (nI (1 + (ac / 256) % 50))) dy (cm + 1) bu (dy / 90) (kn + 1) := ((hk.new (kd := nI ((ac / 16) % 5)) (pg := nI (1 + (ac / 256) % 50)) ⟨_, by omega, by omega, rfl⟩ (by omega)).more (Nat.le_succ _))
              have e_156 : x1650 = nI (cm) := hx_156
              subst e_156
              refine lv_istore (lv' := [(8, .int (nI (cm))), (7, .int (nI (1))), (6, .int (nI (1 + ((ac / 256) % 50)))), (5, .int (nI (cm))), (0, .ref (fa_B G + (0))), (1, .int (nI (ac))), (2, .int (nI (fi))), (3, .int (nI (ho))), (4, .int ((-1 : Int32)))]) hx hb dL_acts_159 hl (by decide) rfl (fun ls hl => ?_)
              refine lv_iload hx hb dL_acts_161 (lv_at hl 1 rfl) ?_
              refine lv_if_eq (tgt := 219) hx hb dL_acts_163 (by decide) (fun c_163 => ?_) (fun c_163 => ?_)
              · exact absurd c_163 (by try decide)
              · refine lv_iload hx hb dL_acts_166 (lv_at hl 0 rfl) ?_
                refine lv_iload hx hb dL_acts_168 (lv_at hl 3 rfl) ?_
                refine lv_icmp_ne (tgt := 215) hx hb dL_acts_170 (by decide) (fun c_170 => ?_) (fun c_170 => ?_)
                · exact absurd rfl c_170
                · refine lv_aload_n hx hb dL_acts_173 rfl (lv_at hl 4 rfl) ?_
                  refine lv_iload hx hb dL_acts_174 (lv_at hl 0 rfl) ?_
                  refine lv_iconst (v := nI (1)) hx hb dL_acts_176 (by decide) ?_
                  refine fa_callVip (As := [.int (nI (cm)), .int (nI (1))]) (rest := []) CX HX1653 (g_file l G n hn v1651 r1652 hC_v1651 (nI (cm)) (nI (1))) ln_L_9 (by omega) rfl rfl rfl rfl (Nat.le_of_ble_eq_true rfl) hl.1 ⟨Nat.le_of_ble_eq_true rfl, Nat.le_of_ble_eq_true rfl⟩ ⟨Nat.le_refl _, Nat.le_refl _⟩ dL_acts_177 (fun x1655 H locs h1654 HX1656 => ?_)
                  have h_file := h1654
                  have e_177 : x1655 = nI (1 + (ac / 256) % 50) := (((h_file (fc_addX A (nI ((ac / 16) % 5)) (nI (1 + (ac / 256) % 50))) hV_156.1 hV_156.2.2.1).trans (fc_addQ hV_156.1 hk.2.1)).trans ((fb_filP_1 (by decide)).trans fc_addF))
                  subst e_177
                  refine lv_iload hx hb dL_acts_180 (lv_at hl 2 rfl) ?_
                  refine lv_icmp_ne (tgt := 215) hx hb dL_acts_182 (by decide) (fun c_182 => ?_) (fun c_182 => ?_)
                  · exact absurd rfl c_182
                  · refine lv_aload_n hx hb dL_acts_185 rfl (lv_at hl 4 rfl) ?_
                    refine lv_iload hx hb dL_acts_186 (lv_at hl 0 rfl) ?_
                    refine lv_iconst (v := nI (2)) hx hb dL_acts_188 (by decide) ?_
                    refine fa_callVip (As := [.int (nI (cm)), .int (nI (2))]) (rest := []) CX HX1656 (g_file l G n hn v1651 r1652 hC_v1651 (nI (cm)) (nI (2))) ln_L_9 (by omega) rfl rfl rfl rfl (Nat.le_of_ble_eq_true rfl) hl.1 ⟨Nat.le_of_ble_eq_true rfl, Nat.le_of_ble_eq_true rfl⟩ ⟨Nat.le_refl _, Nat.le_refl _⟩ dL_acts_189 (fun x1658 H locs h1657 HX1659 => ?_)
                    have h_file := h1657
                    have e_189 : x1658 = nI (dy) := ((((h_file (fc_addX A (nI ((ac / 16) % 5)) (nI (1 + (ac / 256) % 50))) hV_156.1 hV_156.2.2.1).trans (fc_addQ hV_156.1 hk.2.1)).trans ((fb_filP_2 (by decide)).trans fc_addF)).trans hk.1)
                    subst e_189
                    refine lv_aload_n hx hb dL_acts_192 rfl (lv_at hl 4 rfl) ?_
                    refine fa_callVip (As := []) (rest := [.int (nI (dy))]) CX HX1659 (g_now l G n hn v1651 r1652 hC_v1651 ) ln_L_31 (by omega) rfl rfl rfl rfl (Nat.le_of_ble_eq_true rfl) hl.1 ⟨Nat.le_of_ble_eq_true rfl, Nat.le_of_ble_eq_true rfl⟩ ⟨Nat.le_refl _, Nat.le_refl _⟩ dL_acts_193 (fun x1661 H locs h1660 HX1662 => ?_)
                    have h_now := h1660
                    have e_193 : x1661 = nI (dy) := ((h_now.trans hV_156.2.2.1.now).trans hk_156.1)
                    subst e_193
                    refine lv_icmp_ne (tgt := 215) hx hb dL_acts_196 (by decide) (fun c_196 => ?_) (fun c_196 => ?_)
                    · exact absurd rfl c_196
                    · refine lv_aload_n hx hb dL_acts_199 rfl (lv_at hl 4 rfl) ?_
                      refine lv_iload hx hb dL_acts_200 (lv_at hl 0 rfl) ?_
                      refine lv_iconst (v := nI (3)) hx hb dL_acts_202 (by decide) ?_
                      refine fa_callVip (As := [.int (nI (cm)), .int (nI (3))]) (rest := []) CX HX1662 (g_file l G n hn v1651 r1652 hC_v1651 (nI (cm)) (nI (3))) ln_L_9 (by omega) rfl rfl rfl rfl (Nat.le_of_ble_eq_true rfl) hl.1 ⟨Nat.le_of_ble_eq_true rfl, Nat.le_of_ble_eq_true rfl⟩ ⟨Nat.le_refl _, Nat.le_refl _⟩ dL_acts_203 (fun x1664 H locs h1663 HX1665 => ?_)
                      have h_file := h1663
                      have e_203 : x1664 = (-6 : Int32) := ((((h_file (fc_addX A (nI ((ac / 16) % 5)) (nI (1 + (ac / 256) % 50))) hV_156.1 hV_156.2.2.1).trans (fc_addQ hV_156.1 hk.2.1)).trans (fb_filP_3 (by decide))).trans (by rw [fc_addF]; rfl))
                      subst e_203
                      refine lv_bipush (v := (-6 : Int32)) hx hb dL_acts_206 (by decide) ?_
                      refine lv_icmp_ne (tgt := 215) hx hb dL_acts_208 (by decide) (fun c_208 => ?_) (fun c_208 => ?_)
                      · exact absurd (by try decide) c_208
                      · refine lv_iconst (v := nI (1)) hx hb dL_acts_211 (by decide) ?_
                        refine lv_goto (tgt := 231) hx hb dL_acts_212 (by decide) ?_
                        exact RET _ _ _ _ _ _ _ HX1665 dL_acts_231 (by decide) (⟨⟨rfl, (fc_addX A (nI ((ac / 16) % 5)) (nI (1 + (ac / 256) % 50))), _, dy, cm + 1, bu, hV_156, hk_156.more (Nat.le_refl _), ⟨by omega, by omega, by omega, by omega⟩, hI_156⟩, hC_v1651, (fa_fr.tr fa_fr.rf (fa_fr.wide h1649.2.2.1 (by omega) (by omega))), (fun k hk => ((h1649.2.2.2 k hk).trans rfl))⟩)
        have JOIN_232 : ∀  (H : Heap) (locs : List Loc) (ls : Array Slot), (True) → lv_has ls 34 [(0, .ref (fa_B G + (0))), (1, .int (nI (ac))), (2, .int (nI (fi))), (3, .int (nI (ho))), (4, .int ((-1 : Int32)))] → fa_HX G (n) v r s H locs → W p l e (fa_rm 8) s m args below meth c H locs (0) (0) Q (F0 m 232 ls []) := by
          intro  H locs ls hi_232 hl HX1666
          refine lv_aload_n hx hb dL_acts_232 rfl (lv_at hl 0 rfl) ?_
          refine lv_iload_n hx hb dL_acts_233 rfl (lv_at hl 2 rfl) ?_
          refine lv_iconst (v := nI (4)) hx hb dL_acts_234 (by decide) ?_
          refine fa_callVip (As := [.int (nI (fi)), .int (nI (4))]) (rest := []) CX HX1666 (g_file l G n hn v r hC (nI (fi)) (nI (4))) ln_L_9 (by omega) rfl rfl rfl rfl (Nat.le_of_ble_eq_true rfl) hl.1 ⟨Nat.le_of_ble_eq_true rfl, Nat.le_of_ble_eq_true rfl⟩ ⟨Nat.le_refl _, Nat.le_refl _⟩ dL_acts_235 (fun x1668 H locs h1667 HX1669 => ?_)
          have h_file := h1667
          have e_235 : x1668 = (-1 : Int32) := ((h_file A hV.1 hV.2.2.1).trans (fb_filA_n hno))
          subst e_235
          refine lv_istore (lv' := [(9, .int ((-1 : Int32))), (0, .ref (fa_B G + (0))), (1, .int (nI (ac))), (2, .int (nI (fi))), (3, .int (nI (ho))), (4, .int ((-1 : Int32)))]) hx hb dL_acts_238 hl (by decide) rfl (fun ls hl => ?_)
          refine lv_aload_n hx hb dL_acts_240 rfl (lv_at hl 1 rfl) ?_
          refine lv_bipush (v := nI (6)) hx hb dL_acts_241 (by decide) ?_
          refine fa_callVip (As := [.int (nI (6))]) (rest := []) CX HX1669 (g_count l G n hn v r hC (nI (6))) ln_L_15 (by omega) rfl rfl rfl rfl (Nat.le_of_ble_eq_true rfl) hl.1 ⟨Nat.le_of_ble_eq_true rfl, Nat.le_of_ble_eq_true rfl⟩ ⟨Nat.le_refl _, Nat.le_refl _⟩ dL_acts_243 (fun x1671 H locs h1670 HX1672 => ?_)
          have h_count := h1670
          have e_243 : x1671 = A.g 12 := ((h_count A hV.1 hV.2.2.1).trans (fb_cntA_6 (by decide)))
          subst e_243
          refine lv_istore (lv' := [(10, .int (A.g 12)), (9, .int ((-1 : Int32))), (0, .ref (fa_B G + (0))), (1, .int (nI (ac))), (2, .int (nI (fi))), (3, .int (nI (ho))), (4, .int ((-1 : Int32)))]) hx hb dL_acts_246 hl (by decide) rfl (fun ls hl => ?_)
          refine lv_aload_n hx hb dL_acts_248 rfl (lv_at hl 2 rfl) ?_
          refine lv_iconst (v := nI (5)) hx hb dL_acts_249 (by decide) ?_
          refine fa_callVip (As := [.int (nI (5))]) (rest := []) CX HX1672 (g_count l G n hn v r hC (nI (5))) ln_L_15 (by omega) rfl rfl rfl rfl (Nat.le_of_ble_eq_true rfl) hl.1 ⟨Nat.le_of_ble_eq_true rfl, Nat.le_of_ble_eq_true rfl⟩ ⟨Nat.le_refl _, Nat.le_refl _⟩ dL_acts_250 (fun x1674 H locs h1673 HX1675 => ?_)
          have h_count := h1673
          have e_250 : x1674 = A.g 11 := ((h_count A hV.1 hV.2.2.1).trans (fb_cntA_5 (by decide)))
          subst e_250
          refine lv_istore (lv' := [(11, .int (A.g 11)), (10, .int (A.g 12)), (9, .int ((-1 : Int32))), (0, .ref (fa_B G + (0))), (1, .int (nI (ac))), (2, .int (nI (fi))), (3, .int (nI (ho))), (4, .int ((-1 : Int32)))]) hx hb dL_acts_253 hl (by decide) rfl (fun ls hl => ?_)
          refine lv_aload_n hx hb dL_acts_255 rfl (lv_at hl 3 rfl) ?_
          refine lv_iload_n hx hb dL_acts_256 rfl (lv_at hl 5 rfl) ?_
          refine fa_callVi (As := [.int (nI (fi))]) (rest := []) CX HX1675 (g_ask5 l G n hn v r hC (nI (fi))) ln_L_47 (by omega) rfl rfl rfl rfl (Nat.le_of_ble_eq_true rfl) hl.1 ⟨Nat.le_of_ble_eq_true rfl, Nat.le_of_ble_eq_true rfl⟩ ⟨Nat.le_refl _, Nat.le_refl _⟩ dL_acts_257 (fun x1677 v1678 r1679 H locs h1676 HX1680 => ?_)
          dsimp only at h1676
          have hC_v1678 := h1676.2.1
          have h_ask5 := h1676.1
          obtain ⟨hr58_257, hac_257⟩ := h_ask5
          obtain ⟨hx_257, hV_257⟩ := hac_257 _ _ hV
          rw [show fb_askA A (nI fi) = ((-1 : Int32), A) from by rw [hf0]; exact fc_ask0 (by rw [hk.2.1, hc0])] at hx_257 hV_257
          have hV_257 : fb_CV v1678 r1679 A _ := hV_257
          have hI_257 : fb_inj r1679 57 := hi57.congr hr58_257
          have hk_257 := hk
          have e_257 : x1677 = (-1 : Int32) := hx_257
          subst e_257
          refine lv_istore (lv' := [(12, .int ((-1 : Int32))), (11, .int (A.g 11)), (10, .int (A.g 12)), (9, .int ((-1 : Int32))), (0, .ref (fa_B G + (0))), (1, .int (nI (ac))), (2, .int (nI (fi))), (3, .int (nI (ho))), (4, .int ((-1 : Int32)))]) hx hb dL_acts_260 hl (by decide) rfl (fun ls hl => ?_)
          refine lv_aload_n hx hb dL_acts_262 rfl (lv_at hl 4 rfl) ?_
          refine lv_iconst (v := nI (1)) hx hb dL_acts_263 (by decide) ?_
          refine fa_callVip (As := [.int (nI (1))]) (rest := []) CX HX1680 (g_count l G n hn v1678 r1679 hC_v1678 (nI (1))) ln_L_15 (by omega) rfl rfl rfl rfl (Nat.le_of_ble_eq_true rfl) hl.1 ⟨Nat.le_of_ble_eq_true rfl, Nat.le_of_ble_eq_true rfl⟩ ⟨Nat.le_refl _, Nat.le_refl _⟩ dL_acts_264 (fun x1682 H locs h1681 HX1683 => ?_)
          have h_count := h1681
          have e_264 : x1682 = nI (cm) := (((h_count A hV_257.1 hV_257.2.2.1).trans (fb_cntA_1 (by decide))).trans hk_257.2.1)
          subst e_264
          refine lv_if_ne (tgt := 284) hx hb dL_acts_267 (by decide) (fun c_267 => ?_) (fun c_267 => ?_)
          · exact absurd (by rw [hc0]; rfl) c_267
          · refine lv_iload hx hb dL_acts_270 (lv_at hl 0 rfl) ?_
            refine lv_iconst (v := (-1 : Int32)) hx hb dL_acts_272 (by decide) ?_
            refine lv_icmp_ne (tgt := 280) hx hb dL_acts_273 (by decide) (fun c_273 => ?_) (fun c_273 => ?_)
            · exact absurd (by try decide) c_273
            · refine lv_iconst (v := nI (1)) hx hb dL_acts_276 (by decide) ?_
              refine lv_goto (tgt := 356) hx hb dL_acts_277 (by decide) ?_
              exact RET _ _ _ _ _ _ _ HX1683 dL_acts_356 (by decide) (⟨⟨rfl, A, _, dy, cm, bu, hV_257, hk_257.more (Nat.le_succ _), ⟨by omega, by omega, by omega, by omega⟩, hI_257⟩, hC_v1678, (fa_fr.tr fa_fr.rf (fa_fr.wide h1676.2.2.1 (by omega) (by omega))), (fun k hk => ((h1676.2.2.2 k hk).trans rfl))⟩)
        by_cases c_42_0 : nI (ac % 12) = (0 : Int32)
        · refine lv_tableIn (off := 54) (tgt := 96) hx hb dL_acts_42 (by rw [c_42_0]; decide) (by rw [c_42_0]; decide) (by rw [c_42_0]; decide) (by decide) ?_
          exact JOIN_96   _ _ _ (trivial) (lv_sub hl [1, 2, 3, 4, 0] rfl) HX1625
        by_cases c_42_1 : nI (ac % 12) = (1 : Int32)
        · refine lv_tableIn (off := 54) (tgt := 96) hx hb dL_acts_42 (by rw [c_42_1]; decide) (by rw [c_42_1]; decide) (by rw [c_42_1]; decide) (by decide) ?_
          exact JOIN_96   _ _ _ (trivial) (lv_sub hl [1, 2, 3, 4, 0] rfl) HX1625
        by_cases c_42_2 : nI (ac % 12) = (2 : Int32)
        · refine lv_tableIn (off := 54) (tgt := 96) hx hb dL_acts_42 (by rw [c_42_2]; decide) (by rw [c_42_2]; decide) (by rw [c_42_2]; decide) (by decide) ?_
          exact JOIN_96   _ _ _ (trivial) (lv_sub hl [1, 2, 3, 4, 0] rfl) HX1625
        by_cases c_42_3 : nI (ac % 12) = (3 : Int32)
        · refine lv_tableIn (off := 190) (tgt := 232) hx hb dL_acts_42 (by rw [c_42_3]; decide) (by rw [c_42_3]; decide) (by rw [c_42_3]; decide) (by decide) ?_
          exact JOIN_232   _ _ _ (trivial) (lv_sub hl [1, 2, 3, 4, 0] rfl) HX1625
        by_cases c_42_4 : nI (ac % 12) = (4 : Int32)
        · refine lv_tableIn (off := 190) (tgt := 232) hx hb dL_acts_42 (by rw [c_42_4]; decide) (by rw [c_42_4]; decide) (by rw [c_42_4]; decide) (by decide) ?_
          exact JOIN_232   _ _ _ (trivial) (lv_sub hl [1, 2, 3, 4, 0] rfl) HX1625
        by_cases c_42_5 : nI (ac % 12) = (5 : Int32)
        · refine lv_tableIn (off := 315) (tgt := 357) hx hb dL_acts_42 (by rw [c_42_5]; decide) (by rw [c_42_5]; decide) (by rw [c_42_5]; decide) (by decide) ?_
          refine lv_iload_n hx hb dL_acts_357 rfl (lv_at hl 2 rfl) ?_
          refine lv_bipush (v := nI (12)) hx hb dL_acts_358 (by decide) ?_
          refine lv_ishr hx hb dL_acts_360 ?_
          rw [show (nI (ac)) >>> ((nI (12)) &&& 31) = nI (ac / 4096) from fc_shr (k := 12) (by omega) (by decide)]
          refine lv_iconst (v := nI (3)) hx hb dL_acts_361 (by decide) ?_
          refine lv_irem hx hb dL_acts_362 (by decide) ?_
          rw [show (nI (ac / 4096)) - (nI (ac / 4096)) / (nI (3)) * (nI (3)) = nI ((ac / 4096) % 3) from pk_rem (by omega) (by decide) (by omega)]
          have JOIN_385 : ∀ (la : Int32) (yy : Int32) (le : Nat) (H : Heap) (locs : List Loc) (ls : Array Slot), (fc_la dy la yy le) → lv_has ls 34 [(0, .ref (fa_B G + (0))), (1, .int (nI (ac))), (2, .int (nI (fi))), (3, .int (nI (ho))), (4, .int ((-1 : Int32))), (13, .int (la))] → fa_HX G (n) v r s H locs → W p l e (fa_rm 8) s m args below meth c H locs (0) (0) Q (F0 m 385 ls []) := by
            intro la yy le H locs ls hi_385 hl HX1684
            refine lv_aload_n hx hb dL_acts_385 rfl (lv_at hl 0 rfl) ?_
            refine lv_iload_n hx hb dL_acts_386 rfl (lv_at hl 3 rfl) ?_
            refine lv_iload_n hx hb dL_acts_387 rfl (lv_at hl 2 rfl) ?_
            refine lv_iload hx hb dL_acts_388 (lv_at hl 5 rfl) ?_
            refine fa_callVi (As := [.int (nI (ho)), .int (nI (fi)), .int (la)]) (rest := []) CX HX1684 (g_seal5 l G n hn v r hC (nI (ho)) (nI (fi)) (la)) ln_L_50 (by omega) rfl rfl rfl rfl (Nat.le_of_ble_eq_true rfl) hl.1 ⟨Nat.le_of_ble_eq_true rfl, Nat.le_of_ble_eq_true rfl⟩ ⟨Nat.le_refl _, Nat.le_refl _⟩ dL_acts_390 (fun x1686 v1687 r1688 H locs h1685 HX1689 => ?_)
            dsimp only at h1685
            have hC_v1687 := h1685.2.1
            have h_seal5 := h1685.1
            obtain ⟨hr58_390, hac_390⟩ := h_seal5
            obtain ⟨hx_390, hV_390⟩ := hac_390 _ _ hV
            rw [fb_sealA_n hno] at hx_390 hV_390
            have hV_390 : fb_CV v1687 r1688 A _ := hV_390
            have hI_390 : fb_inj r1688 57 := hi57.congr hr58_390
            have hk_390 := hk
            have e_390 : x1686 = (-1 : Int32) := hx_390
            subst e_390
            refine lv_istore (lv' := [(14, .int ((-1 : Int32))), (0, .ref (fa_B G + (0))), (1, .int (nI (ac))), (2, .int (nI (fi))), (3, .int (nI (ho))), (4, .int ((-1 : Int32))), (13, .int (la))]) hx hb dL_acts_393 hl (by decide) rfl (fun ls hl => ?_)
            refine lv_iload hx hb dL_acts_395 (lv_at hl 5 rfl) ?_
            refine lv_if_ge (tgt := 414) hx hb dL_acts_397 (by decide) (fun c_397 => ?_) (fun c_397 => ?_)
            · exact absurd c_397 (by try decide)
            · refine lv_iload hx hb dL_acts_400 (lv_at hl 0 rfl) ?_
              refine lv_iconst (v := (-1 : Int32)) hx hb dL_acts_402 (by decide) ?_
              refine lv_icmp_ne (tgt := 410) hx hb dL_acts_403 (by decide) (fun c_403 => ?_) (fun c_403 => ?_)
              · exact absurd (by try decide) c_403
              · refine lv_iconst (v := nI (1)) hx hb dL_acts_406 (by decide) ?_
                refine lv_goto (tgt := 469) hx hb dL_acts_407 (by decide) ?_
                exact RET _ _ _ _ _ _ _ HX1689 dL_acts_469 (by decide) (⟨⟨rfl, A, _, dy, cm, bu, hV_390, hk_390.more (Nat.le_succ _), ⟨by omega, by omega, by omega, by omega⟩, hI_390⟩, hC_v1687, (fa_fr.tr fa_fr.rf (fa_fr.wide h1685.2.2.1 (by omega) (by omega))), (fun k hk => ((h1685.2.2.2 k hk).trans rfl))⟩)
          refine lv_if_ne (tgt := 370) hx hb dL_acts_363 (by decide) (fun c_363 => ?_) (fun c_363 => ?_)
          · refine lv_aload_n hx hb dL_acts_370 rfl (lv_at hl 1 rfl) ?_
            refine fa_callVip (As := []) (rest := []) CX HX1625 (g_now l G n hn v r hC ) ln_L_31 (by omega) rfl rfl rfl rfl (Nat.le_of_ble_eq_true rfl) hl.1 ⟨Nat.le_of_ble_eq_true rfl, Nat.le_of_ble_eq_true rfl⟩ ⟨Nat.le_refl _, Nat.le_refl _⟩ dL_acts_371 (fun x1691 H locs h1690 HX1692 => ?_)
            have h_now := h1690
            have e_371 : x1691 = nI (dy) := ((h_now.trans hV.2.2.1.now).trans hk.1)
            subst e_371
            refine lv_iload_n hx hb dL_acts_374 rfl (lv_at hl 2 rfl) ?_
            refine lv_bipush (v := nI (12)) hx hb dL_acts_375 (by decide) ?_
            refine lv_ishr hx hb dL_acts_377 ?_
            rw [show (nI (ac)) >>> ((nI (12)) &&& 31) = nI (ac / 4096) from fc_shr (k := 12) (by omega) (by decide)]
            refine lv_sipush (v := nI (300)) hx hb dL_acts_378 (by decide) ?_
            refine lv_irem hx hb dL_acts_381 (by decide) ?_
            rw [show (nI (ac / 4096)) - (nI (ac / 4096)) / (nI (300)) * (nI (300)) = nI ((ac / 4096) % 300) from pk_rem (by omega) (by decide) (by omega)]
            refine fa_iaddN hx hb dL_acts_382 ?_
            refine lv_istore (lv' := [(13, .int (nI (dy + ((ac / 4096) % 300)))), (4, .int ((-1 : Int32))), (0, .ref (fa_B G + (0))), (1, .int (nI (ac))), (2, .int (nI (fi))), (3, .int (nI (ho)))]) hx hb dL_acts_383 hl (by decide) rfl (fun ls hl => ?_)
            exact JOIN_385 (nI (dy + ((ac / 4096) % 300))) (nI (dy + ((ac / 4096) % 300) + 1)) (dy + ((ac / 4096) % 300))  _ _ _ (⟨rfl, Or.inr ⟨rfl, by omega, by omega⟩⟩) (lv_sub hl [2, 3, 4, 5, 1, 0] rfl) HX1692
          · refine lv_iconst (v := (-1 : Int32)) hx hb dL_acts_366 (by decide) ?_
            refine lv_goto (tgt := 383) hx hb dL_acts_367 (by decide) ?_
            refine lv_istore (lv' := [(13, .int ((-1 : Int32))), (4, .int ((-1 : Int32))), (0, .ref (fa_B G + (0))), (1, .int (nI (ac))), (2, .int (nI (fi))), (3, .int (nI (ho)))]) hx hb dL_acts_383 hl (by decide) rfl (fun ls hl => ?_)
            exact JOIN_385 ((-1 : Int32)) (nI 10001) (10000)  _ _ _ (⟨rfl, Or.inl ⟨rfl, rfl⟩⟩) (lv_sub hl [2, 3, 4, 5, 1, 0] rfl) HX1625
        by_cases c_42_6 : nI (ac % 12) = (6 : Int32)
        · refine lv_tableIn (off := 428) (tgt := 470) hx hb dL_acts_42 (by rw [c_42_6]; decide) (by rw [c_42_6]; decide) (by rw [c_42_6]; decide) (by decide) ?_
          refine lv_aload_n hx hb dL_acts_470 rfl (lv_at hl 1 rfl) ?_
          refine lv_iload_n hx hb dL_acts_471 rfl (lv_at hl 4 rfl) ?_
          refine lv_iload_n hx hb dL_acts_472 rfl (lv_at hl 3 rfl) ?_
          refine fa_callVip (As := [.int (nI (ho)), .int (nI (fi))]) (rest := []) CX HX1625 (g_sealOf l G n hn v r hC (nI (ho)) (nI (fi))) ln_L_28 (by omega) rfl rfl rfl rfl (Nat.le_of_ble_eq_true rfl) hl.1 ⟨Nat.le_of_ble_eq_true rfl, Nat.le_of_ble_eq_true rfl⟩ ⟨Nat.le_refl _, Nat.le_refl _⟩ dL_acts_473 (fun x1694 H locs h1693 HX1695 => ?_)
          have h_sealOf := h1693
          have e_473 : x1694 = (-1 : Int32) := ((h_sealOf A hV.1 hV.2.2.1).trans (fb_sloA_n hno))
          subst e_473
          refine lv_istore (lv' := [(15, .int ((-1 : Int32))), (4, .int ((-1 : Int32))), (0, .ref (fa_B G + (0))), (1, .int (nI (ac))), (2, .int (nI (fi))), (3, .int (nI (ho)))]) hx hb dL_acts_476 hl (by decide) rfl (fun ls hl => ?_)
          refine lv_aload_n hx hb dL_acts_478 rfl (lv_at hl 2 rfl) ?_
          refine lv_iload_n hx hb dL_acts_479 rfl (lv_at hl 5 rfl) ?_
          refine lv_iload_n hx hb dL_acts_480 rfl (lv_at hl 4 rfl) ?_
          refine fa_callVi (As := [.int (nI (ho)), .int (nI (fi))]) (rest := []) CX HX1695 (g_lift5 l G n hn v r hC (nI (ho)) (nI (fi))) ln_L_54 (by omega) rfl rfl rfl rfl (Nat.le_of_ble_eq_true rfl) hl.1 ⟨Nat.le_of_ble_eq_true rfl, Nat.le_of_ble_eq_true rfl⟩ ⟨Nat.le_refl _, Nat.le_refl _⟩ dL_acts_481 (fun x1697 v1698 r1699 H locs h1696 HX1700 => ?_)
          dsimp only at h1696
          have hC_v1698 := h1696.2.1
          have h_lift5 := h1696.1
          obtain ⟨hr58_481, hac_481⟩ := h_lift5
          obtain ⟨hx_481, hV_481⟩ := hac_481 _ _ hV
          rw [fb_liftA_n hno] at hx_481 hV_481
          have hV_481 : fb_CV v1698 r1699 A _ := hV_481
          have hI_481 : fb_inj r1699 57 := hi57.congr hr58_481
          have hk_481 := hk
          have e_481 : x1697 = (-1 : Int32) := hx_481
          subst e_481
          refine lv_istore (lv' := [(16, .int ((-1 : Int32))), (15, .int ((-1 : Int32))), (4, .int ((-1 : Int32))), (0, .ref (fa_B G + (0))), (1, .int (nI (ac))), (2, .int (nI (fi))), (3, .int (nI (ho)))]) hx hb dL_acts_484 hl (by decide) rfl (fun ls hl => ?_)
          refine lv_iload hx hb dL_acts_486 (lv_at hl 1 rfl) ?_
          refine lv_if_ge (tgt := 505) hx hb dL_acts_488 (by decide) (fun c_488 => ?_) (fun c_488 => ?_)
          · exact absurd c_488 (by try decide)
          · refine lv_iload hx hb dL_acts_491 (lv_at hl 0 rfl) ?_
            refine lv_iconst (v := (-1 : Int32)) hx hb dL_acts_493 (by decide) ?_
            refine lv_icmp_ne (tgt := 501) hx hb dL_acts_494 (by decide) (fun c_494 => ?_) (fun c_494 => ?_)
            · exact absurd (by try decide) c_494
            · refine lv_iconst (v := nI (1)) hx hb dL_acts_497 (by decide) ?_
              refine lv_goto (tgt := 526) hx hb dL_acts_498 (by decide) ?_
              exact RET _ _ _ _ _ _ _ HX1700 dL_acts_526 (by decide) (⟨⟨rfl, A, _, dy, cm, bu, hV_481, hk_481.more (Nat.le_succ _), ⟨by omega, by omega, by omega, by omega⟩, hI_481⟩, hC_v1698, (fa_fr.tr fa_fr.rf (fa_fr.wide h1696.2.2.1 (by omega) (by omega))), (fun k hk => ((h1696.2.2.2 k hk).trans rfl))⟩)
        by_cases c_42_7 : nI (ac % 12) = (7 : Int32)
        · refine lv_tableIn (off := 485) (tgt := 527) hx hb dL_acts_42 (by rw [c_42_7]; decide) (by rw [c_42_7]; decide) (by rw [c_42_7]; decide) (by decide) ?_
          refine lv_aload_n hx hb dL_acts_527 rfl (lv_at hl 1 rfl) ?_
          refine lv_iconst (v := nI (1)) hx hb dL_acts_528 (by decide) ?_
          refine fa_callVip (As := [.int (nI (1))]) (rest := []) CX HX1625 (g_count l G n hn v r hC (nI (1))) ln_L_15 (by omega) rfl rfl rfl rfl (Nat.le_of_ble_eq_true rfl) hl.1 ⟨Nat.le_of_ble_eq_true rfl, Nat.le_of_ble_eq_true rfl⟩ ⟨Nat.le_refl _, Nat.le_refl _⟩ dL_acts_529 (fun x1702 H locs h1701 HX1703 => ?_)
          have h_count := h1701
          have e_529 : x1702 = nI (cm) := (((h_count A hV.1 hV.2.2.1).trans (fb_cntA_1 (by decide))).trans hk.2.1)
          subst e_529
          have JOIN_551 : ∀ (ta : Nat) (H : Heap) (locs : List Loc) (ls : Array Slot), (ta < cm ∨ (cm = 0 ∧ ta = 0)) → lv_has ls 34 [(0, .ref (fa_B G + (0))), (1, .int (nI (ac))), (2, .int (nI (fi))), (3, .int (nI (ho))), (4, .int ((-1 : Int32))), (17, .int (nI (ta)))] → fa_HX G (n) v r s H locs → W p l e (fa_rm 8) s m args below meth c H locs (0) (0) Q (F0 m 551 ls []) := by
            intro ta H locs ls hi_551 hl HX1704
            rcases fc_split (A := A) (nI ta) with hnt | ⟨tp, htp, etp⟩
            · have hnt2 := hnt
              refine lv_iload hx hb dL_acts_551 (lv_at hl 4 rfl) ?_
              refine lv_if_lt (tgt := 570) hx hb dL_acts_553 (by decide) (fun c_553 => ?_) (fun c_553 => ?_)
              · refine lv_iconst (v := nI (0)) hx hb dL_acts_570 (by decide) ?_
                refine lv_istore (lv' := [(18, .int (nI (0))), (0, .ref (fa_B G + (0))), (1, .int (nI (ac))), (2, .int (nI (fi))), (3, .int (nI (ho))), (4, .int ((-1 : Int32))), (17, .int (nI (ta)))]) hx hb dL_acts_571 hl (by decide) rfl (fun ls hl => ?_)
                refine lv_aload_n hx hb dL_acts_573 rfl (lv_at hl 1 rfl) ?_
                refine lv_iload_n hx hb dL_acts_574 rfl (lv_at hl 3 rfl) ?_
                refine lv_iload hx hb dL_acts_575 (lv_at hl 6 rfl) ?_
                refine fa_callVi (As := [.int (nI (fi)), .int (nI (ta))]) (rest := []) CX HX1704 (g_refer5 l G n hn v r hC (nI (fi)) (nI (ta))) ln_L_57 (by omega) rfl rfl rfl rfl (Nat.le_of_ble_eq_true rfl) hl.1 ⟨Nat.le_of_ble_eq_true rfl, Nat.le_of_ble_eq_true rfl⟩ ⟨Nat.le_refl _, Nat.le_refl _⟩ dL_acts_577 (fun x1706 v1707 r1708 H locs h1705 HX1709 => ?_)
                dsimp only at h1705
                have hC_v1707 := h1705.2.1
                have h_refer5 := h1705.1
                obtain ⟨hr58_577, hac_577⟩ := h_refer5
                obtain ⟨hx_577, hV_577⟩ := hac_577 _ _ hV
                rw [fb_refA_n hno] at hx_577 hV_577
                have hV_577 : fb_CV v1707 r1708 A _ := hV_577
                have hI_577 : fb_inj r1708 57 := hi57.congr hr58_577
                have hk_577 := hk
                have e_577 : x1706 = (-1 : Int32) := hx_577
                subst e_577
                refine lv_istore (lv' := [(19, .int ((-1 : Int32))), (18, .int (nI (0))), (0, .ref (fa_B G + (0))), (1, .int (nI (ac))), (2, .int (nI (fi))), (3, .int (nI (ho))), (4, .int ((-1 : Int32))), (17, .int (nI (ta)))]) hx hb dL_acts_580 hl (by decide) rfl (fun ls hl => ?_)
                refine lv_iload hx hb dL_acts_582 (lv_at hl 1 rfl) ?_
                refine lv_if_eq (tgt := 619) hx hb dL_acts_584 (by decide) (fun c_584 => ?_) (fun c_584 => ?_)
                · refine lv_iload hx hb dL_acts_619 (lv_at hl 0 rfl) ?_
                  refine lv_iconst (v := (-1 : Int32)) hx hb dL_acts_621 (by decide) ?_
                  refine lv_icmp_ne (tgt := 629) hx hb dL_acts_622 (by decide) (fun c_622 => ?_) (fun c_622 => ?_)
                  · exact absurd (by try decide) c_622
                  · refine lv_iconst (v := nI (1)) hx hb dL_acts_625 (by decide) ?_
                    refine lv_goto (tgt := 630) hx hb dL_acts_626 (by decide) ?_
                    exact RET _ _ _ _ _ _ _ HX1709 dL_acts_630 (by decide) (⟨⟨rfl, A, _, dy, cm, bu, hV_577, hk_577.more (Nat.le_succ _), ⟨by omega, by omega, by omega, by omega⟩, hI_577⟩, hC_v1707, (fa_fr.tr fa_fr.rf (fa_fr.wide h1705.2.2.1 (by omega) (by omega))), (fun k hk => ((h1705.2.2.2 k hk).trans rfl))⟩)
                · exact absurd (by try decide) c_584
              · exact absurd (by try decide) c_553
            · have eti := fc_ixE hok htp etp
              obtain ⟨kt, hkt, ekt⟩ := (hok.1.2.2.2.2.2 tp htp).1
              refine lv_iload hx hb dL_acts_551 (lv_at hl 4 rfl) ?_
              refine lv_if_lt (tgt := 570) hx hb dL_acts_553 (by decide) (fun c_553 => ?_) (fun c_553 => ?_)
              · refine lv_iconst (v := nI (0)) hx hb dL_acts_570 (by decide) ?_
                refine lv_istore (lv' := [(18, .int (nI (0))), (0, .ref (fa_B G + (0))), (1, .int (nI (ac))), (2, .int (nI (fi))), (3, .int (nI (ho))), (4, .int ((-1 : Int32))), (17, .int (nI (ta)))]) hx hb dL_acts_571 hl (by decide) rfl (fun ls hl => ?_)
                refine lv_aload_n hx hb dL_acts_573 rfl (lv_at hl 1 rfl) ?_
                refine lv_iload_n hx hb dL_acts_574 rfl (lv_at hl 3 rfl) ?_
                refine lv_iload hx hb dL_acts_575 (lv_at hl 6 rfl) ?_
                refine fa_callVi (As := [.int (nI (fi)), .int (nI (ta))]) (rest := []) CX HX1704 (g_refer5 l G n hn v r hC (nI (fi)) (nI (ta))) ln_L_57 (by omega) rfl rfl rfl rfl (Nat.le_of_ble_eq_true rfl) hl.1 ⟨Nat.le_of_ble_eq_true rfl, Nat.le_of_ble_eq_true rfl⟩ ⟨Nat.le_refl _, Nat.le_refl _⟩ dL_acts_577 (fun x1711 v1712 r1713 H locs h1710 HX1714 => ?_)
                dsimp only at h1710
                have hC_v1712 := h1710.2.1
                have h_refer5 := h1710.1
                obtain ⟨hr58_577, hac_577⟩ := h_refer5
                obtain ⟨hx_577, hV_577⟩ := hac_577 _ _ hV
                rw [fb_refA_n hno] at hx_577 hV_577
                have hV_577 : fb_CV v1712 r1713 A _ := hV_577
                have hI_577 : fb_inj r1713 57 := hi57.congr hr58_577
                have hk_577 := hk
                have e_577 : x1711 = (-1 : Int32) := hx_577
                subst e_577
                refine lv_istore (lv' := [(19, .int ((-1 : Int32))), (18, .int (nI (0))), (0, .ref (fa_B G + (0))), (1, .int (nI (ac))), (2, .int (nI (fi))), (3, .int (nI (ho))), (4, .int ((-1 : Int32))), (17, .int (nI (ta)))]) hx hb dL_acts_580 hl (by decide) rfl (fun ls hl => ?_)
                refine lv_iload hx hb dL_acts_582 (lv_at hl 1 rfl) ?_
                refine lv_if_eq (tgt := 619) hx hb dL_acts_584 (by decide) (fun c_584 => ?_) (fun c_584 => ?_)
                · refine lv_iload hx hb dL_acts_619 (lv_at hl 0 rfl) ?_
                  refine lv_iconst (v := (-1 : Int32)) hx hb dL_acts_621 (by decide) ?_
                  refine lv_icmp_ne (tgt := 629) hx hb dL_acts_622 (by decide) (fun c_622 => ?_) (fun c_622 => ?_)
                  · exact absurd (by try decide) c_622
                  · refine lv_iconst (v := nI (1)) hx hb dL_acts_625 (by decide) ?_
                    refine lv_goto (tgt := 630) hx hb dL_acts_626 (by decide) ?_
                    exact RET _ _ _ _ _ _ _ HX1714 dL_acts_630 (by decide) (⟨⟨rfl, A, _, dy, cm, bu, hV_577, hk_577.more (Nat.le_succ _), ⟨by omega, by omega, by omega, by omega⟩, hI_577⟩, hC_v1712, (fa_fr.tr fa_fr.rf (fa_fr.wide h1710.2.2.1 (by omega) (by omega))), (fun k hk => ((h1710.2.2.2 k hk).trans rfl))⟩)
                · exact absurd (by try decide) c_584
              · exact absurd (by try decide) c_553
          refine lv_if_ne (tgt := 539) hx hb dL_acts_532 (by decide) (fun c_532 => ?_) (fun c_532 => ?_)
          · have hcm1 : 0 < cm := by
              refine Nat.pos_of_ne_zero (fun z => c_532 ?_)
              rw [z]; decide
            refine lv_iload_n hx hb dL_acts_539 rfl (lv_at hl 2 rfl) ?_
            refine lv_bipush (v := nI (12)) hx hb dL_acts_540 (by decide) ?_
            refine lv_ishr hx hb dL_acts_542 ?_
            rw [show (nI (ac)) >>> ((nI (12)) &&& 31) = nI (ac / 4096) from fc_shr (k := 12) (by omega) (by decide)]
            refine lv_aload_n hx hb dL_acts_543 rfl (lv_at hl 1 rfl) ?_
            refine lv_iconst (v := nI (1)) hx hb dL_acts_544 (by decide) ?_
            refine fa_callVip (As := [.int (nI (1))]) (rest := [.int (nI (ac / 4096))]) CX HX1703 (g_count l G n hn v r hC (nI (1))) ln_L_15 (by omega) rfl rfl rfl rfl (Nat.le_of_ble_eq_true rfl) hl.1 ⟨Nat.le_of_ble_eq_true rfl, Nat.le_of_ble_eq_true rfl⟩ ⟨Nat.le_refl _, Nat.le_refl _⟩ dL_acts_545 (fun x1716 H locs h1715 HX1717 => ?_)
            have h_count := h1715
            have e_545 : x1716 = nI (cm) := (((h_count A hV.1 hV.2.2.1).trans (fb_cntA_1 (by decide))).trans hk.2.1)
            subst e_545
            refine lv_irem hx hb dL_acts_548 (nI_ne0 hcm1 (by omega)) ?_
            rw [show (nI (ac / 4096)) - (nI (ac / 4096)) / (nI (cm)) * (nI (cm)) = nI ((ac / 4096) % cm) from pk_rem (by omega) hcm1 (by omega)]
            refine lv_istore (lv' := [(17, .int (nI ((ac / 4096) % cm))), (4, .int ((-1 : Int32))), (0, .ref (fa_B G + (0))), (1, .int (nI (ac))), (2, .int (nI (fi))), (3, .int (nI (ho)))]) hx hb dL_acts_549 hl (by decide) rfl (fun ls hl => ?_)
            exact JOIN_551 ((ac / 4096) % cm)  _ _ _ (Or.inl (Nat.mod_lt _ hcm1)) (lv_sub hl [2, 3, 4, 5, 1, 0] rfl) HX1717
          · have hcm1 : cm = 0 := fa_nIinj (by omega) (by decide) (by first | exact c_532 | exact Decidable.not_not.mp c_532)
            refine lv_iconst (v := nI (0)) hx hb dL_acts_535 (by decide) ?_
            refine lv_goto (tgt := 549) hx hb dL_acts_536 (by decide) ?_
            refine lv_istore (lv' := [(17, .int (nI (0))), (4, .int ((-1 : Int32))), (0, .ref (fa_B G + (0))), (1, .int (nI (ac))), (2, .int (nI (fi))), (3, .int (nI (ho)))]) hx hb dL_acts_549 hl (by decide) rfl (fun ls hl => ?_)
            exact JOIN_551 (0)  _ _ _ (Or.inr ⟨hcm1, rfl⟩) (lv_sub hl [2, 3, 4, 5, 1, 0] rfl) HX1703
        by_cases c_42_8 : nI (ac % 12) = (8 : Int32)
        · refine lv_tableIn (off := 589) (tgt := 631) hx hb dL_acts_42 (by rw [c_42_8]; decide) (by rw [c_42_8]; decide) (by rw [c_42_8]; decide) (by decide) ?_
          refine lv_aload_n hx hb dL_acts_631 rfl (lv_at hl 1 rfl) ?_
          refine fa_callVip (As := []) (rest := []) CX HX1625 (g_now l G n hn v r hC ) ln_L_31 (by omega) rfl rfl rfl rfl (Nat.le_of_ble_eq_true rfl) hl.1 ⟨Nat.le_of_ble_eq_true rfl, Nat.le_of_ble_eq_true rfl⟩ ⟨Nat.le_refl _, Nat.le_refl _⟩ dL_acts_632 (fun x1719 H locs h1718 HX1720 => ?_)
          have h_now := h1718
          have e_632 : x1719 = nI (dy) := ((h_now.trans hV.2.2.1.now).trans hk.1)
          subst e_632
          refine lv_iconst (v := nI (1)) hx hb dL_acts_635 (by decide) ?_
          refine fa_iaddN hx hb dL_acts_636 ?_
          refine lv_iload_n hx hb dL_acts_637 rfl (lv_at hl 2 rfl) ?_
          refine lv_bipush (v := nI (9)) hx hb dL_acts_638 (by decide) ?_
          refine lv_ishr hx hb dL_acts_640 ?_
          rw [show (nI (ac)) >>> ((nI (9)) &&& 31) = nI (ac / 512) from fc_shr (k := 9) (by omega) (by decide)]
          refine lv_sipush (v := nI (200)) hx hb dL_acts_641 (by decide) ?_
          refine lv_irem hx hb dL_acts_644 (by decide) ?_
          rw [show (nI (ac / 512)) - (nI (ac / 512)) / (nI (200)) * (nI (200)) = nI ((ac / 512) % 200) from pk_rem (by omega) (by decide) (by omega)]
          refine fa_iaddN hx hb dL_acts_645 ?_
          refine lv_istore (lv' := [(20, .int (nI (dy + 1 + ((ac / 512) % 200)))), (4, .int ((-1 : Int32))), (0, .ref (fa_B G + (0))), (1, .int (nI (ac))), (2, .int (nI (fi))), (3, .int (nI (ho)))]) hx hb dL_acts_646 hl (by decide) rfl (fun ls hl => ?_)
          refine lv_aload_n hx hb dL_acts_648 rfl (lv_at hl 2 rfl) ?_
          refine lv_bipush (v := nI (8)) hx hb dL_acts_649 (by decide) ?_
          refine fa_callVip (As := [.int (nI (8))]) (rest := []) CX HX1720 (g_count l G n hn v r hC (nI (8))) ln_L_15 (by omega) rfl rfl rfl rfl (Nat.le_of_ble_eq_true rfl) hl.1 ⟨Nat.le_of_ble_eq_true rfl, Nat.le_of_ble_eq_true rfl⟩ ⟨Nat.le_refl _, Nat.le_refl _⟩ dL_acts_651 (fun x1722 H locs h1721 HX1723 => ?_)
          have h_count := h1721
          have e_651 : x1722 = nI (A.q.length) := ((h_count A hV.1 hV.2.2.1).trans (fb_cntA_8 (by decide)))
          subst e_651
          refine lv_istore (lv' := [(21, .int (nI (A.q.length))), (20, .int (nI (dy + 1 + ((ac / 512) % 200)))), (4, .int ((-1 : Int32))), (0, .ref (fa_B G + (0))), (1, .int (nI (ac))), (2, .int (nI (fi))), (3, .int (nI (ho)))]) hx hb dL_acts_654 hl (by decide) rfl (fun ls hl => ?_)
          refine lv_aload_n hx hb dL_acts_656 rfl (lv_at hl 3 rfl) ?_
          refine lv_iload_n hx hb dL_acts_657 rfl (lv_at hl 5 rfl) ?_
          refine lv_iload hx hb dL_acts_658 (lv_at hl 1 rfl) ?_
          refine fa_callVi (As := [.int (nI (fi)), .int (nI (dy + 1 + ((ac / 512) % 200)))]) (rest := []) CX HX1723 (g_reserve5 l G n hn v r hC (nI (fi)) (nI (dy + 1 + ((ac / 512) % 200)))) ln_L_60 (by omega) rfl rfl rfl rfl (Nat.le_of_ble_eq_true rfl) hl.1 ⟨Nat.le_of_ble_eq_true rfl, Nat.le_of_ble_eq_true rfl⟩ ⟨Nat.le_refl _, Nat.le_refl _⟩ dL_acts_660 (fun x1725 v1726 r1727 H locs h1724 HX1728 => ?_)
          dsimp only at h1724
          have hC_v1726 := h1724.2.1
          have h_reserve5 := h1724.1
          obtain ⟨hr58_660, hac_660⟩ := h_reserve5
          obtain ⟨hx_660, hV_660⟩ := hac_660 _ _ hV
          rw [fb_resA_n hno] at hx_660 hV_660
          have hV_660 : fb_CV v1726 r1727 A _ := hV_660
          have hI_660 : fb_inj r1727 57 := hi57.congr hr58_660
          have hk_660 := hk
          have e_660 : x1725 = (-1 : Int32) := hx_660
          subst e_660
          refine lv_istore (lv' := [(22, .int ((-1 : Int32))), (21, .int (nI (A.q.length))), (20, .int (nI (dy + 1 + ((ac / 512) % 200)))), (4, .int ((-1 : Int32))), (0, .ref (fa_B G + (0))), (1, .int (nI (ac))), (2, .int (nI (fi))), (3, .int (nI (ho)))]) hx hb dL_acts_663 hl (by decide) rfl (fun ls hl => ?_)
          refine lv_iload hx hb dL_acts_665 (lv_at hl 3 rfl) ?_
          refine lv_if_ge (tgt := 684) hx hb dL_acts_667 (by decide) (fun c_667 => ?_) (fun c_667 => ?_)
          · exact absurd c_667 (by try decide)
          · refine lv_iload hx hb dL_acts_670 (lv_at hl 0 rfl) ?_
            refine lv_iconst (v := (-1 : Int32)) hx hb dL_acts_672 (by decide) ?_
            refine lv_icmp_ne (tgt := 680) hx hb dL_acts_673 (by decide) (fun c_673 => ?_) (fun c_673 => ?_)
            · exact absurd (by try decide) c_673
            · refine lv_iconst (v := nI (1)) hx hb dL_acts_676 (by decide) ?_
              refine lv_goto (tgt := 754) hx hb dL_acts_677 (by decide) ?_
              exact RET _ _ _ _ _ _ _ HX1728 dL_acts_754 (by decide) (⟨⟨rfl, A, _, dy, cm, bu, hV_660, hk_660.more (Nat.le_succ _), ⟨by omega, by omega, by omega, by omega⟩, hI_660⟩, hC_v1726, (fa_fr.tr fa_fr.rf (fa_fr.wide h1724.2.2.1 (by omega) (by omega))), (fun k hk => ((h1724.2.2.2 k hk).trans rfl))⟩)
        by_cases c_42_9 : nI (ac % 12) = (9 : Int32)
        · refine lv_tableIn (off := 713) (tgt := 755) hx hb dL_acts_42 (by rw [c_42_9]; decide) (by rw [c_42_9]; decide) (by rw [c_42_9]; decide) (by decide) ?_
          have JOIN_763 : ∀ (wh : Nat) (H : Heap) (locs : List Loc) (ls : Array Slot), (wh < 7) → lv_has ls 34 [(0, .ref (fa_B G + (0))), (1, .int (nI (ac))), (2, .int (nI (fi))), (3, .int (nI (ho))), (4, .int ((-1 : Int32))), (23, .int (nI (wh)))] → fa_HX G (n) v r s H locs → W p l e (fa_rm 8) s m args below meth c H locs (0) (0) Q (F0 m 763 ls []) := by
            intro wh H locs ls hi_763 hl HX1729
            refine lv_iload hx hb dL_acts_763 (lv_at hl 5 rfl) ?_
            refine lv_iconst (v := nI (5)) hx hb dL_acts_765 (by decide) ?_
            have JOIN_814 : ∀ (va : Nat) (H : Heap) (locs : List Loc) (ls : Array Slot), (fc_va wh va) → lv_has ls 34 [(0, .ref (fa_B G + (0))), (1, .int (nI (ac))), (2, .int (nI (fi))), (3, .int (nI (ho))), (4, .int ((-1 : Int32))), (23, .int (nI (wh))), (24, .int (nI (va)))] → fa_HX G (n) v r s H locs → W p l e (fa_rm 8) s m args below meth c H locs (0) (0) Q (F0 m 814 ls []) := by
              intro va H locs ls hi_814 hl HX1730
              refine lv_aload_n hx hb dL_acts_814 rfl (lv_at hl 0 rfl) ?_
              refine lv_iload hx hb dL_acts_815 (lv_at hl 5 rfl) ?_
              refine fa_callVip (As := [.int (nI (wh))]) (rest := []) CX HX1730 (g_setting l G n hn v r hC (nI (wh))) ln_L_22 (by omega) rfl rfl rfl rfl (Nat.le_of_ble_eq_true rfl) hl.1 ⟨Nat.le_of_ble_eq_true rfl, Nat.le_of_ble_eq_true rfl⟩ ⟨Nat.le_refl _, Nat.le_refl _⟩ dL_acts_817 (fun x1732 H locs h1731 HX1733 => ?_)
              have h_setting := h1731
              have e_817 : x1732 = A.g wh := ((h_setting A hV.1 hV.2.2.1).trans (fc_stg hi_763))
              subst e_817
              refine lv_istore (lv' := [(25, .int (A.g wh)), (0, .ref (fa_B G + (0))), (1, .int (nI (ac))), (2, .int (nI (fi))), (3, .int (nI (ho))), (4, .int ((-1 : Int32))), (23, .int (nI (wh))), (24, .int (nI (va)))]) hx hb dL_acts_820 hl (by decide) rfl (fun ls hl => ?_)
              refine lv_aload_n hx hb dL_acts_822 rfl (lv_at hl 1 rfl) ?_
              refine lv_iload hx hb dL_acts_823 (lv_at hl 6 rfl) ?_
              refine lv_iload hx hb dL_acts_825 (lv_at hl 7 rfl) ?_
              refine fa_callVi (As := [.int (nI (wh)), .int (nI (va))]) (rest := []) CX HX1733 (g_set5 l G n hn v r hC (nI (wh)) (nI (va))) ln_L_66 (by omega) rfl rfl rfl rfl (Nat.le_of_ble_eq_true rfl) hl.1 ⟨Nat.le_of_ble_eq_true rfl, Nat.le_of_ble_eq_true rfl⟩ ⟨Nat.le_refl _, Nat.le_refl _⟩ dL_acts_827 (fun x1735 v1736 r1737 H locs h1734 HX1738 => ?_)
              dsimp only at h1734
              have hC_v1736 := h1734.2.1
              have h_set5 := h1734.1
              obtain ⟨hr58_827, hac_827⟩ := h_set5
              obtain ⟨hx_827, hV_827⟩ := hac_827 _ _ hV
              rw [fc_set1 hi_814] at hx_827 hV_827
              have hV_827 : fb_CV v1736 r1737 (A.sg wh (nI (va))) _ := hV_827
              have hI_827 : fb_inj r1737 57 := hi57.congr hr58_827
              have hk_827 := hk.set1 hi_763 (fc_setS hk.2.2.2.2.2.2.1 hi_814)
              have e_827 : x1735 = A.g wh := hx_827
              subst e_827
              refine lv_iload hx hb dL_acts_830 (lv_at hl 0 rfl) ?_
              refine lv_icmp_ne (tgt := 850) hx hb dL_acts_832 (by decide) (fun c_832 => ?_) (fun c_832 => ?_)
              · exact absurd rfl c_832
              · refine lv_aload_n hx hb dL_acts_835 rfl (lv_at hl 1 rfl) ?_
                refine lv_iload hx hb dL_acts_836 (lv_at hl 6 rfl) ?_
                refine fa_callVip (As := [.int (nI (wh))]) (rest := []) CX HX1738 (g_setting l G n hn v1736 r1737 hC_v1736 (nI (wh))) ln_L_22 (by omega) rfl rfl rfl rfl (Nat.le_of_ble_eq_true rfl) hl.1 ⟨Nat.le_of_ble_eq_true rfl, Nat.le_of_ble_eq_true rfl⟩ ⟨Nat.le_refl _, Nat.le_refl _⟩ dL_acts_838 (fun x1740 H locs h1739 HX1741 => ?_)
                have h_setting := h1739
                have e_838 : x1740 = nI (va) := ((h_setting (A.sg wh (nI (va))) hV_827.1 hV_827.2.2.1).trans ((fc_stg hi_763).trans (fb_s1_s _ _ _)))
                subst e_838
                refine lv_iload hx hb dL_acts_841 (lv_at hl 7 rfl) ?_
                refine lv_icmp_ne (tgt := 850) hx hb dL_acts_843 (by decide) (fun c_843 => ?_) (fun c_843 => ?_)
                · exact absurd rfl c_843
                · refine lv_iconst (v := nI (1)) hx hb dL_acts_846 (by decide) ?_
                  refine lv_goto (tgt := 851) hx hb dL_acts_847 (by decide) ?_
                  exact RET _ _ _ _ _ _ _ HX1741 dL_acts_851 (by decide) (⟨⟨rfl, (A.sg wh (nI (va))), _, dy, cm, bu, hV_827, hk_827.more (Nat.le_succ _), ⟨by omega, by omega, by omega, by omega⟩, hI_827⟩, hC_v1736, (fa_fr.tr fa_fr.rf (fa_fr.wide h1734.2.2.1 (by omega) (by omega))), (fun k hk => ((h1734.2.2.2 k hk).trans rfl))⟩)
            refine lv_icmp_ge (tgt := 783) hx hb dL_acts_766 (by decide) (fun c_766 => ?_) (fun c_766 => ?_)
            · have hw5 : 5 ≤ wh := fa_leN (by omega) (by omega) c_766
              refine lv_iload hx hb dL_acts_783 (lv_at hl 5 rfl) ?_
              refine lv_iconst (v := nI (5)) hx hb dL_acts_785 (by decide) ?_
              refine lv_icmp_ne (tgt := 801) hx hb dL_acts_786 (by decide) (fun c_786 => ?_) (fun c_786 => ?_)
              · have hw6 : ¬ wh = 5 := fun z => c_786 (by rw [z])
                refine lv_bipush (v := nI (50)) hx hb dL_acts_801 (by decide) ?_
                refine lv_iload_n hx hb dL_acts_803 rfl (lv_at hl 1 rfl) ?_
                refine lv_bipush (v := nI (8)) hx hb dL_acts_804 (by decide) ?_
                refine lv_ishr hx hb dL_acts_806 ?_
                rw [show (nI (ac)) >>> ((nI (8)) &&& 31) = nI (ac / 256) from fc_shr (k := 8) (by omega) (by decide)]
                refine lv_sipush (v := nI (551)) hx hb dL_acts_807 (by decide) ?_
                refine lv_irem hx hb dL_acts_810 (by decide) ?_
                rw [show (nI (ac / 256)) - (nI (ac / 256)) / (nI (551)) * (nI (551)) = nI ((ac / 256) % 551) from pk_rem (by omega) (by decide) (by omega)]
                refine fa_iaddN hx hb dL_acts_811 ?_
                refine lv_istore (lv' := [(24, .int (nI (50 + ((ac / 256) % 551)))), (0, .ref (fa_B G + (0))), (1, .int (nI (ac))), (2, .int (nI (fi))), (3, .int (nI (ho))), (4, .int ((-1 : Int32))), (23, .int (nI (wh)))]) hx hb dL_acts_812 hl (by decide) rfl (fun ls hl => ?_)
                exact JOIN_814 (50 + ((ac / 256) % 551))  _ _ _ (by unfold fc_va; omega) (lv_sub hl [1, 2, 3, 4, 5, 6, 0] rfl) HX1729
              · have hw6 : wh = 5 := fa_nIinj (by omega) (by omega) c_786
                refine lv_iconst (v := nI (1)) hx hb dL_acts_789 (by decide) ?_
                refine lv_iload_n hx hb dL_acts_790 rfl (lv_at hl 1 rfl) ?_
                refine lv_bipush (v := nI (8)) hx hb dL_acts_791 (by decide) ?_
                refine lv_ishr hx hb dL_acts_793 ?_
                rw [show (nI (ac)) >>> ((nI (8)) &&& 31) = nI (ac / 256) from fc_shr (k := 8) (by omega) (by decide)]
                refine lv_bipush (v := nI (20)) hx hb dL_acts_794 (by decide) ?_
                refine lv_irem hx hb dL_acts_796 (by decide) ?_
                rw [show (nI (ac / 256)) - (nI (ac / 256)) / (nI (20)) * (nI (20)) = nI ((ac / 256) % 20) from pk_rem (by omega) (by decide) (by omega)]
                refine fa_iaddN hx hb dL_acts_797 ?_
                refine lv_goto (tgt := 812) hx hb dL_acts_798 (by decide) ?_
                refine lv_istore (lv' := [(24, .int (nI (1 + ((ac / 256) % 20)))), (0, .ref (fa_B G + (0))), (1, .int (nI (ac))), (2, .int (nI (fi))), (3, .int (nI (ho))), (4, .int ((-1 : Int32))), (23, .int (nI (wh)))]) hx hb dL_acts_812 hl (by decide) rfl (fun ls hl => ?_)
                exact JOIN_814 (1 + ((ac / 256) % 20))  _ _ _ (by unfold fc_va; omega) (lv_sub hl [1, 2, 3, 4, 5, 6, 0] rfl) HX1729
            · have hw5 : wh < 5 := fa_ltN (by omega) (by omega) c_766
              refine lv_bipush (v := nI (30)) hx hb dL_acts_769 (by decide) ?_
              refine lv_iload_n hx hb dL_acts_771 rfl (lv_at hl 1 rfl) ?_
              refine lv_bipush (v := nI (8)) hx hb dL_acts_772 (by decide) ?_
              refine lv_ishr hx hb dL_acts_774 ?_
              rw [show (nI (ac)) >>> ((nI (8)) &&& 31) = nI (ac / 256) from fc_shr (k := 8) (by omega) (by decide)]
              refine lv_sipush (v := nI (300)) hx hb dL_acts_775 (by decide) ?_
              refine lv_irem hx hb dL_acts_778 (by decide) ?_
              rw [show (nI (ac / 256)) - (nI (ac / 256)) / (nI (300)) * (nI (300)) = nI ((ac / 256) % 300) from pk_rem (by omega) (by decide) (by omega)]
              refine fa_iaddN hx hb dL_acts_779 ?_
              refine lv_goto (tgt := 812) hx hb dL_acts_780 (by decide) ?_
              refine lv_istore (lv' := [(24, .int (nI (30 + ((ac / 256) % 300)))), (0, .ref (fa_B G + (0))), (1, .int (nI (ac))), (2, .int (nI (fi))), (3, .int (nI (ho))), (4, .int ((-1 : Int32))), (23, .int (nI (wh)))]) hx hb dL_acts_812 hl (by decide) rfl (fun ls hl => ?_)
              exact JOIN_814 (30 + ((ac / 256) % 300))  _ _ _ (by unfold fc_va; omega) (lv_sub hl [1, 2, 3, 4, 5, 6, 0] rfl) HX1729
          refine lv_iload_n hx hb dL_acts_755 rfl (lv_at hl 2 rfl) ?_
          refine lv_iconst (v := nI (4)) hx hb dL_acts_756 (by decide) ?_
          refine lv_ishr hx hb dL_acts_757 ?_
          rw [show (nI (ac)) >>> ((nI (4)) &&& 31) = nI (ac / 16) from fc_shr (k := 4) (by omega) (by decide)]
          refine lv_bipush (v := nI (7)) hx hb dL_acts_758 (by decide) ?_
          refine lv_irem hx hb dL_acts_760 (by decide) ?_
          rw [show (nI (ac / 16)) - (nI (ac / 16)) / (nI (7)) * (nI (7)) = nI ((ac / 16) % 7) from pk_rem (by omega) (by decide) (by omega)]
          refine lv_istore (lv' := [(23, .int (nI ((ac / 16) % 7))), (4, .int ((-1 : Int32))), (0, .ref (fa_B G + (0))), (1, .int (nI (ac))), (2, .int (nI (fi))), (3, .int (nI (ho)))]) hx hb dL_acts_761 hl (by decide) rfl (fun ls hl => ?_)
          exact JOIN_763 ((ac / 16) % 7)  _ _ _ (Nat.mod_lt _ (by decide)) (lv_sub hl [2, 3, 4, 5, 1, 0] rfl) HX1625
        have hout_42 : (nI (ac % 12)).toInt < 0 ∨ 9 < (nI (ac % 12)).toInt := by
          have z0 := lv_neT (a := 0) c_42_0 (by decide)
          have z1 := lv_neT (a := 1) c_42_1 (by decide)
          have z2 := lv_neT (a := 2) c_42_2 (by decide)
          have z3 := lv_neT (a := 3) c_42_3 (by decide)
          have z4 := lv_neT (a := 4) c_42_4 (by decide)
          have z5 := lv_neT (a := 5) c_42_5 (by decide)
          have z6 := lv_neT (a := 6) c_42_6 (by decide)
          have z7 := lv_neT (a := 7) c_42_7 (by decide)
          have z8 := lv_neT (a := 8) c_42_8 (by decide)
          have z9 := lv_neT (a := 9) c_42_9 (by decide)
          omega
        refine lv_tableOut (tgt := 852) hx hb dL_acts_42 hout_42 (by decide) ?_
        have JOIN_862 : ∀ (da : Nat) (H : Heap) (locs : List Loc) (ls : Array Slot), (1 ≤ da ∧ da ≤ 120) → lv_has ls 34 [(0, .ref (fa_B G + (0))), (1, .int (nI (ac))), (2, .int (nI (fi))), (3, .int (nI (ho))), (4, .int ((-1 : Int32))), (26, .int (nI (da)))] → fa_HX G (n) v r s H locs → W p l e (fa_rm 8) s m args below meth c H locs (0) (0) Q (F0 m 862 ls []) := by
          intro da H locs ls hi_862 hl HX1742
          refine lv_aload_n hx hb dL_acts_862 rfl (lv_at hl 0 rfl) ?_
          refine fa_callVip (As := []) (rest := []) CX HX1742 (g_now l G n hn v r hC ) ln_L_31 (by omega) rfl rfl rfl rfl (Nat.le_of_ble_eq_true rfl) hl.1 ⟨Nat.le_of_ble_eq_true rfl, Nat.le_of_ble_eq_true rfl⟩ ⟨Nat.le_refl _, Nat.le_refl _⟩ dL_acts_863 (fun x1744 H locs h1743 HX1745 => ?_)
          have h_now := h1743
          have e_863 : x1744 = nI (dy) := ((h_now.trans hV.2.2.1.now).trans hk.1)
          subst e_863
          refine lv_istore (lv' := [(27, .int (nI (dy))), (0, .ref (fa_B G + (0))), (1, .int (nI (ac))), (2, .int (nI (fi))), (3, .int (nI (ho))), (4, .int ((-1 : Int32))), (26, .int (nI (da)))]) hx hb dL_acts_866 hl (by decide) rfl (fun ls hl => ?_)
          refine lv_aload_n hx hb dL_acts_868 rfl (lv_at hl 1 rfl) ?_
          refine lv_iconst (v := nI (3)) hx hb dL_acts_869 (by decide) ?_
          refine fa_callVip (As := [.int (nI (3))]) (rest := []) CX HX1745 (g_count l G n hn v r hC (nI (3))) ln_L_15 (by omega) rfl rfl rfl rfl (Nat.le_of_ble_eq_true rfl) hl.1 ⟨Nat.le_of_ble_eq_true rfl, Nat.le_of_ble_eq_true rfl⟩ ⟨Nat.le_refl _, Nat.le_refl _⟩ dL_acts_870 (fun x1747 H locs h1746 HX1748 => ?_)
          have h_count := h1746
          have e_870 : x1747 = nI (bu) := (((h_count A hV.1 hV.2.2.1).trans (fb_cntA_3 (by decide))).trans hk.2.2.1)
          subst e_870
          refine lv_istore (lv' := [(28, .int (nI (bu))), (27, .int (nI (dy))), (0, .ref (fa_B G + (0))), (1, .int (nI (ac))), (2, .int (nI (fi))), (3, .int (nI (ho))), (4, .int ((-1 : Int32))), (26, .int (nI (da)))]) hx hb dL_acts_873 hl (by decide) rfl (fun ls hl => ?_)
          refine lv_aload_n hx hb dL_acts_875 rfl (lv_at hl 2 rfl) ?_
          refine lv_iconst (v := nI (4)) hx hb dL_acts_876 (by decide) ?_
          refine fa_callVip (As := [.int (nI (4))]) (rest := []) CX HX1748 (g_count l G n hn v r hC (nI (4))) ln_L_15 (by omega) rfl rfl rfl rfl (Nat.le_of_ble_eq_true rfl) hl.1 ⟨Nat.le_of_ble_eq_true rfl, Nat.le_of_ble_eq_true rfl⟩ ⟨Nat.le_refl _, Nat.le_refl _⟩ dL_acts_877 (fun x1750 H locs h1749 HX1751 => ?_)
          have h_count := h1749
          have e_877 : x1750 = A.g 10 := ((h_count A hV.1 hV.2.2.1).trans (fb_cntA_4 (by decide)))
          subst e_877
          refine lv_istore (lv' := [(29, .int (A.g 10)), (28, .int (nI (bu))), (27, .int (nI (dy))), (0, .ref (fa_B G + (0))), (1, .int (nI (ac))), (2, .int (nI (fi))), (3, .int (nI (ho))), (4, .int ((-1 : Int32))), (26, .int (nI (da)))]) hx hb dL_acts_880 hl (by decide) rfl (fun ls hl => ?_)
          refine lv_aload_n hx hb dL_acts_882 rfl (lv_at hl 3 rfl) ?_
          refine lv_iconst (v := nI (5)) hx hb dL_acts_883 (by decide) ?_
          refine fa_callVip (As := [.int (nI (5))]) (rest := []) CX HX1751 (g_count l G n hn v r hC (nI (5))) ln_L_15 (by omega) rfl rfl rfl rfl (Nat.le_of_ble_eq_true rfl) hl.1 ⟨Nat.le_of_ble_eq_true rfl, Nat.le_of_ble_eq_true rfl⟩ ⟨Nat.le_refl _, Nat.le_refl _⟩ dL_acts_884 (fun x1753 H locs h1752 HX1754 => ?_)
          have h_count := h1752
          have e_884 : x1753 = A.g 11 := ((h_count A hV.1 hV.2.2.1).trans (fb_cntA_5 (by decide)))
          subst e_884
          refine lv_istore (lv' := [(30, .int (A.g 11)), (29, .int (A.g 10)), (28, .int (nI (bu))), (27, .int (nI (dy))), (0, .ref (fa_B G + (0))), (1, .int (nI (ac))), (2, .int (nI (fi))), (3, .int (nI (ho))), (4, .int ((-1 : Int32))), (26, .int (nI (da)))]) hx hb dL_acts_887 hl (by decide) rfl (fun ls hl => ?_)
          refine lv_aload_n hx hb dL_acts_889 rfl (lv_at hl 4 rfl) ?_
          refine lv_iload hx hb dL_acts_890 (lv_at hl 9 rfl) ?_
          refine lv_iconst (v := nI (0)) hx hb dL_acts_892 (by decide) ?_
          refine fa_callVi (As := [.int (nI (da)), .int (nI (0))]) (rest := []) CX HX1754 (g_ifPassed l G n hn v r hC (nI (da)) (nI (0))) ln_L_69 (by omega) rfl rfl rfl rfl (Nat.le_of_ble_eq_true rfl) hl.1 ⟨Nat.le_of_ble_eq_true rfl, Nat.le_of_ble_eq_true rfl⟩ ⟨Nat.le_refl _, Nat.le_refl _⟩ dL_acts_893 (fun x1756 v1757 r1758 H locs h1755 HX1759 => ?_)
          dsimp only at h1755
          have hC_v1757 := h1755.2.1
          have h_ifPassed := h1755.1
          have hV_893 := hV.fut h1755.2.2.1 h_ifPassed.1
          obtain ⟨hI_893, hip_893⟩ := h_ifPassed.2 A dy hok hk.1 (by omega) hi57 hV.2.2.1
          have e_893 : x1756 = (fb_daysA A da).2.g 9 - A.g 9 := ((hip_893 da rfl hi_862.1 (by omega)).1 (by decide))
          subst e_893
          refine lv_istore (lv' := [(31, .int ((fb_daysA A da).2.g 9 - A.g 9)), (30, .int (A.g 11)), (29, .int (A.g 10)), (28, .int (nI (bu))), (27, .int (nI (dy))), (0, .ref (fa_B G + (0))), (1, .int (nI (ac))), (2, .int (nI (fi))), (3, .int (nI (ho))), (4, .int ((-1 : Int32))), (26, .int (nI (da)))]) hx hb dL_acts_896 hl (by decide) rfl (fun ls hl => ?_)
          refine lv_aload_n hx hb dL_acts_898 rfl (lv_at hl 5 rfl) ?_
          refine lv_iload hx hb dL_acts_899 (lv_at hl 10 rfl) ?_
          refine lv_iconst (v := nI (1)) hx hb dL_acts_901 (by decide) ?_
          refine fa_callVi (As := [.int (nI (da)), .int (nI (1))]) (rest := []) CX HX1759 (g_ifPassed l G n hn v1757 r1758 hC_v1757 (nI (da)) (nI (1))) ln_L_69 (by omega) rfl rfl rfl rfl (Nat.le_of_ble_eq_true rfl) hl.1 ⟨Nat.le_of_ble_eq_true rfl, Nat.le_of_ble_eq_true rfl⟩ ⟨Nat.le_refl _, Nat.le_refl _⟩ dL_acts_902 (fun x1761 v1762 r1763 H locs h1760 HX1764 => ?_)
          dsimp only at h1760
          have hC_v1762 := h1760.2.1
          have h_ifPassed := h1760.1
          have hV_902 := hV_893.fut h1760.2.2.1 h_ifPassed.1
          obtain ⟨hI_902, hip_902⟩ := h_ifPassed.2 A dy hok hk.1 (by omega) hI_893 hV_893.2.2.1
          have e_902 : x1761 = (fb_daysA A da).2.g 10 - A.g 10 := ((hip_902 da rfl hi_862.1 (by omega)).2.1 (by decide))
          subst e_902
          refine lv_istore (lv' := [(32, .int ((fb_daysA A da).2.g 10 - A.g 10)), (31, .int ((fb_daysA A da).2.g 9 - A.g 9)), (30, .int (A.g 11)), (29, .int (A.g 10)), (28, .int (nI (bu))), (27, .int (nI (dy))), (0, .ref (fa_B G + (0))), (1, .int (nI (ac))), (2, .int (nI (fi))), (3, .int (nI (ho))), (4, .int ((-1 : Int32))), (26, .int (nI (da)))]) hx hb dL_acts_905 hl (by decide) rfl (fun ls hl => ?_)
          refine lv_aload_n hx hb dL_acts_907 rfl (lv_at hl 6 rfl) ?_
          refine lv_iload hx hb dL_acts_908 (lv_at hl 11 rfl) ?_
          refine lv_iconst (v := nI (2)) hx hb dL_acts_910 (by decide) ?_
          refine fa_callVi (As := [.int (nI (da)), .int (nI (2))]) (rest := []) CX HX1764 (g_ifPassed l G n hn v1762 r1763 hC_v1762 (nI (da)) (nI (2))) ln_L_69 (by omega) rfl rfl rfl rfl (Nat.le_of_ble_eq_true rfl) hl.1 ⟨Nat.le_of_ble_eq_true rfl, Nat.le_of_ble_eq_true rfl⟩ ⟨Nat.le_refl _, Nat.le_refl _⟩ dL_acts_911 (fun x1766 v1767 r1768 H locs h1765 HX1769 => ?_)
          dsimp only at h1765
          have hC_v1767 := h1765.2.1
          have h_ifPassed := h1765.1
          have hV_911 := hV_902.fut h1765.2.2.1 h_ifPassed.1
          obtain ⟨hI_911, hip_911⟩ := h_ifPassed.2 A dy hok hk.1 (by omega) hI_902 hV_902.2.2.1
          have e_911 : x1766 = (fb_daysA A da).2.g 11 - A.g 11 := ((hip_911 da rfl hi_862.1 (by omega)).2.2 rfl)
          subst e_911
          refine lv_istore (lv' := [(33, .int ((fb_daysA A da).2.g 11 - A.g 11)), (32, .int ((fb_daysA A da).2.g 10 - A.g 10)), (31, .int ((fb_daysA A da).2.g 9 - A.g 9)), (30, .int (A.g 11)), (29, .int (A.g 10)), (28, .int (nI (bu))), (27, .int (nI (dy))), (0, .ref (fa_B G + (0))), (1, .int (nI (ac))), (2, .int (nI (fi))), (3, .int (nI (ho))), (4, .int ((-1 : Int32))), (26, .int (nI (da)))]) hx hb dL_acts_914 hl (by decide) rfl (fun ls hl => ?_)
          refine lv_aload_n hx hb dL_acts_916 rfl (lv_at hl 7 rfl) ?_
          refine lv_iload hx hb dL_acts_917 (lv_at hl 12 rfl) ?_
          refine fa_callVi (As := [.int (nI (da))]) (rest := []) CX HX1769 (g_pass5 l G n hn v1767 r1768 hC_v1767 (nI (da))) ln_L_72 (by omega) rfl rfl rfl rfl (Nat.le_of_ble_eq_true rfl) hl.1 ⟨Nat.le_of_ble_eq_true rfl, Nat.le_of_ble_eq_true rfl⟩ ⟨Nat.le_refl _, Nat.le_refl _⟩ dL_acts_919 (fun x1771 v1772 r1773 H locs h1770 HX1774 => ?_)
          dsimp only at h1770
          have hC_v1772 := h1770.2.1
          have h_pass5 := h1770.1
          obtain ⟨hr58_919, hac_919⟩ := h_pass5
          obtain ⟨hx_919, hV_919⟩ := hac_919 _ _ hV_911
          rw [fc_pass1 hk.1 hi_862.1 (by omega) (by omega)] at hx_919 hV_919
          have hV_919 : fb_CV v1772 r1773 ((fb_daysA A da).2) _ := hV_919
          have hI_919 : fb_inj r1773 57 := hI_911.congr hr58_919
          obtain ⟨b2, hb2, hk_919, -⟩ := hk.days hok (by omega) da (by omega)
          have e_919 : x1771 = (fb_daysA A da).1 := hx_919
          subst e_919
          refine lv_iload hx hb dL_acts_922 (lv_at hl 2 rfl) ?_
          refine lv_icmp_ne (tgt := 982) hx hb dL_acts_924 (by decide) (fun c_924 => ?_) (fun c_924 => ?_)
          · exact absurd (fc_days9 A da) c_924
          · refine lv_aload_n hx hb dL_acts_927 rfl (lv_at hl 7 rfl) ?_
            refine fa_callVip (As := []) (rest := []) CX HX1774 (g_now l G n hn v1772 r1773 hC_v1772 ) ln_L_31 (by omega) rfl rfl rfl rfl (Nat.le_of_ble_eq_true rfl) hl.1 ⟨Nat.le_of_ble_eq_true rfl, Nat.le_of_ble_eq_true rfl⟩ ⟨Nat.le_refl _, Nat.le_refl _⟩ dL_acts_928 (fun x1776 H locs h1775 HX1777 => ?_)
            have h_now := h1775
            have e_928 : x1776 = nI (dy + da) := ((h_now.trans hV_919.2.2.1.now).trans hk_919.1)
            subst e_928
            refine lv_iload hx hb dL_acts_931 (lv_at hl 6 rfl) ?_
            refine lv_iload hx hb dL_acts_933 (lv_at hl 12 rfl) ?_
            refine fa_iaddN hx hb dL_acts_935 ?_
            refine lv_icmp_ne (tgt := 982) hx hb dL_acts_936 (by decide) (fun c_936 => ?_) (fun c_936 => ?_)
            · exact absurd rfl c_936
            · refine lv_aload_n hx hb dL_acts_939 rfl (lv_at hl 7 rfl) ?_
              refine lv_iconst (v := nI (3)) hx hb dL_acts_940 (by decide) ?_
              refine fa_callVip (As := [.int (nI (3))]) (rest := []) CX HX1777 (g_count l G n hn v1772 r1773 hC_v1772 (nI (3))) ln_L_15 (by omega) rfl rfl rfl rfl (Nat.le_of_ble_eq_true rfl) hl.1 ⟨Nat.le_of_ble_eq_true rfl, Nat.le_of_ble_eq_true rfl⟩ ⟨Nat.le_refl _, Nat.le_refl _⟩ dL_acts_941 (fun x1779 H locs h1778 HX1780 => ?_)
              have h_count := h1778
              have e_941 : x1779 = (fb_daysA A da).2.g 9 := ((h_count ((fb_daysA A da).2) hV_919.1 hV_919.2.2.1).trans (fb_cntA_3 (by decide)))
              subst e_941
              refine lv_iload hx hb dL_acts_944 (lv_at hl 5 rfl) ?_
              refine lv_iload hx hb dL_acts_946 (lv_at hl 2 rfl) ?_
              refine lv_iadd hx hb dL_acts_948 ?_
              refine lv_icmp_ne (tgt := 982) hx hb dL_acts_949 (by decide) (fun c_949 => ?_) (fun c_949 => ?_)
              · exact absurd (by rw [← hk.2.2.1]; exact (fc_diff _ _).symm) c_949
              · refine lv_aload_n hx hb dL_acts_952 rfl (lv_at hl 7 rfl) ?_
                refine lv_iconst (v := nI (4)) hx hb dL_acts_953 (by decide) ?_
                refine fa_callVip (As := [.int (nI (4))]) (rest := []) CX HX1780 (g_count l G n hn v1772 r1773 hC_v1772 (nI (4))) ln_L_15 (by omega) rfl rfl rfl rfl (Nat.le_of_ble_eq_true rfl) hl.1 ⟨Nat.le_of_ble_eq_true rfl, Nat.le_of_ble_eq_true rfl⟩ ⟨Nat.le_refl _, Nat.le_refl _⟩ dL_acts_954 (fun x1782 H locs h1781 HX1783 => ?_)
                have h_count := h1781
                have e_954 : x1782 = (fb_daysA A da).2.g 10 := ((h_count ((fb_daysA A da).2) hV_919.1 hV_919.2.2.1).trans (fb_cntA_4 (by decide)))
                subst e_954
                refine lv_iload hx hb dL_acts_957 (lv_at hl 4 rfl) ?_
                refine lv_iload hx hb dL_acts_959 (lv_at hl 1 rfl) ?_
                refine lv_iadd hx hb dL_acts_961 ?_
                refine lv_icmp_ne (tgt := 982) hx hb dL_acts_962 (by decide) (fun c_962 => ?_) (fun c_962 => ?_)
                · exact absurd (fc_diff _ _).symm c_962
                · refine lv_aload_n hx hb dL_acts_965 rfl (lv_at hl 7 rfl) ?_
                  refine lv_iconst (v := nI (5)) hx hb dL_acts_966 (by decide) ?_
                  refine fa_callVip (As := [.int (nI (5))]) (rest := []) CX HX1783 (g_count l G n hn v1772 r1773 hC_v1772 (nI (5))) ln_L_15 (by omega) rfl rfl rfl rfl (Nat.le_of_ble_eq_true rfl) hl.1 ⟨Nat.le_of_ble_eq_true rfl, Nat.le_of_ble_eq_true rfl⟩ ⟨Nat.le_refl _, Nat.le_refl _⟩ dL_acts_967 (fun x1785 H locs h1784 HX1786 => ?_)
                  have h_count := h1784
                  have e_967 : x1785 = (fb_daysA A da).2.g 11 := ((h_count ((fb_daysA A da).2) hV_919.1 hV_919.2.2.1).trans (fb_cntA_5 (by decide)))
                  subst e_967
                  refine lv_iload hx hb dL_acts_970 (lv_at hl 3 rfl) ?_
                  refine lv_iload hx hb dL_acts_972 (lv_at hl 0 rfl) ?_
                  refine lv_iadd hx hb dL_acts_974 ?_
                  refine lv_icmp_ne (tgt := 982) hx hb dL_acts_975 (by decide) (fun c_975 => ?_) (fun c_975 => ?_)
                  · exact absurd (fc_diff _ _).symm c_975
                  · refine lv_iconst (v := nI (1)) hx hb dL_acts_978 (by decide) ?_
                    refine lv_goto (tgt := 983) hx hb dL_acts_979 (by decide) ?_
                    exact RET _ _ _ _ _ _ _ HX1786 dL_acts_983 (by decide) (⟨⟨rfl, ((fb_daysA A da).2), _, dy + da, cm, b2, hV_919, hk_919.more (Nat.le_succ _), ⟨by omega, by omega, by omega, by omega⟩, hI_919⟩, hC_v1772, (fa_fr.tr (fa_fr.tr (fa_fr.tr (fa_fr.tr fa_fr.rf (fa_fr.wide h1755.2.2.1 (by omega) (by omega))) (fa_fr.wide h1760.2.2.1 (by omega) (by omega))) (fa_fr.wide h1765.2.2.1 (by omega) (by omega))) (fa_fr.wide h1770.2.2.1 (by omega) (by omega))), (fun k hk => ((h1770.2.2.2 k hk).trans ((h1765.2.2.2 k hk).trans ((h1760.2.2.2 k hk).trans ((h1755.2.2.2 k hk).trans rfl)))))⟩)
        refine lv_iconst (v := nI (1)) hx hb dL_acts_852 (by decide) ?_
        refine lv_iload_n hx hb dL_acts_853 rfl (lv_at hl 2 rfl) ?_
        refine lv_iconst (v := nI (4)) hx hb dL_acts_854 (by decide) ?_
        refine lv_ishr hx hb dL_acts_855 ?_
        rw [show (nI (ac)) >>> ((nI (4)) &&& 31) = nI (ac / 16) from fc_shr (k := 4) (by omega) (by decide)]
        refine lv_bipush (v := nI (120)) hx hb dL_acts_856 (by decide) ?_
        refine lv_irem hx hb dL_acts_858 (by decide) ?_
        rw [show (nI (ac / 16)) - (nI (ac / 16)) / (nI (120)) * (nI (120)) = nI ((ac / 16) % 120) from pk_rem (by omega) (by decide) (by omega)]
        refine fa_iaddN hx hb dL_acts_859 ?_
        refine lv_istore (lv' := [(26, .int (nI (1 + ((ac / 16) % 120)))), (4, .int ((-1 : Int32))), (0, .ref (fa_B G + (0))), (1, .int (nI (ac))), (2, .int (nI (fi))), (3, .int (nI (ho)))]) hx hb dL_acts_860 hl (by decide) rfl (fun ls hl => ?_)
        exact JOIN_862 (1 + ((ac / 16) % 120))  _ _ _ (⟨by omega, by omega⟩) (lv_sub hl [2, 3, 4, 5, 1, 0] rfl) HX1625
      · have hfi9 : fi ≤ cm := by omega
        refine lv_aload_n hx hb dL_acts_30 rfl (lv_at hl 0 rfl) ?_
        refine lv_iload_n hx hb dL_acts_31 rfl (lv_at hl 2 rfl) ?_
        refine lv_iconst (v := nI (0)) hx hb dL_acts_32 (by decide) ?_
        refine fa_callVip (As := [.int (nI (fi)), .int (nI (0))]) (rest := []) CX HX1622 (g_file l G n hn v r hC (nI (fi)) (nI (0))) ln_L_9 (by omega) rfl rfl rfl rfl (Nat.le_of_ble_eq_true rfl) hl.1 ⟨Nat.le_of_ble_eq_true rfl, Nat.le_of_ble_eq_true rfl⟩ ⟨Nat.le_refl _, Nat.le_refl _⟩ dL_acts_33 (fun x1788 H locs h1787 HX1789 => ?_)
        have h_file := h1787
        have e_33 : x1788 = (-1 : Int32) := ((h_file A hV.1 hV.2.2.1).trans (fb_filA_n hno))
        subst e_33
        refine lv_istore (lv' := [(4, .int ((-1 : Int32))), (0, .ref (fa_B G + (0))), (1, .int (nI (ac))), (2, .int (nI (fi))), (3, .int (nI (ho)))]) hx hb dL_acts_36 hl (by decide) rfl (fun ls hl => ?_)
        refine lv_iload_n hx hb dL_acts_38 rfl (lv_at hl 2 rfl) ?_
        refine lv_bipush (v := nI (12)) hx hb dL_acts_39 (by decide) ?_
        refine lv_irem hx hb dL_acts_41 (by decide) ?_
        rw [show (nI (ac)) - (nI (ac)) / (nI (12)) * (nI (12)) = nI (ac % 12) from pk_rem (by omega) (by decide) (by omega)]
        have JOIN_96 : ∀  (H : Heap) (locs : List Loc) (ls : Array Slot), (True) → lv_has ls 34 [(0, .ref (fa_B G + (0))), (1, .int (nI (ac))), (2, .int (nI (fi))), (3, .int (nI (ho))), (4, .int ((-1 : Int32)))] → fa_HX G (n) v r s H locs → W p l e (fa_rm 8) s m args below meth c H locs (0) (0) Q (F0 m 96 ls []) := by
          intro  H locs ls hi_96 hl HX1790
          refine lv_aload_n hx hb dL_acts_96 rfl (lv_at hl 0 rfl) ?_
          refine lv_iconst (v := nI (1)) hx hb dL_acts_97 (by decide) ?_
          refine fa_callVip (As := [.int (nI (1))]) (rest := []) CX HX1790 (g_count l G n hn v r hC (nI (1))) ln_L_15 (by omega) rfl rfl rfl rfl (Nat.le_of_ble_eq_true rfl) hl.1 ⟨Nat.le_of_ble_eq_true rfl, Nat.le_of_ble_eq_true rfl⟩ ⟨Nat.le_refl _, Nat.le_refl _⟩ dL_acts_98 (fun x1792 H locs h1791 HX1793 => ?_)
          have h_count := h1791
          have e_98 : x1792 = nI (cm) := (((h_count A hV.1 hV.2.2.1).trans (fb_cntA_1 (by decide))).trans hk.2.1)
          subst e_98
          refine lv_istore (lv' := [(5, .int (nI (cm))), (0, .ref (fa_B G + (0))), (1, .int (nI (ac))), (2, .int (nI (fi))), (3, .int (nI (ho))), (4, .int ((-1 : Int32)))]) hx hb dL_acts_101 hl (by decide) rfl (fun ls hl => ?_)
          refine lv_iconst (v := nI (1)) hx hb dL_acts_103 (by decide) ?_
          refine lv_iload_n hx hb dL_acts_104 rfl (lv_at hl 2 rfl) ?_
          refine lv_bipush (v := nI (8)) hx hb dL_acts_105 (by decide) ?_
          refine lv_ishr hx hb dL_acts_107 ?_
          rw [show (nI (ac)) >>> ((nI (8)) &&& 31) = nI (ac / 256) from fc_shr (k := 8) (by omega) (by decide)]
          refine lv_bipush (v := nI (50)) hx hb dL_acts_108 (by decide) ?_
          refine lv_irem hx hb dL_acts_110 (by decide) ?_
          rw [show (nI (ac / 256)) - (nI (ac / 256)) / (nI (50)) * (nI (50)) = nI ((ac / 256) % 50) from pk_rem (by omega) (by decide) (by omega)]
          refine fa_iaddN hx hb dL_acts_111 ?_
          refine lv_istore (lv' := [(6, .int (nI (1 + ((ac / 256) % 50)))), (5, .int (nI (cm))), (0, .ref (fa_B G + (0))), (1, .int (nI (ac))), (2, .int (nI (fi))), (3, .int (nI (ho))), (4, .int ((-1 : Int32)))]) hx hb dL_acts_112 hl (by decide) rfl (fun ls hl => ?_)
          refine lv_aload_n hx hb dL_acts_114 rfl (lv_at hl 2 rfl) ?_
          refine lv_iconst (v := nI (0)) hx hb dL_acts_115 (by decide) ?_
          refine fa_callVip (As := [.int (nI (0))]) (rest := []) CX HX1793 (g_count l G n hn v r hC (nI (0))) ln_L_15 (by omega) rfl rfl rfl rfl (Nat.le_of_ble_eq_true rfl) hl.1 ⟨Nat.le_of_ble_eq_true rfl, Nat.le_of_ble_eq_true rfl⟩ ⟨Nat.le_refl _, Nat.le_refl _⟩ dL_acts_116 (fun x1795 H locs h1794 HX1796 => ?_)
          have h_count := h1794
          have e_116 : x1795 = nI (A.n) := ((h_count A hV.1 hV.2.2.1).trans (fb_cntA_0 (by decide)))
          subst e_116
          refine lv_bipush (v := nI (24)) hx hb dL_acts_119 (by decide) ?_
          refine lv_icmp_ge (tgt := 145) hx hb dL_acts_121 (by decide) (fun c_121 => ?_) (fun c_121 => ?_)
          · have h24 : 24 ≤ A.n := fa_leN (by omega) (by omega) c_121
            refine lv_iconst (v := nI (0)) hx hb dL_acts_145 (by decide) ?_
            refine lv_istore (lv' := [(7, .int (nI (0))), (6, .int (nI (1 + ((ac / 256) % 50)))), (5, .int (nI (cm))), (0, .ref (fa_B G + (0))), (1, .int (nI (ac))), (2, .int (nI (fi))), (3, .int (nI (ho))), (4, .int ((-1 : Int32)))]) hx hb dL_acts_146 hl (by decide) rfl (fun ls hl => ?_)
            refine lv_aload_n hx hb dL_acts_148 rfl (lv_at hl 3 rfl) ?_
            refine lv_iload_n hx hb dL_acts_149 rfl (lv_at hl 4 rfl) ?_
            refine lv_iconst (v := nI (4)) hx hb dL_acts_150 (by decide) ?_
            refine lv_ishr hx hb dL_acts_151 ?_
            rw [show (nI (ac)) >>> ((nI (4)) &&& 31) = nI (ac / 16) from fc_shr (k := 4) (by omega) (by decide)]
            refine lv_iconst (v := nI (5)) hx hb dL_acts_152 (by decide) ?_
            refine lv_irem hx hb dL_acts_153 (by decide) ?_
            rw [show (nI (ac / 16)) - (nI (ac / 16)) / (nI (5)) * (nI (5)) = nI ((ac / 16) % 5) from pk_rem (by omega) (by decide) (by omega)]
            refine lv_iload hx hb dL_acts_154 (lv_at hl 1 rfl) ?_
            refine fa_callVi (As := [.int (nI ((ac / 16) % 5)), .int (nI (1 + ((ac / 256) % 50)))]) (rest := []) CX HX1796 (g_add5 l G n hn v r hC (nI ((ac / 16) % 5)) (nI (1 + ((ac / 256) % 50)))) ln_L_44 (by omega) rfl rfl rfl rfl (Nat.le_of_ble_eq_true rfl) hl.1 ⟨Nat.le_of_ble_eq_true rfl, Nat.le_of_ble_eq_true rfl⟩ ⟨Nat.le_refl _, Nat.le_refl _⟩ dL_acts_156 (fun x1798 v1799 r1800 H locs h1797 HX1801 => ?_)
            dsimp only at h1797
            have hC_v1799 := h1797.2.1
            have h_add5 := h1797.1
            obtain ⟨hr58_156, hac_156⟩ := h_add5
            obtain ⟨hx_156, hV_156⟩ := hac_156 _ _ hV
            rw [fc_add0 (k := (ac / 16) % 5) (p := 1 + (ac / 256) % 50) (by omega) (by omega) (by omega) (Or.inl h24)] at hx_156 hV_156
            have hV_156 : fb_CV v1799 r1800 A _ := hV_156
            have hI_156 : fb_inj r1800 57 := hi57.congr hr58_156
            have hk_156 := hk
            have e_156 : x1798 = (-4 : Int32) := hx_156
            subst e_156
            refine lv_istore (lv' := [(8, .int ((-4 : Int32))), (7, .int (nI (0))), (6, .int (nI (1 + ((ac / 256) % 50)))), (5, .int (nI (cm))), (0, .ref (fa_B G + (0))), (1, .int (nI (ac))), (2, .int (nI (fi))), (3, .int (nI (ho))), (4, .int ((-1 : Int32)))]) hx hb dL_acts_159 hl (by decide) rfl (fun ls hl => ?_)
            refine lv_iload hx hb dL_acts_161 (lv_at hl 1 rfl) ?_
            refine lv_if_eq (tgt := 219) hx hb dL_acts_163 (by decide) (fun c_163 => ?_) (fun c_163 => ?_)
            · refine lv_iload hx hb dL_acts_219 (lv_at hl 0 rfl) ?_
              refine lv_bipush (v := (-4 : Int32)) hx hb dL_acts_221 (by decide) ?_
              refine lv_icmp_ne (tgt := 230) hx hb dL_acts_223 (by decide) (fun c_223 => ?_) (fun c_223 => ?_)
              · exact absurd (by try decide) c_223
              · refine lv_iconst (v := nI (1)) hx hb dL_acts_226 (by decide) ?_
                refine lv_goto (tgt := 231) hx hb dL_acts_227 (by decide) ?_
                exact RET _ _ _ _ _ _ _ HX1801 dL_acts_231 (by decide) (⟨⟨rfl, A, _, dy, cm, bu, hV_156, hk_156.more (Nat.le_succ _), ⟨by omega, by omega, by omega, by omega⟩, hI_156⟩, hC_v1799, (fa_fr.tr fa_fr.rf (fa_fr.wide h1797.2.2.1 (by omega) (by omega))), (fun k hk => ((h1797.2.2.2 k hk).trans rfl))⟩)
            · exact absurd (by try decide) c_163
          · have h24 : A.n < 24 := fa_ltN (by omega) (by omega) c_121
            refine lv_aload_n hx hb dL_acts_124 rfl (lv_at hl 2 rfl) ?_
            refine lv_iconst (v := nI (2)) hx hb dL_acts_125 (by decide) ?_
            refine fa_callVip (As := [.int (nI (2))]) (rest := []) CX HX1796 (g_count l G n hn v r hC (nI (2))) ln_L_15 (by omega) rfl rfl rfl rfl (Nat.le_of_ble_eq_true rfl) hl.1 ⟨Nat.le_of_ble_eq_true rfl, Nat.le_of_ble_eq_true rfl⟩ ⟨Nat.le_refl _, Nat.le_refl _⟩ dL_acts_126 (fun x1803 H locs h1802 HX1804 => ?_)
            have h_count := h1802
            have e_126 : x1803 = fb_pgs A := ((h_count A hV.1 hV.2.2.1).trans (fb_cntA_2 (by decide)))
            subst e_126
            refine lv_iload hx hb dL_acts_129 (lv_at hl 0 rfl) ?_
            refine lv_iadd hx hb dL_acts_131 ?_
            refine lv_aload_n hx hb dL_acts_132 rfl (lv_at hl 2 rfl) ?_
            refine lv_bipush (v := nI (6)) hx hb dL_acts_133 (by decide) ?_
            refine fa_callVip (As := [.int (nI (6))]) (rest := [.int ((fb_pgs A) + (nI (1 + ((ac / 256) % 50))))]) CX HX1804 (g_setting l G n hn v r hC (nI (6))) ln_L_22 (by omega) rfl rfl rfl rfl (Nat.le_of_ble_eq_true rfl) hl.1 ⟨Nat.le_of_ble_eq_true rfl, Nat.le_of_ble_eq_true rfl⟩ ⟨Nat.le_refl _, Nat.le_refl _⟩ dL_acts_135 (fun x1806 H locs h1805 HX1807 => ?_)
            have h_setting := h1805
            have e_135 : x1806 = A.g 6 := ((h_setting A hV.1 hV.2.2.1).trans (fc_stg (k := 6) (by decide)))
            subst e_135
            refine lv_icmp_gt (tgt := 145) hx hb dL_acts_138 (by decide) (fun c_138 => ?_) (fun c_138 => ?_)
            · refine lv_iconst (v := nI (0)) hx hb dL_acts_145 (by decide) ?_
              refine lv_istore (lv' := [(7, .int (nI (0))), (6, .int (nI (1 + ((ac / 256) % 50)))), (5, .int (nI (cm))), (0, .ref (fa_B G + (0))), (1, .int (nI (ac))), (2, .int (nI (fi))), (3, .int (nI (ho))), (4, .int ((-1 : Int32)))]) hx hb dL_acts_146 hl (by decide) rfl (fun ls hl => ?_)
              refine lv_aload_n hx hb dL_acts_148 rfl (lv_at hl 3 rfl) ?_
              refine lv_iload_n hx hb dL_acts_149 rfl (lv_at hl 4 rfl) ?_
              refine lv_iconst (v := nI (4)) hx hb dL_acts_150 (by decide) ?_
              refine lv_ishr hx hb dL_acts_151 ?_
              rw [show (nI (ac)) >>> ((nI (4)) &&& 31) = nI (ac / 16) from fc_shr (k := 4) (by omega) (by decide)]
              refine lv_iconst (v := nI (5)) hx hb dL_acts_152 (by decide) ?_
              refine lv_irem hx hb dL_acts_153 (by decide) ?_
              rw [show (nI (ac / 16)) - (nI (ac / 16)) / (nI (5)) * (nI (5)) = nI ((ac / 16) % 5) from pk_rem (by omega) (by decide) (by omega)]
              refine lv_iload hx hb dL_acts_154 (lv_at hl 1 rfl) ?_
              refine fa_callVi (As := [.int (nI ((ac / 16) % 5)), .int (nI (1 + ((ac / 256) % 50)))]) (rest := []) CX HX1807 (g_add5 l G n hn v r hC (nI ((ac / 16) % 5)) (nI (1 + ((ac / 256) % 50)))) ln_L_44 (by omega) rfl rfl rfl rfl (Nat.le_of_ble_eq_true rfl) hl.1 ⟨Nat.le_of_ble_eq_true rfl, Nat.le_of_ble_eq_true rfl⟩ ⟨Nat.le_refl _, Nat.le_refl _⟩ dL_acts_156 (fun x1809 v1810 r1811 H locs h1808 HX1812 => ?_)
              dsimp only at h1808
              have hC_v1810 := h1808.2.1
              have h_add5 := h1808.1
              obtain ⟨hr58_156, hac_156⟩ := h_add5
              obtain ⟨hx_156, hV_156⟩ := hac_156 _ _ hV
              rw [fc_add0 (k := (ac / 16) % 5) (p := 1 + (ac / 256) % 50) (by omega) (by omega) (by omega) (Or.inr (Int32.not_le.mpr c_138))] at hx_156 hV_156
              have hV_156 : fb_CV v1810 r1811 A _ := hV_156
              have hI_156 : fb_inj r1811 57 := hi57.congr hr58_156
              have hk_156 := hk
              have e_156 : x1809 = (-4 : Int32) := hx_156
              subst e_156
              refine lv_istore (lv' := [(8, .int ((-4 : Int32))), (7, .int (nI (0))), (6, .int (nI (1 + ((ac / 256) % 50)))), (5, .int (nI (cm))), (0, .ref (fa_B G + (0))), (1, .int (nI (ac))), (2, .int (nI (fi))), (3, .int (nI (ho))), (4, .int ((-1 : Int32)))]) hx hb dL_acts_159 hl (by decide) rfl (fun ls hl => ?_)
              refine lv_iload hx hb dL_acts_161 (lv_at hl 1 rfl) ?_
              refine lv_if_eq (tgt := 219) hx hb dL_acts_163 (by decide) (fun c_163 => ?_) (fun c_163 => ?_)
              · refine lv_iload hx hb dL_acts_219 (lv_at hl 0 rfl) ?_
                refine lv_bipush (v := (-4 : Int32)) hx hb dL_acts_221 (by decide) ?_
                refine lv_icmp_ne (tgt := 230) hx hb dL_acts_223 (by decide) (fun c_223 => ?_) (fun c_223 => ?_)
                · exact absurd (by try decide) c_223
                · refine lv_iconst (v := nI (1)) hx hb dL_acts_226 (by decide) ?_
                  refine lv_goto (tgt := 231) hx hb dL_acts_227 (by decide) ?_
                  exact RET _ _ _ _ _ _ _ HX1812 dL_acts_231 (by decide) (⟨⟨rfl, A, _, dy, cm, bu, hV_156, hk_156.more (Nat.le_succ _), ⟨by omega, by omega, by omega, by omega⟩, hI_156⟩, hC_v1810, (fa_fr.tr fa_fr.rf (fa_fr.wide h1808.2.2.1 (by omega) (by omega))), (fun k hk => ((h1808.2.2.2 k hk).trans rfl))⟩)
              · exact absurd (by try decide) c_163
            · refine lv_iconst (v := nI (1)) hx hb dL_acts_141 (by decide) ?_
              refine lv_goto (tgt := 146) hx hb dL_acts_142 (by decide) ?_
              refine lv_istore (lv' := [(7, .int (nI (1))), (6, .int (nI (1 + ((ac / 256) % 50)))), (5, .int (nI (cm))), (0, .ref (fa_B G + (0))), (1, .int (nI (ac))), (2, .int (nI (fi))), (3, .int (nI (ho))), (4, .int ((-1 : Int32)))]) hx hb dL_acts_146 hl (by decide) rfl (fun ls hl => ?_)
              refine lv_aload_n hx hb dL_acts_148 rfl (lv_at hl 3 rfl) ?_
              refine lv_iload_n hx hb dL_acts_149 rfl (lv_at hl 4 rfl) ?_
              refine lv_iconst (v := nI (4)) hx hb dL_acts_150 (by decide) ?_
              refine lv_ishr hx hb dL_acts_151 ?_
              rw [show (nI (ac)) >>> ((nI (4)) &&& 31) = nI (ac / 16) from fc_shr (k := 4) (by omega) (by decide)]
              refine lv_iconst (v := nI (5)) hx hb dL_acts_152 (by decide) ?_
              refine lv_irem hx hb dL_acts_153 (by decide) ?_
              rw [show (nI (ac / 16)) - (nI (ac / 16)) / (nI (5)) * (nI (5)) = nI ((ac / 16) % 5) from pk_rem (by omega) (by decide) (by omega)]
              refine lv_iload hx hb dL_acts_154 (lv_at hl 1 rfl) ?_
              refine fa_callVi (As := [.int (nI ((ac / 16) % 5)), .int (nI (1 + ((ac / 256) % 50)))]) (rest := []) CX HX1807 (g_add5 l G n hn v r hC (nI ((ac / 16) % 5)) (nI (1 + ((ac / 256) % 50)))) ln_L_44 (by omega) rfl rfl rfl rfl (Nat.le_of_ble_eq_true rfl) hl.1 ⟨Nat.le_of_ble_eq_true rfl, Nat.le_of_ble_eq_true rfl⟩ ⟨Nat.le_refl _, Nat.le_refl _⟩ dL_acts_156 (fun x1814 v1815 r1816 H locs h1813 HX1817 => ?_)
              dsimp only at h1813
              have hC_v1815 := h1813.2.1
              have h_add5 := h1813.1
              obtain ⟨hr58_156, hac_156⟩ := h_add5
              obtain ⟨hx_156, hV_156⟩ := hac_156 _ _ hV
              rw [fc_add1 (k := (ac / 16) % 5) (p := 1 + (ac / 256) % 50) (by omega) (by omega) (by omega) hk.2.1 h24 (by omega) (Int32.not_lt.mp c_138)] at hx_156 hV_156
              have hV_156 : fb_CV v1815 r1816 (fc_addX A (nI ((ac / 16) % 5)) (nI (1 + (ac / 256) % 50))) _ := hV_156
              have hI_156 : fb_inj r1816 57 := hi57.congr hr58_156
              have hk_156 : fc_ok (fc_addX A (nI ((ac / 16) % 5)) (nI (1 + (ac / 256) % 50))) dy (cm + 1) bu (dy / 90) (kn + 1) := ((hk.new (kd := nI ((ac / 16) % 5)) (pg := nI (1 + (ac / 256) % 50)) ⟨_, by omega, by omega, rfl⟩ (by omega)).more (Nat.le_succ _))
              have e_156 : x1814 = nI (cm) := hx_156
              subst e_156
              refine lv_istore (lv' := [(8, .int (nI (cm))), (7, .int (nI (1))), (6, .int (nI (1 + ((ac / 256) % 50)))), (5, .int (nI (cm))), (0, .ref (fa_B G + (0))), (1, .int (nI (ac))), (2, .int (nI (fi))), (3, .int (nI (ho))), (4, .int ((-1 : Int32)))]) hx hb dL_acts_159 hl (by decide) rfl (fun ls hl => ?_)
              refine lv_iload hx hb dL_acts_161 (lv_at hl 1 rfl) ?_
              refine lv_if_eq (tgt := 219) hx hb dL_acts_163 (by decide) (fun c_163 => ?_) (fun c_163 => ?_)
              · exact absurd c_163 (by try decide)
              · refine lv_iload hx hb dL_acts_166 (lv_at hl 0 rfl) ?_
                refine lv_iload hx hb dL_acts_168 (lv_at hl 3 rfl) ?_
                refine lv_icmp_ne (tgt := 215) hx hb dL_acts_170 (by decide) (fun c_170 => ?_) (fun c_170 => ?_)
                · exact absurd rfl c_170
                · refine lv_aload_n hx hb dL_acts_173 rfl (lv_at hl 4 rfl) ?_
                  refine lv_iload hx hb dL_acts_174 (lv_at hl 0 rfl) ?_
                  refine lv_iconst (v := nI (1)) hx hb dL_acts_176 (by decide) ?_
                  refine fa_callVip (As := [.int (nI (cm)), .int (nI (1))]) (rest := []) CX HX1817 (g_file l G n hn v1815 r1816 hC_v1815 (nI (cm)) (nI (1))) ln_L_9 (by omega) rfl rfl rfl rfl (Nat.le_of_ble_eq_true rfl) hl.1 ⟨Nat.le_of_ble_eq_true rfl, Nat.le_of_ble_eq_true rfl⟩ ⟨Nat.le_refl _, Nat.le_refl _⟩ dL_acts_177 (fun x1819 H locs h1818 HX1820 => ?_)
                  have h_file := h1818
                  have e_177 : x1819 = nI (1 + (ac / 256) % 50) := (((h_file (fc_addX A (nI ((ac / 16) % 5)) (nI (1 + (ac / 256) % 50))) hV_156.1 hV_156.2.2.1).trans (fc_addQ hV_156.1 hk.2.1)).trans ((fb_filP_1 (by decide)).trans fc_addF))
                  subst e_177
                  refine lv_iload hx hb dL_acts_180 (lv_at hl 2 rfl) ?_
                  refine lv_icmp_ne (tgt := 215) hx hb dL_acts_182 (by decide) (fun c_182 => ?_) (fun c_182 => ?_)
                  · exact absurd rfl c_182
                  · refine lv_aload_n hx hb dL_acts_185 rfl (lv_at hl 4 rfl) ?_
                    refine lv_iload hx hb dL_acts_186 (lv_at hl 0 rfl) ?_
                    refine lv_iconst (v := nI (2)) hx hb dL_acts_188 (by decide) ?_
                    refine fa_callVip (As := [.int (nI (cm)), .int (nI (2))]) (rest := []) CX HX1820 (g_file l G n hn v1815 r1816 hC_v1815 (nI (cm)) (nI (2))) ln_L_9 (by omega) rfl rfl rfl rfl (Nat.le_of_ble_eq_true rfl) hl.1 ⟨Nat.le_of_ble_eq_true rfl, Nat.le_of_ble_eq_true rfl⟩ ⟨Nat.le_refl _, Nat.le_refl _⟩ dL_acts_189 (fun x1822 H locs h1821 HX1823 => ?_)
                    have h_file := h1821
                    have e_189 : x1822 = nI (dy) := ((((h_file (fc_addX A (nI ((ac / 16) % 5)) (nI (1 + (ac / 256) % 50))) hV_156.1 hV_156.2.2.1).trans (fc_addQ hV_156.1 hk.2.1)).trans ((fb_filP_2 (by decide)).trans fc_addF)).trans hk.1)
                    subst e_189
                    refine lv_aload_n hx hb dL_acts_192 rfl (lv_at hl 4 rfl) ?_
                    refine fa_callVip (As := []) (rest := [.int (nI (dy))]) CX HX1823 (g_now l G n hn v1815 r1816 hC_v1815 ) ln_L_31 (by omega) rfl rfl rfl rfl (Nat.le_of_ble_eq_true rfl) hl.1 ⟨Nat.le_of_ble_eq_true rfl, Nat.le_of_ble_eq_true rfl⟩ ⟨Nat.le_refl _, Nat.le_refl _⟩ dL_acts_193 (fun x1825 H locs h1824 HX1826 => ?_)
                    have h_now := h1824
                    have e_193 : x1825 = nI (dy) := ((h_now.trans hV_156.2.2.1.now).trans hk_156.1)
                    subst e_193
                    refine lv_icmp_ne (tgt := 215) hx hb dL_acts_196 (by decide) (fun c_196 => ?_) (fun c_196 => ?_)
                    · exact absurd rfl c_196
                    · refine lv_aload_n hx hb dL_acts_199 rfl (lv_at hl 4 rfl) ?_
                      refine lv_iload hx hb dL_acts_200 (lv_at hl 0 rfl) ?_
                      refine lv_iconst (v := nI (3)) hx hb dL_acts_202 (by decide) ?_
                      refine fa_callVip (As := [.int (nI (cm)), .int (nI (3))]) (rest := []) CX HX1826 (g_file l G n hn v1815 r1816 hC_v1815 (nI (cm)) (nI (3))) ln_L_9 (by omega) rfl rfl rfl rfl (Nat.le_of_ble_eq_true rfl) hl.1 ⟨Nat.le_of_ble_eq_true rfl, Nat.le_of_ble_eq_true rfl⟩ ⟨Nat.le_refl _, Nat.le_refl _⟩ dL_acts_203 (fun x1828 H locs h1827 HX1829 => ?_)
                      have h_file := h1827
                      have e_203 : x1828 = (-6 : Int32) := ((((h_file (fc_addX A (nI ((ac / 16) % 5)) (nI (1 + (ac / 256) % 50))) hV_156.1 hV_156.2.2.1).trans (fc_addQ hV_156.1 hk.2.1)).trans (fb_filP_3 (by decide))).trans (by rw [fc_addF]; rfl))
                      subst e_203
                      refine lv_bipush (v := (-6 : Int32)) hx hb dL_acts_206 (by decide) ?_
                      refine lv_icmp_ne (tgt := 215) hx hb dL_acts_208 (by decide) (fun c_208 => ?_) (fun c_208 => ?_)
                      · exact absurd (by try decide) c_208
                      · refine lv_iconst (v := nI (1)) hx hb dL_acts_211 (by decide) ?_
                        refine lv_goto (tgt := 231) hx hb dL_acts_212 (by decide) ?_
                        exact RET _ _ _ _ _ _ _ HX1829 dL_acts_231 (by decide) (⟨⟨rfl, (fc_addX A (nI ((ac / 16) % 5)) (nI (1 + (ac / 256) % 50))), _, dy, cm + 1, bu, hV_156, hk_156.more (Nat.le_refl _), ⟨by omega, by omega, by omega, by omega⟩, hI_156⟩, hC_v1815, (fa_fr.tr fa_fr.rf (fa_fr.wide h1813.2.2.1 (by omega) (by omega))), (fun k hk => ((h1813.2.2.2 k hk).trans rfl))⟩)
        have JOIN_232 : ∀  (H : Heap) (locs : List Loc) (ls : Array Slot), (True) → lv_has ls 34 [(0, .ref (fa_B G + (0))), (1, .int (nI (ac))), (2, .int (nI (fi))), (3, .int (nI (ho))), (4, .int ((-1 : Int32)))] → fa_HX G (n) v r s H locs → W p l e (fa_rm 8) s m args below meth c H locs (0) (0) Q (F0 m 232 ls []) := by
          intro  H locs ls hi_232 hl HX1830
          refine lv_aload_n hx hb dL_acts_232 rfl (lv_at hl 0 rfl) ?_
          refine lv_iload_n hx hb dL_acts_233 rfl (lv_at hl 2 rfl) ?_
          refine lv_iconst (v := nI (4)) hx hb dL_acts_234 (by decide) ?_
          refine fa_callVip (As := [.int (nI (fi)), .int (nI (4))]) (rest := []) CX HX1830 (g_file l G n hn v r hC (nI (fi)) (nI (4))) ln_L_9 (by omega) rfl rfl rfl rfl (Nat.le_of_ble_eq_true rfl) hl.1 ⟨Nat.le_of_ble_eq_true rfl, Nat.le_of_ble_eq_true rfl⟩ ⟨Nat.le_refl _, Nat.le_refl _⟩ dL_acts_235 (fun x1832 H locs h1831 HX1833 => ?_)
          have h_file := h1831
          have e_235 : x1832 = (-1 : Int32) := ((h_file A hV.1 hV.2.2.1).trans (fb_filA_n hno))
          subst e_235
          refine lv_istore (lv' := [(9, .int ((-1 : Int32))), (0, .ref (fa_B G + (0))), (1, .int (nI (ac))), (2, .int (nI (fi))), (3, .int (nI (ho))), (4, .int ((-1 : Int32)))]) hx hb dL_acts_238 hl (by decide) rfl (fun ls hl => ?_)
          refine lv_aload_n hx hb dL_acts_240 rfl (lv_at hl 1 rfl) ?_
          refine lv_bipush (v := nI (6)) hx hb dL_acts_241 (by decide) ?_
          refine fa_callVip (As := [.int (nI (6))]) (rest := []) CX HX1833 (g_count l G n hn v r hC (nI (6))) ln_L_15 (by omega) rfl rfl rfl rfl (Nat.le_of_ble_eq_true rfl) hl.1 ⟨Nat.le_of_ble_eq_true rfl, Nat.le_of_ble_eq_true rfl⟩ ⟨Nat.le_refl _, Nat.le_refl _⟩ dL_acts_243 (fun x1835 H locs h1834 HX1836 => ?_)
          have h_count := h1834
          have e_243 : x1835 = A.g 12 := ((h_count A hV.1 hV.2.2.1).trans (fb_cntA_6 (by decide)))
          subst e_243
          refine lv_istore (lv' := [(10, .int (A.g 12)), (9, .int ((-1 : Int32))), (0, .ref (fa_B G + (0))), (1, .int (nI (ac))), (2, .int (nI (fi))), (3, .int (nI (ho))), (4, .int ((-1 : Int32)))]) hx hb dL_acts_246 hl (by decide) rfl (fun ls hl => ?_)
          refine lv_aload_n hx hb dL_acts_248 rfl (lv_at hl 2 rfl) ?_
          refine lv_iconst (v := nI (5)) hx hb dL_acts_249 (by decide) ?_
          refine fa_callVip (As := [.int (nI (5))]) (rest := []) CX HX1836 (g_count l G n hn v r hC (nI (5))) ln_L_15 (by omega) rfl rfl rfl rfl (Nat.le_of_ble_eq_true rfl) hl.1 ⟨Nat.le_of_ble_eq_true rfl, Nat.le_of_ble_eq_true rfl⟩ ⟨Nat.le_refl _, Nat.le_refl _⟩ dL_acts_250 (fun x1838 H locs h1837 HX1839 => ?_)
          have h_count := h1837
          have e_250 : x1838 = A.g 11 := ((h_count A hV.1 hV.2.2.1).trans (fb_cntA_5 (by decide)))
          subst e_250
          refine lv_istore (lv' := [(11, .int (A.g 11)), (10, .int (A.g 12)), (9, .int ((-1 : Int32))), (0, .ref (fa_B G + (0))), (1, .int (nI (ac))), (2, .int (nI (fi))), (3, .int (nI (ho))), (4, .int ((-1 : Int32)))]) hx hb dL_acts_253 hl (by decide) rfl (fun ls hl => ?_)
          refine lv_aload_n hx hb dL_acts_255 rfl (lv_at hl 3 rfl) ?_
          refine lv_iload_n hx hb dL_acts_256 rfl (lv_at hl 5 rfl) ?_
          refine fa_callVi (As := [.int (nI (fi))]) (rest := []) CX HX1839 (g_ask5 l G n hn v r hC (nI (fi))) ln_L_47 (by omega) rfl rfl rfl rfl (Nat.le_of_ble_eq_true rfl) hl.1 ⟨Nat.le_of_ble_eq_true rfl, Nat.le_of_ble_eq_true rfl⟩ ⟨Nat.le_refl _, Nat.le_refl _⟩ dL_acts_257 (fun x1841 v1842 r1843 H locs h1840 HX1844 => ?_)
          dsimp only at h1840
          have hC_v1842 := h1840.2.1
          have h_ask5 := h1840.1
          obtain ⟨hr58_257, hac_257⟩ := h_ask5
          obtain ⟨hx_257, hV_257⟩ := hac_257 _ _ hV
          rw [fb_askA_n (fc_askC hk.2.1 hfi (by omega)) hno] at hx_257 hV_257
          have hV_257 : fb_CV v1842 r1843 (A.sg 12 (A.g 12 + nI 1)) _ := hV_257
          have hI_257 : fb_inj r1843 57 := hi57.congr hr58_257
          have hk_257 := hk.sgo (j := 12) (x := A.g 12 + nI 1) (by decide) (by decide)
          have e_257 : x1841 = (-6 : Int32) := hx_257
          subst e_257
          refine lv_istore (lv' := [(12, .int ((-6 : Int32))), (11, .int (A.g 11)), (10, .int (A.g 12)), (9, .int ((-1 : Int32))), (0, .ref (fa_B G + (0))), (1, .int (nI (ac))), (2, .int (nI (fi))), (3, .int (nI (ho))), (4, .int ((-1 : Int32)))]) hx hb dL_acts_260 hl (by decide) rfl (fun ls hl => ?_)
          refine lv_aload_n hx hb dL_acts_262 rfl (lv_at hl 4 rfl) ?_
          refine lv_iconst (v := nI (1)) hx hb dL_acts_263 (by decide) ?_
          refine fa_callVip (As := [.int (nI (1))]) (rest := []) CX HX1844 (g_count l G n hn v1842 r1843 hC_v1842 (nI (1))) ln_L_15 (by omega) rfl rfl rfl rfl (Nat.le_of_ble_eq_true rfl) hl.1 ⟨Nat.le_of_ble_eq_true rfl, Nat.le_of_ble_eq_true rfl⟩ ⟨Nat.le_refl _, Nat.le_refl _⟩ dL_acts_264 (fun x1846 H locs h1845 HX1847 => ?_)
          have h_count := h1845
          have e_264 : x1846 = nI (cm) := (((h_count (A.sg 12 (A.g 12 + nI 1)) hV_257.1 hV_257.2.2.1).trans (fb_cntA_1 (by decide))).trans hk_257.2.1)
          subst e_264
          refine lv_if_ne (tgt := 284) hx hb dL_acts_267 (by decide) (fun c_267 => ?_) (fun c_267 => ?_)
          · refine lv_iload hx hb dL_acts_284 (lv_at hl 8 rfl) ?_
            refine lv_if_ge (tgt := 317) hx hb dL_acts_286 (by decide) (fun c_286 => ?_) (fun c_286 => ?_)
            · exact absurd c_286 (by try decide)
            · refine lv_iload hx hb dL_acts_289 (lv_at hl 0 rfl) ?_
              refine lv_bipush (v := (-6 : Int32)) hx hb dL_acts_291 (by decide) ?_
              refine lv_icmp_ne (tgt := 313) hx hb dL_acts_293 (by decide) (fun c_293 => ?_) (fun c_293 => ?_)
              · exact absurd (by try decide) c_293
              · refine lv_aload_n hx hb dL_acts_296 rfl (lv_at hl 4 rfl) ?_
                refine lv_bipush (v := nI (6)) hx hb dL_acts_297 (by decide) ?_
                refine fa_callVip (As := [.int (nI (6))]) (rest := []) CX HX1847 (g_count l G n hn v1842 r1843 hC_v1842 (nI (6))) ln_L_15 (by omega) rfl rfl rfl rfl (Nat.le_of_ble_eq_true rfl) hl.1 ⟨Nat.le_of_ble_eq_true rfl, Nat.le_of_ble_eq_true rfl⟩ ⟨Nat.le_refl _, Nat.le_refl _⟩ dL_acts_299 (fun x1849 H locs h1848 HX1850 => ?_)
                have h_count := h1848
                have e_299 : x1849 = (A.sg 12 (A.g 12 + nI 1)).g 12 := ((h_count (A.sg 12 (A.g 12 + nI 1)) hV_257.1 hV_257.2.2.1).trans (fb_cntA_6 (by decide)))
                subst e_299
                refine lv_iload hx hb dL_acts_302 (lv_at hl 2 rfl) ?_
                refine lv_iconst (v := nI (1)) hx hb dL_acts_304 (by decide) ?_
                refine lv_iadd hx hb dL_acts_305 ?_
                refine lv_icmp_ne (tgt := 313) hx hb dL_acts_306 (by decide) (fun c_306 => ?_) (fun c_306 => ?_)
                · exact absurd (show (A.sg 12 (A.g 12 + nI 1)).g 12 = (A.g 12) + (nI (1)) from fb_s1_s A.g 12 (A.g 12 + nI 1)) c_306
                · refine lv_iconst (v := nI (1)) hx hb dL_acts_309 (by decide) ?_
                  refine lv_goto (tgt := 356) hx hb dL_acts_310 (by decide) ?_
                  exact RET _ _ _ _ _ _ _ HX1850 dL_acts_356 (by decide) (⟨⟨rfl, (A.sg 12 (A.g 12 + nI 1)), _, dy, cm, bu, hV_257, hk_257.more (Nat.le_succ _), ⟨by omega, by omega, by omega, by omega⟩, hI_257⟩, hC_v1842, (fa_fr.tr fa_fr.rf (fa_fr.wide h1840.2.2.1 (by omega) (by omega))), (fun k hk => ((h1840.2.2.2 k hk).trans rfl))⟩)
          · exact absurd (by first | exact c_267 | exact Decidable.not_not.mp c_267) (nI_ne0 (n := cm) (by omega) (by omega))
        by_cases c_42_0 : nI (ac % 12) = (0 : Int32)
        · refine lv_tableIn (off := 54) (tgt := 96) hx hb dL_acts_42 (by rw [c_42_0]; decide) (by rw [c_42_0]; decide) (by rw [c_42_0]; decide) (by decide) ?_
          exact JOIN_96   _ _ _ (trivial) (lv_sub hl [1, 2, 3, 4, 0] rfl) HX1789
        by_cases c_42_1 : nI (ac % 12) = (1 : Int32)
        · refine lv_tableIn (off := 54) (tgt := 96) hx hb dL_acts_42 (by rw [c_42_1]; decide) (by rw [c_42_1]; decide) (by rw [c_42_1]; decide) (by decide) ?_
          exact JOIN_96   _ _ _ (trivial) (lv_sub hl [1, 2, 3, 4, 0] rfl) HX1789
        by_cases c_42_2 : nI (ac % 12) = (2 : Int32)
        · refine lv_tableIn (off := 54) (tgt := 96) hx hb dL_acts_42 (by rw [c_42_2]; decide) (by rw [c_42_2]; decide) (by rw [c_42_2]; decide) (by decide) ?_
          exact JOIN_96   _ _ _ (trivial) (lv_sub hl [1, 2, 3, 4, 0] rfl) HX1789
        by_cases c_42_3 : nI (ac % 12) = (3 : Int32)
        · refine lv_tableIn (off := 190) (tgt := 232) hx hb dL_acts_42 (by rw [c_42_3]; decide) (by rw [c_42_3]; decide) (by rw [c_42_3]; decide) (by decide) ?_
          exact JOIN_232   _ _ _ (trivial) (lv_sub hl [1, 2, 3, 4, 0] rfl) HX1789
        by_cases c_42_4 : nI (ac % 12) = (4 : Int32)
        · refine lv_tableIn (off := 190) (tgt := 232) hx hb dL_acts_42 (by rw [c_42_4]; decide) (by rw [c_42_4]; decide) (by rw [c_42_4]; decide) (by decide) ?_
          exact JOIN_232   _ _ _ (trivial) (lv_sub hl [1, 2, 3, 4, 0] rfl) HX1789
        by_cases c_42_5 : nI (ac % 12) = (5 : Int32)
        · refine lv_tableIn (off := 315) (tgt := 357) hx hb dL_acts_42 (by rw [c_42_5]; decide) (by rw [c_42_5]; decide) (by rw [c_42_5]; decide) (by decide) ?_
          refine lv_iload_n hx hb dL_acts_357 rfl (lv_at hl 2 rfl) ?_
          refine lv_bipush (v := nI (12)) hx hb dL_acts_358 (by decide) ?_
          refine lv_ishr hx hb dL_acts_360 ?_
          rw [show (nI (ac)) >>> ((nI (12)) &&& 31) = nI (ac / 4096) from fc_shr (k := 12) (by omega) (by decide)]
          refine lv_iconst (v := nI (3)) hx hb dL_acts_361 (by decide) ?_
          refine lv_irem hx hb dL_acts_362 (by decide) ?_
          rw [show (nI (ac / 4096)) - (nI (ac / 4096)) / (nI (3)) * (nI (3)) = nI ((ac / 4096) % 3) from pk_rem (by omega) (by decide) (by omega)]
          have JOIN_385 : ∀ (la : Int32) (yy : Int32) (le : Nat) (H : Heap) (locs : List Loc) (ls : Array Slot), (fc_la dy la yy le) → lv_has ls 34 [(0, .ref (fa_B G + (0))), (1, .int (nI (ac))), (2, .int (nI (fi))), (3, .int (nI (ho))), (4, .int ((-1 : Int32))), (13, .int (la))] → fa_HX G (n) v r s H locs → W p l e (fa_rm 8) s m args below meth c H locs (0) (0) Q (F0 m 385 ls []) := by
            intro la yy le H locs ls hi_385 hl HX1851
            refine lv_aload_n hx hb dL_acts_385 rfl (lv_at hl 0 rfl) ?_
            refine lv_iload_n hx hb dL_acts_386 rfl (lv_at hl 3 rfl) ?_
            refine lv_iload_n hx hb dL_acts_387 rfl (lv_at hl 2 rfl) ?_
            refine lv_iload hx hb dL_acts_388 (lv_at hl 5 rfl) ?_
            refine fa_callVi (As := [.int (nI (ho)), .int (nI (fi)), .int (la)]) (rest := []) CX HX1851 (g_seal5 l G n hn v r hC (nI (ho)) (nI (fi)) (la)) ln_L_50 (by omega) rfl rfl rfl rfl (Nat.le_of_ble_eq_true rfl) hl.1 ⟨Nat.le_of_ble_eq_true rfl, Nat.le_of_ble_eq_true rfl⟩ ⟨Nat.le_refl _, Nat.le_refl _⟩ dL_acts_390 (fun x1853 v1854 r1855 H locs h1852 HX1856 => ?_)
            dsimp only at h1852
            have hC_v1854 := h1852.2.1
            have h_seal5 := h1852.1
            obtain ⟨hr58_390, hac_390⟩ := h_seal5
            obtain ⟨hx_390, hV_390⟩ := hac_390 _ _ hV
            rw [fb_sealA_n hno] at hx_390 hV_390
            have hV_390 : fb_CV v1854 r1855 A _ := hV_390
            have hI_390 : fb_inj r1855 57 := hi57.congr hr58_390
            have hk_390 := hk
            have e_390 : x1853 = (-1 : Int32) := hx_390
            subst e_390
            refine lv_istore (lv' := [(14, .int ((-1 : Int32))), (0, .ref (fa_B G + (0))), (1, .int (nI (ac))), (2, .int (nI (fi))), (3, .int (nI (ho))), (4, .int ((-1 : Int32))), (13, .int (la))]) hx hb dL_acts_393 hl (by decide) rfl (fun ls hl => ?_)
            refine lv_iload hx hb dL_acts_395 (lv_at hl 5 rfl) ?_
            refine lv_if_ge (tgt := 414) hx hb dL_acts_397 (by decide) (fun c_397 => ?_) (fun c_397 => ?_)
            · exact absurd c_397 (by try decide)
            · refine lv_iload hx hb dL_acts_400 (lv_at hl 0 rfl) ?_
              refine lv_iconst (v := (-1 : Int32)) hx hb dL_acts_402 (by decide) ?_
              refine lv_icmp_ne (tgt := 410) hx hb dL_acts_403 (by decide) (fun c_403 => ?_) (fun c_403 => ?_)
              · exact absurd (by try decide) c_403
              · refine lv_iconst (v := nI (1)) hx hb dL_acts_406 (by decide) ?_
                refine lv_goto (tgt := 469) hx hb dL_acts_407 (by decide) ?_
                exact RET _ _ _ _ _ _ _ HX1856 dL_acts_469 (by decide) (⟨⟨rfl, A, _, dy, cm, bu, hV_390, hk_390.more (Nat.le_succ _), ⟨by omega, by omega, by omega, by omega⟩, hI_390⟩, hC_v1854, (fa_fr.tr fa_fr.rf (fa_fr.wide h1852.2.2.1 (by omega) (by omega))), (fun k hk => ((h1852.2.2.2 k hk).trans rfl))⟩)
          refine lv_if_ne (tgt := 370) hx hb dL_acts_363 (by decide) (fun c_363 => ?_) (fun c_363 => ?_)
          · refine lv_aload_n hx hb dL_acts_370 rfl (lv_at hl 1 rfl) ?_
            refine fa_callVip (As := []) (rest := []) CX HX1789 (g_now l G n hn v r hC ) ln_L_31 (by omega) rfl rfl rfl rfl (Nat.le_of_ble_eq_true rfl) hl.1 ⟨Nat.le_of_ble_eq_true rfl, Nat.le_of_ble_eq_true rfl⟩ ⟨Nat.le_refl _, Nat.le_refl _⟩ dL_acts_371 (fun x1858 H locs h1857 HX1859 => ?_)
            have h_now := h1857
            have e_371 : x1858 = nI (dy) := ((h_now.trans hV.2.2.1.now).trans hk.1)
            subst e_371
            refine lv_iload_n hx hb dL_acts_374 rfl (lv_at hl 2 rfl) ?_
            refine lv_bipush (v := nI (12)) hx hb dL_acts_375 (by decide) ?_
            refine lv_ishr hx hb dL_acts_377 ?_
            rw [show (nI (ac)) >>> ((nI (12)) &&& 31) = nI (ac / 4096) from fc_shr (k := 12) (by omega) (by decide)]
            refine lv_sipush (v := nI (300)) hx hb dL_acts_378 (by decide) ?_
            refine lv_irem hx hb dL_acts_381 (by decide) ?_
            rw [show (nI (ac / 4096)) - (nI (ac / 4096)) / (nI (300)) * (nI (300)) = nI ((ac / 4096) % 300) from pk_rem (by omega) (by decide) (by omega)]
            refine fa_iaddN hx hb dL_acts_382 ?_
            refine lv_istore (lv' := [(13, .int (nI (dy + ((ac / 4096) % 300)))), (4, .int ((-1 : Int32))), (0, .ref (fa_B G + (0))), (1, .int (nI (ac))), (2, .int (nI (fi))), (3, .int (nI (ho)))]) hx hb dL_acts_383 hl (by decide) rfl (fun ls hl => ?_)
            exact JOIN_385 (nI (dy + ((ac / 4096) % 300))) (nI (dy + ((ac / 4096) % 300) + 1)) (dy + ((ac / 4096) % 300))  _ _ _ (⟨rfl, Or.inr ⟨rfl, by omega, by omega⟩⟩) (lv_sub hl [2, 3, 4, 5, 1, 0] rfl) HX1859
          · refine lv_iconst (v := (-1 : Int32)) hx hb dL_acts_366 (by decide) ?_
            refine lv_goto (tgt := 383) hx hb dL_acts_367 (by decide) ?_
            refine lv_istore (lv' := [(13, .int ((-1 : Int32))), (4, .int ((-1 : Int32))), (0, .ref (fa_B G + (0))), (1, .int (nI (ac))), (2, .int (nI (fi))), (3, .int (nI (ho)))]) hx hb dL_acts_383 hl (by decide) rfl (fun ls hl => ?_)
            exact JOIN_385 ((-1 : Int32)) (nI 10001) (10000)  _ _ _ (⟨rfl, Or.inl ⟨rfl, rfl⟩⟩) (lv_sub hl [2, 3, 4, 5, 1, 0] rfl) HX1789
        by_cases c_42_6 : nI (ac % 12) = (6 : Int32)
        · refine lv_tableIn (off := 428) (tgt := 470) hx hb dL_acts_42 (by rw [c_42_6]; decide) (by rw [c_42_6]; decide) (by rw [c_42_6]; decide) (by decide) ?_
          refine lv_aload_n hx hb dL_acts_470 rfl (lv_at hl 1 rfl) ?_
          refine lv_iload_n hx hb dL_acts_471 rfl (lv_at hl 4 rfl) ?_
          refine lv_iload_n hx hb dL_acts_472 rfl (lv_at hl 3 rfl) ?_
          refine fa_callVip (As := [.int (nI (ho)), .int (nI (fi))]) (rest := []) CX HX1789 (g_sealOf l G n hn v r hC (nI (ho)) (nI (fi))) ln_L_28 (by omega) rfl rfl rfl rfl (Nat.le_of_ble_eq_true rfl) hl.1 ⟨Nat.le_of_ble_eq_true rfl, Nat.le_of_ble_eq_true rfl⟩ ⟨Nat.le_refl _, Nat.le_refl _⟩ dL_acts_473 (fun x1861 H locs h1860 HX1862 => ?_)
          have h_sealOf := h1860
          have e_473 : x1861 = (-1 : Int32) := ((h_sealOf A hV.1 hV.2.2.1).trans (fb_sloA_n hno))
          subst e_473
          refine lv_istore (lv' := [(15, .int ((-1 : Int32))), (4, .int ((-1 : Int32))), (0, .ref (fa_B G + (0))), (1, .int (nI (ac))), (2, .int (nI (fi))), (3, .int (nI (ho)))]) hx hb dL_acts_476 hl (by decide) rfl (fun ls hl => ?_)
          refine lv_aload_n hx hb dL_acts_478 rfl (lv_at hl 2 rfl) ?_
          refine lv_iload_n hx hb dL_acts_479 rfl (lv_at hl 5 rfl) ?_
          refine lv_iload_n hx hb dL_acts_480 rfl (lv_at hl 4 rfl) ?_
          refine fa_callVi (As := [.int (nI (ho)), .int (nI (fi))]) (rest := []) CX HX1862 (g_lift5 l G n hn v r hC (nI (ho)) (nI (fi))) ln_L_54 (by omega) rfl rfl rfl rfl (Nat.le_of_ble_eq_true rfl) hl.1 ⟨Nat.le_of_ble_eq_true rfl, Nat.le_of_ble_eq_true rfl⟩ ⟨Nat.le_refl _, Nat.le_refl _⟩ dL_acts_481 (fun x1864 v1865 r1866 H locs h1863 HX1867 => ?_)
          dsimp only at h1863
          have hC_v1865 := h1863.2.1
          have h_lift5 := h1863.1
          obtain ⟨hr58_481, hac_481⟩ := h_lift5
          obtain ⟨hx_481, hV_481⟩ := hac_481 _ _ hV
          rw [fb_liftA_n hno] at hx_481 hV_481
          have hV_481 : fb_CV v1865 r1866 A _ := hV_481
          have hI_481 : fb_inj r1866 57 := hi57.congr hr58_481
          have hk_481 := hk
          have e_481 : x1864 = (-1 : Int32) := hx_481
          subst e_481
          refine lv_istore (lv' := [(16, .int ((-1 : Int32))), (15, .int ((-1 : Int32))), (4, .int ((-1 : Int32))), (0, .ref (fa_B G + (0))), (1, .int (nI (ac))), (2, .int (nI (fi))), (3, .int (nI (ho)))]) hx hb dL_acts_484 hl (by decide) rfl (fun ls hl => ?_)
          refine lv_iload hx hb dL_acts_486 (lv_at hl 1 rfl) ?_
          refine lv_if_ge (tgt := 505) hx hb dL_acts_488 (by decide) (fun c_488 => ?_) (fun c_488 => ?_)
          · exact absurd c_488 (by try decide)
          · refine lv_iload hx hb dL_acts_491 (lv_at hl 0 rfl) ?_
            refine lv_iconst (v := (-1 : Int32)) hx hb dL_acts_493 (by decide) ?_
            refine lv_icmp_ne (tgt := 501) hx hb dL_acts_494 (by decide) (fun c_494 => ?_) (fun c_494 => ?_)
            · exact absurd (by try decide) c_494
            · refine lv_iconst (v := nI (1)) hx hb dL_acts_497 (by decide) ?_
              refine lv_goto (tgt := 526) hx hb dL_acts_498 (by decide) ?_
              exact RET _ _ _ _ _ _ _ HX1867 dL_acts_526 (by decide) (⟨⟨rfl, A, _, dy, cm, bu, hV_481, hk_481.more (Nat.le_succ _), ⟨by omega, by omega, by omega, by omega⟩, hI_481⟩, hC_v1865, (fa_fr.tr fa_fr.rf (fa_fr.wide h1863.2.2.1 (by omega) (by omega))), (fun k hk => ((h1863.2.2.2 k hk).trans rfl))⟩)
        by_cases c_42_7 : nI (ac % 12) = (7 : Int32)
        · refine lv_tableIn (off := 485) (tgt := 527) hx hb dL_acts_42 (by rw [c_42_7]; decide) (by rw [c_42_7]; decide) (by rw [c_42_7]; decide) (by decide) ?_
          refine lv_aload_n hx hb dL_acts_527 rfl (lv_at hl 1 rfl) ?_
          refine lv_iconst (v := nI (1)) hx hb dL_acts_528 (by decide) ?_
          refine fa_callVip (As := [.int (nI (1))]) (rest := []) CX HX1789 (g_count l G n hn v r hC (nI (1))) ln_L_15 (by omega) rfl rfl rfl rfl (Nat.le_of_ble_eq_true rfl) hl.1 ⟨Nat.le_of_ble_eq_true rfl, Nat.le_of_ble_eq_true rfl⟩ ⟨Nat.le_refl _, Nat.le_refl _⟩ dL_acts_529 (fun x1869 H locs h1868 HX1870 => ?_)
          have h_count := h1868
          have e_529 : x1869 = nI (cm) := (((h_count A hV.1 hV.2.2.1).trans (fb_cntA_1 (by decide))).trans hk.2.1)
          subst e_529
          have JOIN_551 : ∀ (ta : Nat) (H : Heap) (locs : List Loc) (ls : Array Slot), (ta < cm ∨ (cm = 0 ∧ ta = 0)) → lv_has ls 34 [(0, .ref (fa_B G + (0))), (1, .int (nI (ac))), (2, .int (nI (fi))), (3, .int (nI (ho))), (4, .int ((-1 : Int32))), (17, .int (nI (ta)))] → fa_HX G (n) v r s H locs → W p l e (fa_rm 8) s m args below meth c H locs (0) (0) Q (F0 m 551 ls []) := by
            intro ta H locs ls hi_551 hl HX1871
            rcases fc_split (A := A) (nI ta) with hnt | ⟨tp, htp, etp⟩
            · have hnt2 := hnt
              refine lv_iload hx hb dL_acts_551 (lv_at hl 4 rfl) ?_
              refine lv_if_lt (tgt := 570) hx hb dL_acts_553 (by decide) (fun c_553 => ?_) (fun c_553 => ?_)
              · refine lv_iconst (v := nI (0)) hx hb dL_acts_570 (by decide) ?_
                refine lv_istore (lv' := [(18, .int (nI (0))), (0, .ref (fa_B G + (0))), (1, .int (nI (ac))), (2, .int (nI (fi))), (3, .int (nI (ho))), (4, .int ((-1 : Int32))), (17, .int (nI (ta)))]) hx hb dL_acts_571 hl (by decide) rfl (fun ls hl => ?_)
                refine lv_aload_n hx hb dL_acts_573 rfl (lv_at hl 1 rfl) ?_
                refine lv_iload_n hx hb dL_acts_574 rfl (lv_at hl 3 rfl) ?_
                refine lv_iload hx hb dL_acts_575 (lv_at hl 6 rfl) ?_
                refine fa_callVi (As := [.int (nI (fi)), .int (nI (ta))]) (rest := []) CX HX1871 (g_refer5 l G n hn v r hC (nI (fi)) (nI (ta))) ln_L_57 (by omega) rfl rfl rfl rfl (Nat.le_of_ble_eq_true rfl) hl.1 ⟨Nat.le_of_ble_eq_true rfl, Nat.le_of_ble_eq_true rfl⟩ ⟨Nat.le_refl _, Nat.le_refl _⟩ dL_acts_577 (fun x1873 v1874 r1875 H locs h1872 HX1876 => ?_)
                dsimp only at h1872
                have hC_v1874 := h1872.2.1
                have h_refer5 := h1872.1
                obtain ⟨hr58_577, hac_577⟩ := h_refer5
                obtain ⟨hx_577, hV_577⟩ := hac_577 _ _ hV
                rw [fb_refA_n hno] at hx_577 hV_577
                have hV_577 : fb_CV v1874 r1875 A _ := hV_577
                have hI_577 : fb_inj r1875 57 := hi57.congr hr58_577
                have hk_577 := hk
                have e_577 : x1873 = (-1 : Int32) := hx_577
                subst e_577
                refine lv_istore (lv' := [(19, .int ((-1 : Int32))), (18, .int (nI (0))), (0, .ref (fa_B G + (0))), (1, .int (nI (ac))), (2, .int (nI (fi))), (3, .int (nI (ho))), (4, .int ((-1 : Int32))), (17, .int (nI (ta)))]) hx hb dL_acts_580 hl (by decide) rfl (fun ls hl => ?_)
                refine lv_iload hx hb dL_acts_582 (lv_at hl 1 rfl) ?_
                refine lv_if_eq (tgt := 619) hx hb dL_acts_584 (by decide) (fun c_584 => ?_) (fun c_584 => ?_)
                · refine lv_iload hx hb dL_acts_619 (lv_at hl 0 rfl) ?_
                  refine lv_iconst (v := (-1 : Int32)) hx hb dL_acts_621 (by decide) ?_
                  refine lv_icmp_ne (tgt := 629) hx hb dL_acts_622 (by decide) (fun c_622 => ?_) (fun c_622 => ?_)
                  · exact absurd (by try decide) c_622
                  · refine lv_iconst (v := nI (1)) hx hb dL_acts_625 (by decide) ?_
                    refine lv_goto (tgt := 630) hx hb dL_acts_626 (by decide) ?_
                    exact RET _ _ _ _ _ _ _ HX1876 dL_acts_630 (by decide) (⟨⟨rfl, A, _, dy, cm, bu, hV_577, hk_577.more (Nat.le_succ _), ⟨by omega, by omega, by omega, by omega⟩, hI_577⟩, hC_v1874, (fa_fr.tr fa_fr.rf (fa_fr.wide h1872.2.2.1 (by omega) (by omega))), (fun k hk => ((h1872.2.2.2 k hk).trans rfl))⟩)
                · exact absurd (by try decide) c_584
              · exact absurd (by try decide) c_553
            · have eti := fc_ixE hok htp etp
              obtain ⟨kt, hkt, ekt⟩ := (hok.1.2.2.2.2.2 tp htp).1
              refine lv_iload hx hb dL_acts_551 (lv_at hl 4 rfl) ?_
              refine lv_if_lt (tgt := 570) hx hb dL_acts_553 (by decide) (fun c_553 => ?_) (fun c_553 => ?_)
              · refine lv_iconst (v := nI (0)) hx hb dL_acts_570 (by decide) ?_
                refine lv_istore (lv' := [(18, .int (nI (0))), (0, .ref (fa_B G + (0))), (1, .int (nI (ac))), (2, .int (nI (fi))), (3, .int (nI (ho))), (4, .int ((-1 : Int32))), (17, .int (nI (ta)))]) hx hb dL_acts_571 hl (by decide) rfl (fun ls hl => ?_)
                refine lv_aload_n hx hb dL_acts_573 rfl (lv_at hl 1 rfl) ?_
                refine lv_iload_n hx hb dL_acts_574 rfl (lv_at hl 3 rfl) ?_
                refine lv_iload hx hb dL_acts_575 (lv_at hl 6 rfl) ?_
                refine fa_callVi (As := [.int (nI (fi)), .int (nI (ta))]) (rest := []) CX HX1871 (g_refer5 l G n hn v r hC (nI (fi)) (nI (ta))) ln_L_57 (by omega) rfl rfl rfl rfl (Nat.le_of_ble_eq_true rfl) hl.1 ⟨Nat.le_of_ble_eq_true rfl, Nat.le_of_ble_eq_true rfl⟩ ⟨Nat.le_refl _, Nat.le_refl _⟩ dL_acts_577 (fun x1878 v1879 r1880 H locs h1877 HX1881 => ?_)
                dsimp only at h1877
                have hC_v1879 := h1877.2.1
                have h_refer5 := h1877.1
                obtain ⟨hr58_577, hac_577⟩ := h_refer5
                obtain ⟨hx_577, hV_577⟩ := hac_577 _ _ hV
                rw [fb_refA_n hno] at hx_577 hV_577
                have hV_577 : fb_CV v1879 r1880 A _ := hV_577
                have hI_577 : fb_inj r1880 57 := hi57.congr hr58_577
                have hk_577 := hk
                have e_577 : x1878 = (-1 : Int32) := hx_577
                subst e_577
                refine lv_istore (lv' := [(19, .int ((-1 : Int32))), (18, .int (nI (0))), (0, .ref (fa_B G + (0))), (1, .int (nI (ac))), (2, .int (nI (fi))), (3, .int (nI (ho))), (4, .int ((-1 : Int32))), (17, .int (nI (ta)))]) hx hb dL_acts_580 hl (by decide) rfl (fun ls hl => ?_)
                refine lv_iload hx hb dL_acts_582 (lv_at hl 1 rfl) ?_
                refine lv_if_eq (tgt := 619) hx hb dL_acts_584 (by decide) (fun c_584 => ?_) (fun c_584 => ?_)
                · refine lv_iload hx hb dL_acts_619 (lv_at hl 0 rfl) ?_
                  refine lv_iconst (v := (-1 : Int32)) hx hb dL_acts_621 (by decide) ?_
                  refine lv_icmp_ne (tgt := 629) hx hb dL_acts_622 (by decide) (fun c_622 => ?_) (fun c_622 => ?_)
                  · exact absurd (by try decide) c_622
                  · refine lv_iconst (v := nI (1)) hx hb dL_acts_625 (by decide) ?_
                    refine lv_goto (tgt := 630) hx hb dL_acts_626 (by decide) ?_
                    exact RET _ _ _ _ _ _ _ HX1881 dL_acts_630 (by decide) (⟨⟨rfl, A, _, dy, cm, bu, hV_577, hk_577.more (Nat.le_succ _), ⟨by omega, by omega, by omega, by omega⟩, hI_577⟩, hC_v1879, (fa_fr.tr fa_fr.rf (fa_fr.wide h1877.2.2.1 (by omega) (by omega))), (fun k hk => ((h1877.2.2.2 k hk).trans rfl))⟩)
                · exact absurd (by try decide) c_584
              · exact absurd (by try decide) c_553
          refine lv_if_ne (tgt := 539) hx hb dL_acts_532 (by decide) (fun c_532 => ?_) (fun c_532 => ?_)
          · have hcm1 : 0 < cm := by
              refine Nat.pos_of_ne_zero (fun z => c_532 ?_)
              rw [z]; decide
            refine lv_iload_n hx hb dL_acts_539 rfl (lv_at hl 2 rfl) ?_
            refine lv_bipush (v := nI (12)) hx hb dL_acts_540 (by decide) ?_
            refine lv_ishr hx hb dL_acts_542 ?_
            rw [show (nI (ac)) >>> ((nI (12)) &&& 31) = nI (ac / 4096) from fc_shr (k := 12) (by omega) (by decide)]
            refine lv_aload_n hx hb dL_acts_543 rfl (lv_at hl 1 rfl) ?_
            refine lv_iconst (v := nI (1)) hx hb dL_acts_544 (by decide) ?_
            refine fa_callVip (As := [.int (nI (1))]) (rest := [.int (nI (ac / 4096))]) CX HX1870 (g_count l G n hn v r hC (nI (1))) ln_L_15 (by omega) rfl rfl rfl rfl (Nat.le_of_ble_eq_true rfl) hl.1 ⟨Nat.le_of_ble_eq_true rfl, Nat.le_of_ble_eq_true rfl⟩ ⟨Nat.le_refl _, Nat.le_refl _⟩ dL_acts_545 (fun x1883 H locs h1882 HX1884 => ?_)
            have h_count := h1882
            have e_545 : x1883 = nI (cm) := (((h_count A hV.1 hV.2.2.1).trans (fb_cntA_1 (by decide))).trans hk.2.1)
            subst e_545
            refine lv_irem hx hb dL_acts_548 (nI_ne0 hcm1 (by omega)) ?_
            rw [show (nI (ac / 4096)) - (nI (ac / 4096)) / (nI (cm)) * (nI (cm)) = nI ((ac / 4096) % cm) from pk_rem (by omega) hcm1 (by omega)]
            refine lv_istore (lv' := [(17, .int (nI ((ac / 4096) % cm))), (4, .int ((-1 : Int32))), (0, .ref (fa_B G + (0))), (1, .int (nI (ac))), (2, .int (nI (fi))), (3, .int (nI (ho)))]) hx hb dL_acts_549 hl (by decide) rfl (fun ls hl => ?_)
            exact JOIN_551 ((ac / 4096) % cm)  _ _ _ (Or.inl (Nat.mod_lt _ hcm1)) (lv_sub hl [2, 3, 4, 5, 1, 0] rfl) HX1884
          · have hcm1 : cm = 0 := fa_nIinj (by omega) (by decide) (by first | exact c_532 | exact Decidable.not_not.mp c_532)
            refine lv_iconst (v := nI (0)) hx hb dL_acts_535 (by decide) ?_
            refine lv_goto (tgt := 549) hx hb dL_acts_536 (by decide) ?_
            refine lv_istore (lv' := [(17, .int (nI (0))), (4, .int ((-1 : Int32))), (0, .ref (fa_B G + (0))), (1, .int (nI (ac))), (2, .int (nI (fi))), (3, .int (nI (ho)))]) hx hb dL_acts_549 hl (by decide) rfl (fun ls hl => ?_)
            exact JOIN_551 (0)  _ _ _ (Or.inr ⟨hcm1, rfl⟩) (lv_sub hl [2, 3, 4, 5, 1, 0] rfl) HX1870
        by_cases c_42_8 : nI (ac % 12) = (8 : Int32)
        · refine lv_tableIn (off := 589) (tgt := 631) hx hb dL_acts_42 (by rw [c_42_8]; decide) (by rw [c_42_8]; decide) (by rw [c_42_8]; decide) (by decide) ?_
          refine lv_aload_n hx hb dL_acts_631 rfl (lv_at hl 1 rfl) ?_
          refine fa_callVip (As := []) (rest := []) CX HX1789 (g_now l G n hn v r hC ) ln_L_31 (by omega) rfl rfl rfl rfl (Nat.le_of_ble_eq_true rfl) hl.1 ⟨Nat.le_of_ble_eq_true rfl, Nat.le_of_ble_eq_true rfl⟩ ⟨Nat.le_refl _, Nat.le_refl _⟩ dL_acts_632 (fun x1886 H locs h1885 HX1887 => ?_)
          have h_now := h1885
          have e_632 : x1886 = nI (dy) := ((h_now.trans hV.2.2.1.now).trans hk.1)
          subst e_632
          refine lv_iconst (v := nI (1)) hx hb dL_acts_635 (by decide) ?_
          refine fa_iaddN hx hb dL_acts_636 ?_
          refine lv_iload_n hx hb dL_acts_637 rfl (lv_at hl 2 rfl) ?_
          refine lv_bipush (v := nI (9)) hx hb dL_acts_638 (by decide) ?_
          refine lv_ishr hx hb dL_acts_640 ?_
          rw [show (nI (ac)) >>> ((nI (9)) &&& 31) = nI (ac / 512) from fc_shr (k := 9) (by omega) (by decide)]
          refine lv_sipush (v := nI (200)) hx hb dL_acts_641 (by decide) ?_
          refine lv_irem hx hb dL_acts_644 (by decide) ?_
          rw [show (nI (ac / 512)) - (nI (ac / 512)) / (nI (200)) * (nI (200)) = nI ((ac / 512) % 200) from pk_rem (by omega) (by decide) (by omega)]
          refine fa_iaddN hx hb dL_acts_645 ?_
          refine lv_istore (lv' := [(20, .int (nI (dy + 1 + ((ac / 512) % 200)))), (4, .int ((-1 : Int32))), (0, .ref (fa_B G + (0))), (1, .int (nI (ac))), (2, .int (nI (fi))), (3, .int (nI (ho)))]) hx hb dL_acts_646 hl (by decide) rfl (fun ls hl => ?_)
          refine lv_aload_n hx hb dL_acts_648 rfl (lv_at hl 2 rfl) ?_
          refine lv_bipush (v := nI (8)) hx hb dL_acts_649 (by decide) ?_
          refine fa_callVip (As := [.int (nI (8))]) (rest := []) CX HX1887 (g_count l G n hn v r hC (nI (8))) ln_L_15 (by omega) rfl rfl rfl rfl (Nat.le_of_ble_eq_true rfl) hl.1 ⟨Nat.le_of_ble_eq_true rfl, Nat.le_of_ble_eq_true rfl⟩ ⟨Nat.le_refl _, Nat.le_refl _⟩ dL_acts_651 (fun x1889 H locs h1888 HX1890 => ?_)
          have h_count := h1888
          have e_651 : x1889 = nI (A.q.length) := ((h_count A hV.1 hV.2.2.1).trans (fb_cntA_8 (by decide)))
          subst e_651
          refine lv_istore (lv' := [(21, .int (nI (A.q.length))), (20, .int (nI (dy + 1 + ((ac / 512) % 200)))), (4, .int ((-1 : Int32))), (0, .ref (fa_B G + (0))), (1, .int (nI (ac))), (2, .int (nI (fi))), (3, .int (nI (ho)))]) hx hb dL_acts_654 hl (by decide) rfl (fun ls hl => ?_)
          refine lv_aload_n hx hb dL_acts_656 rfl (lv_at hl 3 rfl) ?_
          refine lv_iload_n hx hb dL_acts_657 rfl (lv_at hl 5 rfl) ?_
          refine lv_iload hx hb dL_acts_658 (lv_at hl 1 rfl) ?_
          refine fa_callVi (As := [.int (nI (fi)), .int (nI (dy + 1 + ((ac / 512) % 200)))]) (rest := []) CX HX1890 (g_reserve5 l G n hn v r hC (nI (fi)) (nI (dy + 1 + ((ac / 512) % 200)))) ln_L_60 (by omega) rfl rfl rfl rfl (Nat.le_of_ble_eq_true rfl) hl.1 ⟨Nat.le_of_ble_eq_true rfl, Nat.le_of_ble_eq_true rfl⟩ ⟨Nat.le_refl _, Nat.le_refl _⟩ dL_acts_660 (fun x1892 v1893 r1894 H locs h1891 HX1895 => ?_)
          dsimp only at h1891
          have hC_v1893 := h1891.2.1
          have h_reserve5 := h1891.1
          obtain ⟨hr58_660, hac_660⟩ := h_reserve5
          obtain ⟨hx_660, hV_660⟩ := hac_660 _ _ hV
          rw [fb_resA_n hno] at hx_660 hV_660
          have hV_660 : fb_CV v1893 r1894 A _ := hV_660
          have hI_660 : fb_inj r1894 57 := hi57.congr hr58_660
          have hk_660 := hk
          have e_660 : x1892 = (-1 : Int32) := hx_660
          subst e_660
          refine lv_istore (lv' := [(22, .int ((-1 : Int32))), (21, .int (nI (A.q.length))), (20, .int (nI (dy + 1 + ((ac / 512) % 200)))), (4, .int ((-1 : Int32))), (0, .ref (fa_B G + (0))), (1, .int (nI (ac))), (2, .int (nI (fi))), (3, .int (nI (ho)))]) hx hb dL_acts_663 hl (by decide) rfl (fun ls hl => ?_)
          refine lv_iload hx hb dL_acts_665 (lv_at hl 3 rfl) ?_
          refine lv_if_ge (tgt := 684) hx hb dL_acts_667 (by decide) (fun c_667 => ?_) (fun c_667 => ?_)
          · exact absurd c_667 (by try decide)
          · refine lv_iload hx hb dL_acts_670 (lv_at hl 0 rfl) ?_
            refine lv_iconst (v := (-1 : Int32)) hx hb dL_acts_672 (by decide) ?_
            refine lv_icmp_ne (tgt := 680) hx hb dL_acts_673 (by decide) (fun c_673 => ?_) (fun c_673 => ?_)
            · exact absurd (by try decide) c_673
            · refine lv_iconst (v := nI (1)) hx hb dL_acts_676 (by decide) ?_
              refine lv_goto (tgt := 754) hx hb dL_acts_677 (by decide) ?_
              exact RET _ _ _ _ _ _ _ HX1895 dL_acts_754 (by decide) (⟨⟨rfl, A, _, dy, cm, bu, hV_660, hk_660.more (Nat.le_succ _), ⟨by omega, by omega, by omega, by omega⟩, hI_660⟩, hC_v1893, (fa_fr.tr fa_fr.rf (fa_fr.wide h1891.2.2.1 (by omega) (by omega))), (fun k hk => ((h1891.2.2.2 k hk).trans rfl))⟩)
        by_cases c_42_9 : nI (ac % 12) = (9 : Int32)
        · refine lv_tableIn (off := 713) (tgt := 755) hx hb dL_acts_42 (by rw [c_42_9]; decide) (by rw [c_42_9]; decide) (by rw [c_42_9]; decide) (by decide) ?_
          have JOIN_763 : ∀ (wh : Nat) (H : Heap) (locs : List Loc) (ls : Array Slot), (wh < 7) → lv_has ls 34 [(0, .ref (fa_B G + (0))), (1, .int (nI (ac))), (2, .int (nI (fi))), (3, .int (nI (ho))), (4, .int ((-1 : Int32))), (23, .int (nI (wh)))] → fa_HX G (n) v r s H locs → W p l e (fa_rm 8) s m args below meth c H locs (0) (0) Q (F0 m 763 ls []) := by
            intro wh H locs ls hi_763 hl HX1896
            refine lv_iload hx hb dL_acts_763 (lv_at hl 5 rfl) ?_
            refine lv_iconst (v := nI (5)) hx hb dL_acts_765 (by decide) ?_
            have JOIN_814 : ∀ (va : Nat) (H : Heap) (locs : List Loc) (ls : Array Slot), (fc_va wh va) → lv_has ls 34 [(0, .ref (fa_B G + (0))), (1, .int (nI (ac))), (2, .int (nI (fi))), (3, .int (nI (ho))), (4, .int ((-1 : Int32))), (23, .int (nI (wh))), (24, .int (nI (va)))] → fa_HX G (n) v r s H locs → W p l e (fa_rm 8) s m args below meth c H locs (0) (0) Q (F0 m 814 ls []) := by
              intro va H locs ls hi_814 hl HX1897
              refine lv_aload_n hx hb dL_acts_814 rfl (lv_at hl 0 rfl) ?_
              refine lv_iload hx hb dL_acts_815 (lv_at hl 5 rfl) ?_
              refine fa_callVip (As := [.int (nI (wh))]) (rest := []) CX HX1897 (g_setting l G n hn v r hC (nI (wh))) ln_L_22 (by omega) rfl rfl rfl rfl (Nat.le_of_ble_eq_true rfl) hl.1 ⟨Nat.le_of_ble_eq_true rfl, Nat.le_of_ble_eq_true rfl⟩ ⟨Nat.le_refl _, Nat.le_refl _⟩ dL_acts_817 (fun x1899 H locs h1898 HX1900 => ?_)
              have h_setting := h1898
              have e_817 : x1899 = A.g wh := ((h_setting A hV.1 hV.2.2.1).trans (fc_stg hi_763))
              subst e_817
              refine lv_istore (lv' := [(25, .int (A.g wh)), (0, .ref (fa_B G + (0))), (1, .int (nI (ac))), (2, .int (nI (fi))), (3, .int (nI (ho))), (4, .int ((-1 : Int32))), (23, .int (nI (wh))), (24, .int (nI (va)))]) hx hb dL_acts_820 hl (by decide) rfl (fun ls hl => ?_)
              refine lv_aload_n hx hb dL_acts_822 rfl (lv_at hl 1 rfl) ?_
              refine lv_iload hx hb dL_acts_823 (lv_at hl 6 rfl) ?_
              refine lv_iload hx hb dL_acts_825 (lv_at hl 7 rfl) ?_
              refine fa_callVi (As := [.int (nI (wh)), .int (nI (va))]) (rest := []) CX HX1900 (g_set5 l G n hn v r hC (nI (wh)) (nI (va))) ln_L_66 (by omega) rfl rfl rfl rfl (Nat.le_of_ble_eq_true rfl) hl.1 ⟨Nat.le_of_ble_eq_true rfl, Nat.le_of_ble_eq_true rfl⟩ ⟨Nat.le_refl _, Nat.le_refl _⟩ dL_acts_827 (fun x1902 v1903 r1904 H locs h1901 HX1905 => ?_)
              dsimp only at h1901
              have hC_v1903 := h1901.2.1
              have h_set5 := h1901.1
              obtain ⟨hr58_827, hac_827⟩ := h_set5
              obtain ⟨hx_827, hV_827⟩ := hac_827 _ _ hV
              rw [fc_set1 hi_814] at hx_827 hV_827
              have hV_827 : fb_CV v1903 r1904 (A.sg wh (nI (va))) _ := hV_827
              have hI_827 : fb_inj r1904 57 := hi57.congr hr58_827
              have hk_827 := hk.set1 hi_763 (fc_setS hk.2.2.2.2.2.2.1 hi_814)
              have e_827 : x1902 = A.g wh := hx_827
              subst e_827
              refine lv_iload hx hb dL_acts_830 (lv_at hl 0 rfl) ?_
              refine lv_icmp_ne (tgt := 850) hx hb dL_acts_832 (by decide) (fun c_832 => ?_) (fun c_832 => ?_)
              · exact absurd rfl c_832
              · refine lv_aload_n hx hb dL_acts_835 rfl (lv_at hl 1 rfl) ?_
                refine lv_iload hx hb dL_acts_836 (lv_at hl 6 rfl) ?_
                refine fa_callVip (As := [.int (nI (wh))]) (rest := []) CX HX1905 (g_setting l G n hn v1903 r1904 hC_v1903 (nI (wh))) ln_L_22 (by omega) rfl rfl rfl rfl (Nat.le_of_ble_eq_true rfl) hl.1 ⟨Nat.le_of_ble_eq_true rfl, Nat.le_of_ble_eq_true rfl⟩ ⟨Nat.le_refl _, Nat.le_refl _⟩ dL_acts_838 (fun x1907 H locs h1906 HX1908 => ?_)
                have h_setting := h1906
                have e_838 : x1907 = nI (va) := ((h_setting (A.sg wh (nI (va))) hV_827.1 hV_827.2.2.1).trans ((fc_stg hi_763).trans (fb_s1_s _ _ _)))
                subst e_838
                refine lv_iload hx hb dL_acts_841 (lv_at hl 7 rfl) ?_
                refine lv_icmp_ne (tgt := 850) hx hb dL_acts_843 (by decide) (fun c_843 => ?_) (fun c_843 => ?_)
                · exact absurd rfl c_843
                · refine lv_iconst (v := nI (1)) hx hb dL_acts_846 (by decide) ?_
                  refine lv_goto (tgt := 851) hx hb dL_acts_847 (by decide) ?_
                  exact RET _ _ _ _ _ _ _ HX1908 dL_acts_851 (by decide) (⟨⟨rfl, (A.sg wh (nI (va))), _, dy, cm, bu, hV_827, hk_827.more (Nat.le_succ _), ⟨by omega, by omega, by omega, by omega⟩, hI_827⟩, hC_v1903, (fa_fr.tr fa_fr.rf (fa_fr.wide h1901.2.2.1 (by omega) (by omega))), (fun k hk => ((h1901.2.2.2 k hk).trans rfl))⟩)
            refine lv_icmp_ge (tgt := 783) hx hb dL_acts_766 (by decide) (fun c_766 => ?_) (fun c_766 => ?_)
            · have hw5 : 5 ≤ wh := fa_leN (by omega) (by omega) c_766
              refine lv_iload hx hb dL_acts_783 (lv_at hl 5 rfl) ?_
              refine lv_iconst (v := nI (5)) hx hb dL_acts_785 (by decide) ?_
              refine lv_icmp_ne (tgt := 801) hx hb dL_acts_786 (by decide) (fun c_786 => ?_) (fun c_786 => ?_)
              · have hw6 : ¬ wh = 5 := fun z => c_786 (by rw [z])
                refine lv_bipush (v := nI (50)) hx hb dL_acts_801 (by decide) ?_
                refine lv_iload_n hx hb dL_acts_803 rfl (lv_at hl 1 rfl) ?_
                refine lv_bipush (v := nI (8)) hx hb dL_acts_804 (by decide) ?_
                refine lv_ishr hx hb dL_acts_806 ?_
                rw [show (nI (ac)) >>> ((nI (8)) &&& 31) = nI (ac / 256) from fc_shr (k := 8) (by omega) (by decide)]
                refine lv_sipush (v := nI (551)) hx hb dL_acts_807 (by decide) ?_
                refine lv_irem hx hb dL_acts_810 (by decide) ?_
                rw [show (nI (ac / 256)) - (nI (ac / 256)) / (nI (551)) * (nI (551)) = nI ((ac / 256) % 551) from pk_rem (by omega) (by decide) (by omega)]
                refine fa_iaddN hx hb dL_acts_811 ?_
                refine lv_istore (lv' := [(24, .int (nI (50 + ((ac / 256) % 551)))), (0, .ref (fa_B G + (0))), (1, .int (nI (ac))), (2, .int (nI (fi))), (3, .int (nI (ho))), (4, .int ((-1 : Int32))), (23, .int (nI (wh)))]) hx hb dL_acts_812 hl (by decide) rfl (fun ls hl => ?_)
                exact JOIN_814 (50 + ((ac / 256) % 551))  _ _ _ (by unfold fc_va; omega) (lv_sub hl [1, 2, 3, 4, 5, 6, 0] rfl) HX1896
              · have hw6 : wh = 5 := fa_nIinj (by omega) (by omega) c_786
                refine lv_iconst (v := nI (1)) hx hb dL_acts_789 (by decide) ?_
                refine lv_iload_n hx hb dL_acts_790 rfl (lv_at hl 1 rfl) ?_
                refine lv_bipush (v := nI (8)) hx hb dL_acts_791 (by decide) ?_
                refine lv_ishr hx hb dL_acts_793 ?_
                rw [show (nI (ac)) >>> ((nI (8)) &&& 31) = nI (ac / 256) from fc_shr (k := 8) (by omega) (by decide)]
                refine lv_bipush (v := nI (20)) hx hb dL_acts_794 (by decide) ?_
                refine lv_irem hx hb dL_acts_796 (by decide) ?_
                rw [show (nI (ac / 256)) - (nI (ac / 256)) / (nI (20)) * (nI (20)) = nI ((ac / 256) % 20) from pk_rem (by omega) (by decide) (by omega)]
                refine fa_iaddN hx hb dL_acts_797 ?_
                refine lv_goto (tgt := 812) hx hb dL_acts_798 (by decide) ?_
                refine lv_istore (lv' := [(24, .int (nI (1 + ((ac / 256) % 20)))), (0, .ref (fa_B G + (0))), (1, .int (nI (ac))), (2, .int (nI (fi))), (3, .int (nI (ho))), (4, .int ((-1 : Int32))), (23, .int (nI (wh)))]) hx hb dL_acts_812 hl (by decide) rfl (fun ls hl => ?_)
                exact JOIN_814 (1 + ((ac / 256) % 20))  _ _ _ (by unfold fc_va; omega) (lv_sub hl [1, 2, 3, 4, 5, 6, 0] rfl) HX1896
            · have hw5 : wh < 5 := fa_ltN (by omega) (by omega) c_766
              refine lv_bipush (v := nI (30)) hx hb dL_acts_769 (by decide) ?_
              refine lv_iload_n hx hb dL_acts_771 rfl (lv_at hl 1 rfl) ?_
              refine lv_bipush (v := nI (8)) hx hb dL_acts_772 (by decide) ?_
              refine lv_ishr hx hb dL_acts_774 ?_
              rw [show (nI (ac)) >>> ((nI (8)) &&& 31) = nI (ac / 256) from fc_shr (k := 8) (by omega) (by decide)]
              refine lv_sipush (v := nI (300)) hx hb dL_acts_775 (by decide) ?_
              refine lv_irem hx hb dL_acts_778 (by decide) ?_
              rw [show (nI (ac / 256)) - (nI (ac / 256)) / (nI (300)) * (nI (300)) = nI ((ac / 256) % 300) from pk_rem (by omega) (by decide) (by omega)]
              refine fa_iaddN hx hb dL_acts_779 ?_
              refine lv_goto (tgt := 812) hx hb dL_acts_780 (by decide) ?_
              refine lv_istore (lv' := [(24, .int (nI (30 + ((ac / 256) % 300)))), (0, .ref (fa_B G + (0))), (1, .int (nI (ac))), (2, .int (nI (fi))), (3, .int (nI (ho))), (4, .int ((-1 : Int32))), (23, .int (nI (wh)))]) hx hb dL_acts_812 hl (by decide) rfl (fun ls hl => ?_)
              exact JOIN_814 (30 + ((ac / 256) % 300))  _ _ _ (by unfold fc_va; omega) (lv_sub hl [1, 2, 3, 4, 5, 6, 0] rfl) HX1896
          refine lv_iload_n hx hb dL_acts_755 rfl (lv_at hl 2 rfl) ?_
          refine lv_iconst (v := nI (4)) hx hb dL_acts_756 (by decide) ?_
          refine lv_ishr hx hb dL_acts_757 ?_
          rw [show (nI (ac)) >>> ((nI (4)) &&& 31) = nI (ac / 16) from fc_shr (k := 4) (by omega) (by decide)]
          refine lv_bipush (v := nI (7)) hx hb dL_acts_758 (by decide) ?_
          refine lv_irem hx hb dL_acts_760 (by decide) ?_
          rw [show (nI (ac / 16)) - (nI (ac / 16)) / (nI (7)) * (nI (7)) = nI ((ac / 16) % 7) from pk_rem (by omega) (by decide) (by omega)]
          refine lv_istore (lv' := [(23, .int (nI ((ac / 16) % 7))), (4, .int ((-1 : Int32))), (0, .ref (fa_B G + (0))), (1, .int (nI (ac))), (2, .int (nI (fi))), (3, .int (nI (ho)))]) hx hb dL_acts_761 hl (by decide) rfl (fun ls hl => ?_)
          exact JOIN_763 ((ac / 16) % 7)  _ _ _ (Nat.mod_lt _ (by decide)) (lv_sub hl [2, 3, 4, 5, 1, 0] rfl) HX1789
        have hout_42 : (nI (ac % 12)).toInt < 0 ∨ 9 < (nI (ac % 12)).toInt := by
          have z0 := lv_neT (a := 0) c_42_0 (by decide)
          have z1 := lv_neT (a := 1) c_42_1 (by decide)
          have z2 := lv_neT (a := 2) c_42_2 (by decide)
          have z3 := lv_neT (a := 3) c_42_3 (by decide)
          have z4 := lv_neT (a := 4) c_42_4 (by decide)
          have z5 := lv_neT (a := 5) c_42_5 (by decide)
          have z6 := lv_neT (a := 6) c_42_6 (by decide)
          have z7 := lv_neT (a := 7) c_42_7 (by decide)
          have z8 := lv_neT (a := 8) c_42_8 (by decide)
          have z9 := lv_neT (a := 9) c_42_9 (by decide)
          omega
        refine lv_tableOut (tgt := 852) hx hb dL_acts_42 hout_42 (by decide) ?_
        have JOIN_862 : ∀ (da : Nat) (H : Heap) (locs : List Loc) (ls : Array Slot), (1 ≤ da ∧ da ≤ 120) → lv_has ls 34 [(0, .ref (fa_B G + (0))), (1, .int (nI (ac))), (2, .int (nI (fi))), (3, .int (nI (ho))), (4, .int ((-1 : Int32))), (26, .int (nI (da)))] → fa_HX G (n) v r s H locs → W p l e (fa_rm 8) s m args below meth c H locs (0) (0) Q (F0 m 862 ls []) := by
          intro da H locs ls hi_862 hl HX1909
          refine lv_aload_n hx hb dL_acts_862 rfl (lv_at hl 0 rfl) ?_
          refine fa_callVip (As := []) (rest := []) CX HX1909 (g_now l G n hn v r hC ) ln_L_31 (by omega) rfl rfl rfl rfl (Nat.le_of_ble_eq_true rfl) hl.1 ⟨Nat.le_of_ble_eq_true rfl, Nat.le_of_ble_eq_true rfl⟩ ⟨Nat.le_refl _, Nat.le_refl _⟩ dL_acts_863 (fun x1911 H locs h1910 HX1912 => ?_)
          have h_now := h1910
          have e_863 : x1911 = nI (dy) := ((h_now.trans hV.2.2.1.now).trans hk.1)
          subst e_863
          refine lv_istore (lv' := [(27, .int (nI (dy))), (0, .ref (fa_B G + (0))), (1, .int (nI (ac))), (2, .int (nI (fi))), (3, .int (nI (ho))), (4, .int ((-1 : Int32))), (26, .int (nI (da)))]) hx hb dL_acts_866 hl (by decide) rfl (fun ls hl => ?_)
          refine lv_aload_n hx hb dL_acts_868 rfl (lv_at hl 1 rfl) ?_
          refine lv_iconst (v := nI (3)) hx hb dL_acts_869 (by decide) ?_
          refine fa_callVip (As := [.int (nI (3))]) (rest := []) CX HX1912 (g_count l G n hn v r hC (nI (3))) ln_L_15 (by omega) rfl rfl rfl rfl (Nat.le_of_ble_eq_true rfl) hl.1 ⟨Nat.le_of_ble_eq_true rfl, Nat.le_of_ble_eq_true rfl⟩ ⟨Nat.le_refl _, Nat.le_refl _⟩ dL_acts_870 (fun x1914 H locs h1913 HX1915 => ?_)
          have h_count := h1913
          have e_870 : x1914 = nI (bu) := (((h_count A hV.1 hV.2.2.1).trans (fb_cntA_3 (by decide))).trans hk.2.2.1)
          subst e_870
          refine lv_istore (lv' := [(28, .int (nI (bu))), (27, .int (nI (dy))), (0, .ref (fa_B G + (0))), (1, .int (nI (ac))), (2, .int (nI (fi))), (3, .int (nI (ho))), (4, .int ((-1 : Int32))), (26, .int (nI (da)))]) hx hb dL_acts_873 hl (by decide) rfl (fun ls hl => ?_)
          refine lv_aload_n hx hb dL_acts_875 rfl (lv_at hl 2 rfl) ?_
          refine lv_iconst (v := nI (4)) hx hb dL_acts_876 (by decide) ?_
          refine fa_callVip (As := [.int (nI (4))]) (rest := []) CX HX1915 (g_count l G n hn v r hC (nI (4))) ln_L_15 (by omega) rfl rfl rfl rfl (Nat.le_of_ble_eq_true rfl) hl.1 ⟨Nat.le_of_ble_eq_true rfl, Nat.le_of_ble_eq_true rfl⟩ ⟨Nat.le_refl _, Nat.le_refl _⟩ dL_acts_877 (fun x1917 H locs h1916 HX1918 => ?_)
          have h_count := h1916
          have e_877 : x1917 = A.g 10 := ((h_count A hV.1 hV.2.2.1).trans (fb_cntA_4 (by decide)))
          subst e_877
          refine lv_istore (lv' := [(29, .int (A.g 10)), (28, .int (nI (bu))), (27, .int (nI (dy))), (0, .ref (fa_B G + (0))), (1, .int (nI (ac))), (2, .int (nI (fi))), (3, .int (nI (ho))), (4, .int ((-1 : Int32))), (26, .int (nI (da)))]) hx hb dL_acts_880 hl (by decide) rfl (fun ls hl => ?_)
          refine lv_aload_n hx hb dL_acts_882 rfl (lv_at hl 3 rfl) ?_
          refine lv_iconst (v := nI (5)) hx hb dL_acts_883 (by decide) ?_
          refine fa_callVip (As := [.int (nI (5))]) (rest := []) CX HX1918 (g_count l G n hn v r hC (nI (5))) ln_L_15 (by omega) rfl rfl rfl rfl (Nat.le_of_ble_eq_true rfl) hl.1 ⟨Nat.le_of_ble_eq_true rfl, Nat.le_of_ble_eq_true rfl⟩ ⟨Nat.le_refl _, Nat.le_refl _⟩ dL_acts_884 (fun x1920 H locs h1919 HX1921 => ?_)
          have h_count := h1919
          have e_884 : x1920 = A.g 11 := ((h_count A hV.1 hV.2.2.1).trans (fb_cntA_5 (by decide)))
          subst e_884
          refine lv_istore (lv' := [(30, .int (A.g 11)), (29, .int (A.g 10)), (28, .int (nI (bu))), (27, .int (nI (dy))), (0, .ref (fa_B G + (0))), (1, .int (nI (ac))), (2, .int (nI (fi))), (3, .int (nI (ho))), (4, .int ((-1 : Int32))), (26, .int (nI (da)))]) hx hb dL_acts_887 hl (by decide) rfl (fun ls hl => ?_)
          refine lv_aload_n hx hb dL_acts_889 rfl (lv_at hl 4 rfl) ?_
          refine lv_iload hx hb dL_acts_890 (lv_at hl 9 rfl) ?_
          refine lv_iconst (v := nI (0)) hx hb dL_acts_892 (by decide) ?_
          refine fa_callVi (As := [.int (nI (da)), .int (nI (0))]) (rest := []) CX HX1921 (g_ifPassed l G n hn v r hC (nI (da)) (nI (0))) ln_L_69 (by omega) rfl rfl rfl rfl (Nat.le_of_ble_eq_true rfl) hl.1 ⟨Nat.le_of_ble_eq_true rfl, Nat.le_of_ble_eq_true rfl⟩ ⟨Nat.le_refl _, Nat.le_refl _⟩ dL_acts_893 (fun x1923 v1924 r1925 H locs h1922 HX1926 => ?_)
          dsimp only at h1922
          have hC_v1924 := h1922.2.1
          have h_ifPassed := h1922.1
          have hV_893 := hV.fut h1922.2.2.1 h_ifPassed.1
          obtain ⟨hI_893, hip_893⟩ := h_ifPassed.2 A dy hok hk.1 (by omega) hi57 hV.2.2.1
          have e_893 : x1923 = (fb_daysA A da).2.g 9 - A.g 9 := ((hip_893 da rfl hi_862.1 (by omega)).1 (by decide))
          subst e_893
          refine lv_istore (lv' := [(31, .int ((fb_daysA A da).2.g 9 - A.g 9)), (30, .int (A.g 11)), (29, .int (A.g 10)), (28, .int (nI (bu))), (27, .int (nI (dy))), (0, .ref (fa_B G + (0))), (1, .int (nI (ac))), (2, .int (nI (fi))), (3, .int (nI (ho))), (4, .int ((-1 : Int32))), (26, .int (nI (da)))]) hx hb dL_acts_896 hl (by decide) rfl (fun ls hl => ?_)
          refine lv_aload_n hx hb dL_acts_898 rfl (lv_at hl 5 rfl) ?_
          refine lv_iload hx hb dL_acts_899 (lv_at hl 10 rfl) ?_
          refine lv_iconst (v := nI (1)) hx hb dL_acts_901 (by decide) ?_
          refine fa_callVi (As := [.int (nI (da)), .int (nI (1))]) (rest := []) CX HX1926 (g_ifPassed l G n hn v1924 r1925 hC_v1924 (nI (da)) (nI (1))) ln_L_69 (by omega) rfl rfl rfl rfl (Nat.le_of_ble_eq_true rfl) hl.1 ⟨Nat.le_of_ble_eq_true rfl, Nat.le_of_ble_eq_true rfl⟩ ⟨Nat.le_refl _, Nat.le_refl _⟩ dL_acts_902 (fun x1928 v1929 r1930 H locs h1927 HX1931 => ?_)
          dsimp only at h1927
          have hC_v1929 := h1927.2.1
          have h_ifPassed := h1927.1
          have hV_902 := hV_893.fut h1927.2.2.1 h_ifPassed.1
          obtain ⟨hI_902, hip_902⟩ := h_ifPassed.2 A dy hok hk.1 (by omega) hI_893 hV_893.2.2.1
          have e_902 : x1928 = (fb_daysA A da).2.g 10 - A.g 10 := ((hip_902 da rfl hi_862.1 (by omega)).2.1 (by decide))
          subst e_902
          refine lv_istore (lv' := [(32, .int ((fb_daysA A da).2.g 10 - A.g 10)), (31, .int ((fb_daysA A da).2.g 9 - A.g 9)), (30, .int (A.g 11)), (29, .int (A.g 10)), (28, .int (nI (bu))), (27, .int (nI (dy))), (0, .ref (fa_B G + (0))), (1, .int (nI (ac))), (2, .int (nI (fi))), (3, .int (nI (ho))), (4, .int ((-1 : Int32))), (26, .int (nI (da)))]) hx hb dL_acts_905 hl (by decide) rfl (fun ls hl => ?_)
          refine lv_aload_n hx hb dL_acts_907 rfl (lv_at hl 6 rfl) ?_
          refine lv_iload hx hb dL_acts_908 (lv_at hl 11 rfl) ?_
          refine lv_iconst (v := nI (2)) hx hb dL_acts_910 (by decide) ?_
          refine fa_callVi (As := [.int (nI (da)), .int (nI (2))]) (rest := []) CX HX1931 (g_ifPassed l G n hn v1929 r1930 hC_v1929 (nI (da)) (nI (2))) ln_L_69 (by omega) rfl rfl rfl rfl (Nat.le_of_ble_eq_true rfl) hl.1 ⟨Nat.le_of_ble_eq_true rfl, Nat.le_of_ble_eq_true rfl⟩ ⟨Nat.le_refl _, Nat.le_refl _⟩ dL_acts_911 (fun x1933 v1934 r1935 H locs h1932 HX1936 => ?_)
          dsimp only at h1932
          have hC_v1934 := h1932.2.1
          have h_ifPassed := h1932.1
          have hV_911 := hV_902.fut h1932.2.2.1 h_ifPassed.1
          obtain ⟨hI_911, hip_911⟩ := h_ifPassed.2 A dy hok hk.1 (by omega) hI_902 hV_902.2.2.1
          have e_911 : x1933 = (fb_daysA A da).2.g 11 - A.g 11 := ((hip_911 da rfl hi_862.1 (by omega)).2.2 rfl)
          subst e_911
          refine lv_istore (lv' := [(33, .int ((fb_daysA A da).2.g 11 - A.g 11)), (32, .int ((fb_daysA A da).2.g 10 - A.g 10)), (31, .int ((fb_daysA A da).2.g 9 - A.g 9)), (30, .int (A.g 11)), (29, .int (A.g 10)), (28, .int (nI (bu))), (27, .int (nI (dy))), (0, .ref (fa_B G + (0))), (1, .int (nI (ac))), (2, .int (nI (fi))), (3, .int (nI (ho))), (4, .int ((-1 : Int32))), (26, .int (nI (da)))]) hx hb dL_acts_914 hl (by decide) rfl (fun ls hl => ?_)
          refine lv_aload_n hx hb dL_acts_916 rfl (lv_at hl 7 rfl) ?_
          refine lv_iload hx hb dL_acts_917 (lv_at hl 12 rfl) ?_
          refine fa_callVi (As := [.int (nI (da))]) (rest := []) CX HX1936 (g_pass5 l G n hn v1934 r1935 hC_v1934 (nI (da))) ln_L_72 (by omega) rfl rfl rfl rfl (Nat.le_of_ble_eq_true rfl) hl.1 ⟨Nat.le_of_ble_eq_true rfl, Nat.le_of_ble_eq_true rfl⟩ ⟨Nat.le_refl _, Nat.le_refl _⟩ dL_acts_919 (fun x1938 v1939 r1940 H locs h1937 HX1941 => ?_)
          dsimp only at h1937
          have hC_v1939 := h1937.2.1
          have h_pass5 := h1937.1
          obtain ⟨hr58_919, hac_919⟩ := h_pass5
          obtain ⟨hx_919, hV_919⟩ := hac_919 _ _ hV_911
          rw [fc_pass1 hk.1 hi_862.1 (by omega) (by omega)] at hx_919 hV_919
          have hV_919 : fb_CV v1939 r1940 ((fb_daysA A da).2) _ := hV_919
          have hI_919 : fb_inj r1940 57 := hI_911.congr hr58_919
          obtain ⟨b2, hb2, hk_919, -⟩ := hk.days hok (by omega) da (by omega)
          have e_919 : x1938 = (fb_daysA A da).1 := hx_919
          subst e_919
          refine lv_iload hx hb dL_acts_922 (lv_at hl 2 rfl) ?_
          refine lv_icmp_ne (tgt := 982) hx hb dL_acts_924 (by decide) (fun c_924 => ?_) (fun c_924 => ?_)
          · exact absurd (fc_days9 A da) c_924
          · refine lv_aload_n hx hb dL_acts_927 rfl (lv_at hl 7 rfl) ?_
            refine fa_callVip (As := []) (rest := []) CX HX1941 (g_now l G n hn v1939 r1940 hC_v1939 ) ln_L_31 (by omega) rfl rfl rfl rfl (Nat.le_of_ble_eq_true rfl) hl.1 ⟨Nat.le_of_ble_eq_true rfl, Nat.le_of_ble_eq_true rfl⟩ ⟨Nat.le_refl _, Nat.le_refl _⟩ dL_acts_928 (fun x1943 H locs h1942 HX1944 => ?_)
            have h_now := h1942
            have e_928 : x1943 = nI (dy + da) := ((h_now.trans hV_919.2.2.1.now).trans hk_919.1)
            subst e_928
            refine lv_iload hx hb dL_acts_931 (lv_at hl 6 rfl) ?_
            refine lv_iload hx hb dL_acts_933 (lv_at hl 12 rfl) ?_
            refine fa_iaddN hx hb dL_acts_935 ?_
            refine lv_icmp_ne (tgt := 982) hx hb dL_acts_936 (by decide) (fun c_936 => ?_) (fun c_936 => ?_)
            · exact absurd rfl c_936
            · refine lv_aload_n hx hb dL_acts_939 rfl (lv_at hl 7 rfl) ?_
              refine lv_iconst (v := nI (3)) hx hb dL_acts_940 (by decide) ?_
              refine fa_callVip (As := [.int (nI (3))]) (rest := []) CX HX1944 (g_count l G n hn v1939 r1940 hC_v1939 (nI (3))) ln_L_15 (by omega) rfl rfl rfl rfl (Nat.le_of_ble_eq_true rfl) hl.1 ⟨Nat.le_of_ble_eq_true rfl, Nat.le_of_ble_eq_true rfl⟩ ⟨Nat.le_refl _, Nat.le_refl _⟩ dL_acts_941 (fun x1946 H locs h1945 HX1947 => ?_)
              have h_count := h1945
              have e_941 : x1946 = (fb_daysA A da).2.g 9 := ((h_count ((fb_daysA A da).2) hV_919.1 hV_919.2.2.1).trans (fb_cntA_3 (by decide)))
              subst e_941
              refine lv_iload hx hb dL_acts_944 (lv_at hl 5 rfl) ?_
              refine lv_iload hx hb dL_acts_946 (lv_at hl 2 rfl) ?_
              refine lv_iadd hx hb dL_acts_948 ?_
              refine lv_icmp_ne (tgt := 982) hx hb dL_acts_949 (by decide) (fun c_949 => ?_) (fun c_949 => ?_)
              · exact absurd (by rw [← hk.2.2.1]; exact (fc_diff _ _).symm) c_949
              · refine lv_aload_n hx hb dL_acts_952 rfl (lv_at hl 7 rfl) ?_
                refine lv_iconst (v := nI (4)) hx hb dL_acts_953 (by decide) ?_
                refine fa_callVip (As := [.int (nI (4))]) (rest := []) CX HX1947 (g_count l G n hn v1939 r1940 hC_v1939 (nI (4))) ln_L_15 (by omega) rfl rfl rfl rfl (Nat.le_of_ble_eq_true rfl) hl.1 ⟨Nat.le_of_ble_eq_true rfl, Nat.le_of_ble_eq_true rfl⟩ ⟨Nat.le_refl _, Nat.le_refl _⟩ dL_acts_954 (fun x1949 H locs h1948 HX1950 => ?_)
                have h_count := h1948
                have e_954 : x1949 = (fb_daysA A da).2.g 10 := ((h_count ((fb_daysA A da).2) hV_919.1 hV_919.2.2.1).trans (fb_cntA_4 (by decide)))
                subst e_954
                refine lv_iload hx hb dL_acts_957 (lv_at hl 4 rfl) ?_
                refine lv_iload hx hb dL_acts_959 (lv_at hl 1 rfl) ?_
                refine lv_iadd hx hb dL_acts_961 ?_
                refine lv_icmp_ne (tgt := 982) hx hb dL_acts_962 (by decide) (fun c_962 => ?_) (fun c_962 => ?_)
                · exact absurd (fc_diff _ _).symm c_962
                · refine lv_aload_n hx hb dL_acts_965 rfl (lv_at hl 7 rfl) ?_
                  refine lv_iconst (v := nI (5)) hx hb dL_acts_966 (by decide) ?_
                  refine fa_callVip (As := [.int (nI (5))]) (rest := []) CX HX1950 (g_count l G n hn v1939 r1940 hC_v1939 (nI (5))) ln_L_15 (by omega) rfl rfl rfl rfl (Nat.le_of_ble_eq_true rfl) hl.1 ⟨Nat.le_of_ble_eq_true rfl, Nat.le_of_ble_eq_true rfl⟩ ⟨Nat.le_refl _, Nat.le_refl _⟩ dL_acts_967 (fun x1952 H locs h1951 HX1953 => ?_)
                  have h_count := h1951
                  have e_967 : x1952 = (fb_daysA A da).2.g 11 := ((h_count ((fb_daysA A da).2) hV_919.1 hV_919.2.2.1).trans (fb_cntA_5 (by decide)))
                  subst e_967
                  refine lv_iload hx hb dL_acts_970 (lv_at hl 3 rfl) ?_
                  refine lv_iload hx hb dL_acts_972 (lv_at hl 0 rfl) ?_
                  refine lv_iadd hx hb dL_acts_974 ?_
                  refine lv_icmp_ne (tgt := 982) hx hb dL_acts_975 (by decide) (fun c_975 => ?_) (fun c_975 => ?_)
                  · exact absurd (fc_diff _ _).symm c_975
                  · refine lv_iconst (v := nI (1)) hx hb dL_acts_978 (by decide) ?_
                    refine lv_goto (tgt := 983) hx hb dL_acts_979 (by decide) ?_
                    exact RET _ _ _ _ _ _ _ HX1953 dL_acts_983 (by decide) (⟨⟨rfl, ((fb_daysA A da).2), _, dy + da, cm, b2, hV_919, hk_919.more (Nat.le_succ _), ⟨by omega, by omega, by omega, by omega⟩, hI_919⟩, hC_v1939, (fa_fr.tr (fa_fr.tr (fa_fr.tr (fa_fr.tr fa_fr.rf (fa_fr.wide h1922.2.2.1 (by omega) (by omega))) (fa_fr.wide h1927.2.2.1 (by omega) (by omega))) (fa_fr.wide h1932.2.2.1 (by omega) (by omega))) (fa_fr.wide h1937.2.2.1 (by omega) (by omega))), (fun k hk => ((h1937.2.2.2 k hk).trans ((h1932.2.2.2 k hk).trans ((h1927.2.2.2 k hk).trans ((h1922.2.2.2 k hk).trans rfl)))))⟩)
        refine lv_iconst (v := nI (1)) hx hb dL_acts_852 (by decide) ?_
        refine lv_iload_n hx hb dL_acts_853 rfl (lv_at hl 2 rfl) ?_
        refine lv_iconst (v := nI (4)) hx hb dL_acts_854 (by decide) ?_
        refine lv_ishr hx hb dL_acts_855 ?_
        rw [show (nI (ac)) >>> ((nI (4)) &&& 31) = nI (ac / 16) from fc_shr (k := 4) (by omega) (by decide)]
        refine lv_bipush (v := nI (120)) hx hb dL_acts_856 (by decide) ?_
        refine lv_irem hx hb dL_acts_858 (by decide) ?_
        rw [show (nI (ac / 16)) - (nI (ac / 16)) / (nI (120)) * (nI (120)) = nI ((ac / 16) % 120) from pk_rem (by omega) (by decide) (by omega)]
        refine fa_iaddN hx hb dL_acts_859 ?_
        refine lv_istore (lv' := [(26, .int (nI (1 + ((ac / 16) % 120)))), (4, .int ((-1 : Int32))), (0, .ref (fa_B G + (0))), (1, .int (nI (ac))), (2, .int (nI (fi))), (3, .int (nI (ho)))]) hx hb dL_acts_860 hl (by decide) rfl (fun ls hl => ?_)
        exact JOIN_862 (1 + ((ac / 16) % 120))  _ _ _ (⟨by omega, by omega⟩) (lv_sub hl [2, 3, 4, 5, 1, 0] rfl) HX1789
      · have ei := fc_ixE hok hpp ep
        have hfi : fi < cm := by have := hk.2.2.2.2.1; omega
        obtain ⟨kd, hkd, ekd⟩ := (hok.1.2.2.2.2.2 pp hpp).1
        refine lv_aload_n hx hb dL_acts_30 rfl (lv_at hl 0 rfl) ?_
        refine lv_iload_n hx hb dL_acts_31 rfl (lv_at hl 2 rfl) ?_
        refine lv_iconst (v := nI (0)) hx hb dL_acts_32 (by decide) ?_
        refine fa_callVip (As := [.int (nI (fi)), .int (nI (0))]) (rest := []) CX HX1622 (g_file l G n hn v r hC (nI (fi)) (nI (0))) ln_L_9 (by omega) rfl rfl rfl rfl (Nat.le_of_ble_eq_true rfl) hl.1 ⟨Nat.le_of_ble_eq_true rfl, Nat.le_of_ble_eq_true rfl⟩ ⟨Nat.le_refl _, Nat.le_refl _⟩ dL_acts_33 (fun x1955 H locs h1954 HX1956 => ?_)
        have h_file := h1954
        have e_33 : x1955 = nI (kd) := ((((h_file A hV.1 hV.2.2.1).trans (fc_filE hV.1 hpp ep)).trans (fb_filP_0 (by decide))).trans ekd)
        subst e_33
        refine lv_istore (lv' := [(4, .int (nI (kd))), (0, .ref (fa_B G + (0))), (1, .int (nI (ac))), (2, .int (nI (fi))), (3, .int (nI (ho)))]) hx hb dL_acts_36 hl (by decide) rfl (fun ls hl => ?_)
        refine lv_iload_n hx hb dL_acts_38 rfl (lv_at hl 2 rfl) ?_
        refine lv_bipush (v := nI (12)) hx hb dL_acts_39 (by decide) ?_
        refine lv_irem hx hb dL_acts_41 (by decide) ?_
        rw [show (nI (ac)) - (nI (ac)) / (nI (12)) * (nI (12)) = nI (ac % 12) from pk_rem (by omega) (by decide) (by omega)]
        have JOIN_96 : ∀  (H : Heap) (locs : List Loc) (ls : Array Slot), (True) → lv_has ls 34 [(0, .ref (fa_B G + (0))), (1, .int (nI (ac))), (2, .int (nI (fi))), (3, .int (nI (ho))), (4, .int (nI (kd)))] → fa_HX G (n) v r s H locs → W p l e (fa_rm 8) s m args below meth c H locs (0) (0) Q (F0 m 96 ls []) := by
          intro  H locs ls hi_96 hl HX1957
          refine lv_aload_n hx hb dL_acts_96 rfl (lv_at hl 0 rfl) ?_
          refine lv_iconst (v := nI (1)) hx hb dL_acts_97 (by decide) ?_
          refine fa_callVip (As := [.int (nI (1))]) (rest := []) CX HX1957 (g_count l G n hn v r hC (nI (1))) ln_L_15 (by omega) rfl rfl rfl rfl (Nat.le_of_ble_eq_true rfl) hl.1 ⟨Nat.le_of_ble_eq_true rfl, Nat.le_of_ble_eq_true rfl⟩ ⟨Nat.le_refl _, Nat.le_refl _⟩ dL_acts_98 (fun x1959 H locs h1958 HX1960 => ?_)
          have h_count := h1958
          have e_98 : x1959 = nI (cm) := (((h_count A hV.1 hV.2.2.1).trans (fb_cntA_1 (by decide))).trans hk.2.1)
          subst e_98
          refine lv_istore (lv' := [(5, .int (nI (cm))), (0, .ref (fa_B G + (0))), (1, .int (nI (ac))), (2, .int (nI (fi))), (3, .int (nI (ho))), (4, .int (nI (kd)))]) hx hb dL_acts_101 hl (by decide) rfl (fun ls hl => ?_)
          refine lv_iconst (v := nI (1)) hx hb dL_acts_103 (by decide) ?_
          refine lv_iload_n hx hb dL_acts_104 rfl (lv_at hl 2 rfl) ?_
          refine lv_bipush (v := nI (8)) hx hb dL_acts_105 (by decide) ?_
          refine lv_ishr hx hb dL_acts_107 ?_
          rw [show (nI (ac)) >>> ((nI (8)) &&& 31) = nI (ac / 256) from fc_shr (k := 8) (by omega) (by decide)]
          refine lv_bipush (v := nI (50)) hx hb dL_acts_108 (by decide) ?_
          refine lv_irem hx hb dL_acts_110 (by decide) ?_
          rw [show (nI (ac / 256)) - (nI (ac / 256)) / (nI (50)) * (nI (50)) = nI ((ac / 256) % 50) from pk_rem (by omega) (by decide) (by omega)]
          refine fa_iaddN hx hb dL_acts_111 ?_
          refine lv_istore (lv' := [(6, .int (nI (1 + ((ac / 256) % 50)))), (5, .int (nI (cm))), (0, .ref (fa_B G + (0))), (1, .int (nI (ac))), (2, .int (nI (fi))), (3, .int (nI (ho))), (4, .int (nI (kd)))]) hx hb dL_acts_112 hl (by decide) rfl (fun ls hl => ?_)
          refine lv_aload_n hx hb dL_acts_114 rfl (lv_at hl 2 rfl) ?_
          refine lv_iconst (v := nI (0)) hx hb dL_acts_115 (by decide) ?_
          refine fa_callVip (As := [.int (nI (0))]) (rest := []) CX HX1960 (g_count l G n hn v r hC (nI (0))) ln_L_15 (by omega) rfl rfl rfl rfl (Nat.le_of_ble_eq_true rfl) hl.1 ⟨Nat.le_of_ble_eq_true rfl, Nat.le_of_ble_eq_true rfl⟩ ⟨Nat.le_refl _, Nat.le_refl _⟩ dL_acts_116 (fun x1962 H locs h1961 HX1963 => ?_)
          have h_count := h1961
          have e_116 : x1962 = nI (A.n) := ((h_count A hV.1 hV.2.2.1).trans (fb_cntA_0 (by decide)))
          subst e_116
          refine lv_bipush (v := nI (24)) hx hb dL_acts_119 (by decide) ?_
          refine lv_icmp_ge (tgt := 145) hx hb dL_acts_121 (by decide) (fun c_121 => ?_) (fun c_121 => ?_)
          · have h24 : 24 ≤ A.n := fa_leN (by omega) (by omega) c_121
            refine lv_iconst (v := nI (0)) hx hb dL_acts_145 (by decide) ?_
            refine lv_istore (lv' := [(7, .int (nI (0))), (6, .int (nI (1 + ((ac / 256) % 50)))), (5, .int (nI (cm))), (0, .ref (fa_B G + (0))), (1, .int (nI (ac))), (2, .int (nI (fi))), (3, .int (nI (ho))), (4, .int (nI (kd)))]) hx hb dL_acts_146 hl (by decide) rfl (fun ls hl => ?_)
            refine lv_aload_n hx hb dL_acts_148 rfl (lv_at hl 3 rfl) ?_
            refine lv_iload_n hx hb dL_acts_149 rfl (lv_at hl 4 rfl) ?_
            refine lv_iconst (v := nI (4)) hx hb dL_acts_150 (by decide) ?_
            refine lv_ishr hx hb dL_acts_151 ?_
            rw [show (nI (ac)) >>> ((nI (4)) &&& 31) = nI (ac / 16) from fc_shr (k := 4) (by omega) (by decide)]
            refine lv_iconst (v := nI (5)) hx hb dL_acts_152 (by decide) ?_
            refine lv_irem hx hb dL_acts_153 (by decide) ?_
            rw [show (nI (ac / 16)) - (nI (ac / 16)) / (nI (5)) * (nI (5)) = nI ((ac / 16) % 5) from pk_rem (by omega) (by decide) (by omega)]
            refine lv_iload hx hb dL_acts_154 (lv_at hl 1 rfl) ?_
            refine fa_callVi (As := [.int (nI ((ac / 16) % 5)), .int (nI (1 + ((ac / 256) % 50)))]) (rest := []) CX HX1963 (g_add5 l G n hn v r hC (nI ((ac / 16) % 5)) (nI (1 + ((ac / 256) % 50)))) ln_L_44 (by omega) rfl rfl rfl rfl (Nat.le_of_ble_eq_true rfl) hl.1 ⟨Nat.le_of_ble_eq_true rfl, Nat.le_of_ble_eq_true rfl⟩ ⟨Nat.le_refl _, Nat.le_refl _⟩ dL_acts_156 (fun x1965 v1966 r1967 H locs h1964 HX1968 => ?_)
            dsimp only at h1964
            have hC_v1966 := h1964.2.1
            have h_add5 := h1964.1
            obtain ⟨hr58_156, hac_156⟩ := h_add5
            obtain ⟨hx_156, hV_156⟩ := hac_156 _ _ hV
            rw [fc_add0 (k := (ac / 16) % 5) (p := 1 + (ac / 256) % 50) (by omega) (by omega) (by omega) (Or.inl h24)] at hx_156 hV_156
            have hV_156 : fb_CV v1966 r1967 A _ := hV_156
            have hI_156 : fb_inj r1967 57 := hi57.congr hr58_156
            have hk_156 := hk
            have e_156 : x1965 = (-4 : Int32) := hx_156
            subst e_156
            refine lv_istore (lv' := [(8, .int ((-4 : Int32))), (7, .int (nI (0))), (6, .int (nI (1 + ((ac / 256) % 50)))), (5, .int (nI (cm))), (0, .ref (fa_B G + (0))), (1, .int (nI (ac))), (2, .int (nI (fi))), (3, .int (nI (ho))), (4, .int (nI (kd)))]) hx hb dL_acts_159 hl (by decide) rfl (fun ls hl => ?_)
            refine lv_iload hx hb dL_acts_161 (lv_at hl 1 rfl) ?_
            refine lv_if_eq (tgt := 219) hx hb dL_acts_163 (by decide) (fun c_163 => ?_) (fun c_163 => ?_)
            · refine lv_iload hx hb dL_acts_219 (lv_at hl 0 rfl) ?_
              refine lv_bipush (v := (-4 : Int32)) hx hb dL_acts_221 (by decide) ?_
              refine lv_icmp_ne (tgt := 230) hx hb dL_acts_223 (by decide) (fun c_223 => ?_) (fun c_223 => ?_)
              · exact absurd (by try decide) c_223
              · refine lv_iconst (v := nI (1)) hx hb dL_acts_226 (by decide) ?_
                refine lv_goto (tgt := 231) hx hb dL_acts_227 (by decide) ?_
                exact RET _ _ _ _ _ _ _ HX1968 dL_acts_231 (by decide) (⟨⟨rfl, A, _, dy, cm, bu, hV_156, hk_156.more (Nat.le_succ _), ⟨by omega, by omega, by omega, by omega⟩, hI_156⟩, hC_v1966, (fa_fr.tr fa_fr.rf (fa_fr.wide h1964.2.2.1 (by omega) (by omega))), (fun k hk => ((h1964.2.2.2 k hk).trans rfl))⟩)
            · exact absurd (by try decide) c_163
          · have h24 : A.n < 24 := fa_ltN (by omega) (by omega) c_121
            refine lv_aload_n hx hb dL_acts_124 rfl (lv_at hl 2 rfl) ?_
            refine lv_iconst (v := nI (2)) hx hb dL_acts_125 (by decide) ?_
            refine fa_callVip (As := [.int (nI (2))]) (rest := []) CX HX1963 (g_count l G n hn v r hC (nI (2))) ln_L_15 (by omega) rfl rfl rfl rfl (Nat.le_of_ble_eq_true rfl) hl.1 ⟨Nat.le_of_ble_eq_true rfl, Nat.le_of_ble_eq_true rfl⟩ ⟨Nat.le_refl _, Nat.le_refl _⟩ dL_acts_126 (fun x1970 H locs h1969 HX1971 => ?_)
            have h_count := h1969
            have e_126 : x1970 = fb_pgs A := ((h_count A hV.1 hV.2.2.1).trans (fb_cntA_2 (by decide)))
            subst e_126
            refine lv_iload hx hb dL_acts_129 (lv_at hl 0 rfl) ?_
            refine lv_iadd hx hb dL_acts_131 ?_
            refine lv_aload_n hx hb dL_acts_132 rfl (lv_at hl 2 rfl) ?_
            refine lv_bipush (v := nI (6)) hx hb dL_acts_133 (by decide) ?_
            refine fa_callVip (As := [.int (nI (6))]) (rest := [.int ((fb_pgs A) + (nI (1 + ((ac / 256) % 50))))]) CX HX1971 (g_setting l G n hn v r hC (nI (6))) ln_L_22 (by omega) rfl rfl rfl rfl (Nat.le_of_ble_eq_true rfl) hl.1 ⟨Nat.le_of_ble_eq_true rfl, Nat.le_of_ble_eq_true rfl⟩ ⟨Nat.le_refl _, Nat.le_refl _⟩ dL_acts_135 (fun x1973 H locs h1972 HX1974 => ?_)
            have h_setting := h1972
            have e_135 : x1973 = A.g 6 := ((h_setting A hV.1 hV.2.2.1).trans (fc_stg (k := 6) (by decide)))
            subst e_135
            refine lv_icmp_gt (tgt := 145) hx hb dL_acts_138 (by decide) (fun c_138 => ?_) (fun c_138 => ?_)
            · refine lv_iconst (v := nI (0)) hx hb dL_acts_145 (by decide) ?_
              refine lv_istore (lv' := [(7, .int (nI (0))), (6, .int (nI (1 + ((ac / 256) % 50)))), (5, .int (nI (cm))), (0, .ref (fa_B G + (0))), (1, .int (nI (ac))), (2, .int (nI (fi))), (3, .int (nI (ho))), (4, .int (nI (kd)))]) hx hb dL_acts_146 hl (by decide) rfl (fun ls hl => ?_)
              refine lv_aload_n hx hb dL_acts_148 rfl (lv_at hl 3 rfl) ?_
              refine lv_iload_n hx hb dL_acts_149 rfl (lv_at hl 4 rfl) ?_
              refine lv_iconst (v := nI (4)) hx hb dL_acts_150 (by decide) ?_
              refine lv_ishr hx hb dL_acts_151 ?_
              rw [show (nI (ac)) >>> ((nI (4)) &&& 31) = nI (ac / 16) from fc_shr (k := 4) (by omega) (by decide)]
              refine lv_iconst (v := nI (5)) hx hb dL_acts_152 (by decide) ?_
              refine lv_irem hx hb dL_acts_153 (by decide) ?_
              rw [show (nI (ac / 16)) - (nI (ac / 16)) / (nI (5)) * (nI (5)) = nI ((ac / 16) % 5) from pk_rem (by omega) (by decide) (by omega)]
              refine lv_iload hx hb dL_acts_154 (lv_at hl 1 rfl) ?_
              refine fa_callVi (As := [.int (nI ((ac / 16) % 5)), .int (nI (1 + ((ac / 256) % 50)))]) (rest := []) CX HX1974 (g_add5 l G n hn v r hC (nI ((ac / 16) % 5)) (nI (1 + ((ac / 256) % 50)))) ln_L_44 (by omega) rfl rfl rfl rfl (Nat.le_of_ble_eq_true rfl) hl.1 ⟨Nat.le_of_ble_eq_true rfl, Nat.le_of_ble_eq_true rfl⟩ ⟨Nat.le_refl _, Nat.le_refl _⟩ dL_acts_156 (fun x1976 v1977 r1978 H locs h1975 HX1979 => ?_)
              dsimp only at h1975
              have hC_v1977 := h1975.2.1
              have h_add5 := h1975.1
              obtain ⟨hr58_156, hac_156⟩ := h_add5
              obtain ⟨hx_156, hV_156⟩ := hac_156 _ _ hV
              rw [fc_add0 (k := (ac / 16) % 5) (p := 1 + (ac / 256) % 50) (by omega) (by omega) (by omega) (Or.inr (Int32.not_le.mpr c_138))] at hx_156 hV_156
              have hV_156 : fb_CV v1977 r1978 A _ := hV_156
              have hI_156 : fb_inj r1978 57 := hi57.congr hr58_156
              have hk_156 := hk
              have e_156 : x1976 = (-4 : Int32) := hx_156
              subst e_156
              refine lv_istore (lv' := [(8, .int ((-4 : Int32))), (7, .int (nI (0))), (6, .int (nI (1 + ((ac / 256) % 50)))), (5, .int (nI (cm))), (0, .ref (fa_B G + (0))), (1, .int (nI (ac))), (2, .int (nI (fi))), (3, .int (nI (ho))), (4, .int (nI (kd)))]) hx hb dL_acts_159 hl (by decide) rfl (fun ls hl => ?_)
              refine lv_iload hx hb dL_acts_161 (lv_at hl 1 rfl) ?_
              refine lv_if_eq (tgt := 219) hx hb dL_acts_163 (by decide) (fun c_163 => ?_) (fun c_163 => ?_)
              · refine lv_iload hx hb dL_acts_219 (lv_at hl 0 rfl) ?_
                refine lv_bipush (v := (-4 : Int32)) hx hb dL_acts_221 (by decide) ?_
                refine lv_icmp_ne (tgt := 230) hx hb dL_acts_223 (by decide) (fun c_223 => ?_) (fun c_223 => ?_)
                · exact absurd (by try decide) c_223
                · refine lv_iconst (v := nI (1)) hx hb dL_acts_226 (by decide) ?_
                  refine lv_goto (tgt := 231) hx hb dL_acts_227 (by decide) ?_
                  exact RET _ _ _ _ _ _ _ HX1979 dL_acts_231 (by decide) (⟨⟨rfl, A, _, dy, cm, bu, hV_156, hk_156.more (Nat.le_succ _), ⟨by omega, by omega, by omega, by omega⟩, hI_156⟩, hC_v1977, (fa_fr.tr fa_fr.rf (fa_fr.wide h1975.2.2.1 (by omega) (by omega))), (fun k hk => ((h1975.2.2.2 k hk).trans rfl))⟩)
              · exact absurd (by try decide) c_163
            · refine lv_iconst (v := nI (1)) hx hb dL_acts_141 (by decide) ?_
              refine lv_goto (tgt := 146) hx hb dL_acts_142 (by decide) ?_
              refine lv_istore (lv' := [(7, .int (nI (1))), (6, .int (nI (1 + ((ac / 256) % 50)))), (5, .int (nI (cm))), (0, .ref (fa_B G + (0))), (1, .int (nI (ac))), (2, .int (nI (fi))), (3, .int (nI (ho))), (4, .int (nI (kd)))]) hx hb dL_acts_146 hl (by decide) rfl (fun ls hl => ?_)
              refine lv_aload_n hx hb dL_acts_148 rfl (lv_at hl 3 rfl) ?_
              refine lv_iload_n hx hb dL_acts_149 rfl (lv_at hl 4 rfl) ?_
              refine lv_iconst (v := nI (4)) hx hb dL_acts_150 (by decide) ?_
              refine lv_ishr hx hb dL_acts_151 ?_
              rw [show (nI (ac)) >>> ((nI (4)) &&& 31) = nI (ac / 16) from fc_shr (k := 4) (by omega) (by decide)]
              refine lv_iconst (v := nI (5)) hx hb dL_acts_152 (by decide) ?_
              refine lv_irem hx hb dL_acts_153 (by decide) ?_
              rw [show (nI (ac / 16)) - (nI (ac / 16)) / (nI (5)) * (nI (5)) = nI ((ac / 16) % 5) from pk_rem (by omega) (by decide) (by omega)]
              refine lv_iload hx hb dL_acts_154 (lv_at hl 1 rfl) ?_
              refine fa_callVi (As := [.int (nI ((ac / 16) % 5)), .int (nI (1 + ((ac / 256) % 50)))]) (rest := []) CX HX1974 (g_add5 l G n hn v r hC (nI ((ac / 16) % 5)) (nI (1 + ((ac / 256) % 50)))) ln_L_44 (by omega) rfl rfl rfl rfl (Nat.le_of_ble_eq_true rfl) hl.1 ⟨Nat.le_of_ble_eq_true rfl, Nat.le_of_ble_eq_true rfl⟩ ⟨Nat.le_refl _, Nat.le_refl _⟩ dL_acts_156 (fun x1981 v1982 r1983 H locs h1980 HX1984 => ?_)
              dsimp only at h1980
              have hC_v1982 := h1980.2.1
              have h_add5 := h1980.1
              obtain ⟨hr58_156, hac_156⟩ := h_add5
              obtain ⟨hx_156, hV_156⟩ := hac_156 _ _ hV
              rw [fc_add1 (k := (ac / 16) % 5) (p := 1 + (ac / 256) % 50) (by omega) (by omega) (by omega) hk.2.1 h24 (by omega) (Int32.not_lt.mp c_138)] at hx_156 hV_156
              have hV_156 : fb_CV v1982 r1983 (fc_addX A (nI ((ac / 16) % 5)) (nI (1 + (ac / 256) % 50))) _ := hV_156
              have hI_156 : fb_inj r1983 57 := hi57.congr hr58_156
              have hk_156 : fc_ok (fc_addX A (nI ((ac / 16) % 5)) (nI (1 + (ac / 256) % 50))) dy (cm + 1) bu (dy / 90) (kn + 1) := ((hk.new (kd := nI ((ac / 16) % 5)) (pg := nI (1 + (ac / 256) % 50)) ⟨_, by omega, by omega, rfl⟩ (by omega)).more (Nat.le_succ _))
              have e_156 : x1981 = nI (cm) := hx_156
              subst e_156
              refine lv_istore (lv' := [(8, .int (nI (cm))), (7, .int (nI (1))), (6, .int (nI (1 + ((ac / 256) % 50)))), (5, .int (nI (cm))), (0, .ref (fa_B G + (0))), (1, .int (nI (ac))), (2, .int (nI (fi))), (3, .int (nI (ho))), (4, .int (nI (kd)))]) hx hb dL_acts_159 hl (by decide) rfl (fun ls hl => ?_)
              refine lv_iload hx hb dL_acts_161 (lv_at hl 1 rfl) ?_
              refine lv_if_eq (tgt := 219) hx hb dL_acts_163 (by decide) (fun c_163 => ?_) (fun c_163 => ?_)
              · exact absurd c_163 (by try decide)
              · refine lv_iload hx hb dL_acts_166 (lv_at hl 0 rfl) ?_
                refine lv_iload hx hb dL_acts_168 (lv_at hl 3 rfl) ?_
                refine lv_icmp_ne (tgt := 215) hx hb dL_acts_170 (by decide) (fun c_170 => ?_) (fun c_170 => ?_)
                · exact absurd rfl c_170
                · refine lv_aload_n hx hb dL_acts_173 rfl (lv_at hl 4 rfl) ?_
                  refine lv_iload hx hb dL_acts_174 (lv_at hl 0 rfl) ?_
                  refine lv_iconst (v := nI (1)) hx hb dL_acts_176 (by decide) ?_
                  refine fa_callVip (As := [.int (nI (cm)), .int (nI (1))]) (rest := []) CX HX1984 (g_file l G n hn v1982 r1983 hC_v1982 (nI (cm)) (nI (1))) ln_L_9 (by omega) rfl rfl rfl rfl (Nat.le_of_ble_eq_true rfl) hl.1 ⟨Nat.le_of_ble_eq_true rfl, Nat.le_of_ble_eq_true rfl⟩ ⟨Nat.le_refl _, Nat.le_refl _⟩ dL_acts_177 (fun x1986 H locs h1985 HX1987 => ?_)
                  have h_file := h1985
                  have e_177 : x1986 = nI (1 + (ac / 256) % 50) := (((h_file (fc_addX A (nI ((ac / 16) % 5)) (nI (1 + (ac / 256) % 50))) hV_156.1 hV_156.2.2.1).trans (fc_addQ hV_156.1 hk.2.1)).trans ((fb_filP_1 (by decide)).trans fc_addF))
                  subst e_177
                  refine lv_iload hx hb dL_acts_180 (lv_at hl 2 rfl) ?_
                  refine lv_icmp_ne (tgt := 215) hx hb dL_acts_182 (by decide) (fun c_182 => ?_) (fun c_182 => ?_)
                  · exact absurd rfl c_182
                  · refine lv_aload_n hx hb dL_acts_185 rfl (lv_at hl 4 rfl) ?_
                    refine lv_iload hx hb dL_acts_186 (lv_at hl 0 rfl) ?_
                    refine lv_iconst (v := nI (2)) hx hb dL_acts_188 (by decide) ?_
                    refine fa_callVip (As := [.int (nI (cm)), .int (nI (2))]) (rest := []) CX HX1987 (g_file l G n hn v1982 r1983 hC_v1982 (nI (cm)) (nI (2))) ln_L_9 (by omega) rfl rfl rfl rfl (Nat.le_of_ble_eq_true rfl) hl.1 ⟨Nat.le_of_ble_eq_true rfl, Nat.le_of_ble_eq_true rfl⟩ ⟨Nat.le_refl _, Nat.le_refl _⟩ dL_acts_189 (fun x1989 H locs h1988 HX1990 => ?_)
                    have h_file := h1988
                    have e_189 : x1989 = nI (dy) := ((((h_file (fc_addX A (nI ((ac / 16) % 5)) (nI (1 + (ac / 256) % 50))) hV_156.1 hV_156.2.2.1).trans (fc_addQ hV_156.1 hk.2.1)).trans ((fb_filP_2 (by decide)).trans fc_addF)).trans hk.1)
                    subst e_189
                    refine lv_aload_n hx hb dL_acts_192 rfl (lv_at hl 4 rfl) ?_
                    refine fa_callVip (As := []) (rest := [.int (nI (dy))]) CX HX1990 (g_now l G n hn v1982 r1983 hC_v1982 ) ln_L_31 (by omega) rfl rfl rfl rfl (Nat.le_of_ble_eq_true rfl) hl.1 ⟨Nat.le_of_ble_eq_true rfl, Nat.le_of_ble_eq_true rfl⟩ ⟨Nat.le_refl _, Nat.le_refl _⟩ dL_acts_193 (fun x1992 H locs h1991 HX1993 => ?_)
                    have h_now := h1991
                    have e_193 : x1992 = nI (dy) := ((h_now.trans hV_156.2.2.1.now).trans hk_156.1)
                    subst e_193
                    refine lv_icmp_ne (tgt := 215) hx hb dL_acts_196 (by decide) (fun c_196 => ?_) (fun c_196 => ?_)
                    · exact absurd rfl c_196
                    · refine lv_aload_n hx hb dL_acts_199 rfl (lv_at hl 4 rfl) ?_
                      refine lv_iload hx hb dL_acts_200 (lv_at hl 0 rfl) ?_
                      refine lv_iconst (v := nI (3)) hx hb dL_acts_202 (by decide) ?_
                      refine fa_callVip (As := [.int (nI (cm)), .int (nI (3))]) (rest := []) CX HX1993 (g_file l G n hn v1982 r1983 hC_v1982 (nI (cm)) (nI (3))) ln_L_9 (by omega) rfl rfl rfl rfl (Nat.le_of_ble_eq_true rfl) hl.1 ⟨Nat.le_of_ble_eq_true rfl, Nat.le_of_ble_eq_true rfl⟩ ⟨Nat.le_refl _, Nat.le_refl _⟩ dL_acts_203 (fun x1995 H locs h1994 HX1996 => ?_)
                      have h_file := h1994
                      have e_203 : x1995 = (-6 : Int32) := ((((h_file (fc_addX A (nI ((ac / 16) % 5)) (nI (1 + (ac / 256) % 50))) hV_156.1 hV_156.2.2.1).trans (fc_addQ hV_156.1 hk.2.1)).trans (fb_filP_3 (by decide))).trans (by rw [fc_addF]; rfl))
                      subst e_203
                      refine lv_bipush (v := (-6 : Int32)) hx hb dL_acts_206 (by decide) ?_
                      refine lv_icmp_ne (tgt := 215) hx hb dL_acts_208 (by decide) (fun c_208 => ?_) (fun c_208 => ?_)
                      · exact absurd (by try decide) c_208
                      · refine lv_iconst (v := nI (1)) hx hb dL_acts_211 (by decide) ?_
                        refine lv_goto (tgt := 231) hx hb dL_acts_212 (by decide) ?_
                        exact RET _ _ _ _ _ _ _ HX1996 dL_acts_231 (by decide) (⟨⟨rfl, (fc_addX A (nI ((ac / 16) % 5)) (nI (1 + (ac / 256) % 50))), _, dy, cm + 1, bu, hV_156, hk_156.more (Nat.le_refl _), ⟨by omega, by omega, by omega, by omega⟩, hI_156⟩, hC_v1982, (fa_fr.tr fa_fr.rf (fa_fr.wide h1980.2.2.1 (by omega) (by omega))), (fun k hk => ((h1980.2.2.2 k hk).trans rfl))⟩)
        have JOIN_232 : ∀  (H : Heap) (locs : List Loc) (ls : Array Slot), (True) → lv_has ls 34 [(0, .ref (fa_B G + (0))), (1, .int (nI (ac))), (2, .int (nI (fi))), (3, .int (nI (ho))), (4, .int (nI (kd)))] → fa_HX G (n) v r s H locs → W p l e (fa_rm 8) s m args below meth c H locs (0) (0) Q (F0 m 232 ls []) := by
          intro  H locs ls hi_232 hl HX1997
          refine lv_aload_n hx hb dL_acts_232 rfl (lv_at hl 0 rfl) ?_
          refine lv_iload_n hx hb dL_acts_233 rfl (lv_at hl 2 rfl) ?_
          refine lv_iconst (v := nI (4)) hx hb dL_acts_234 (by decide) ?_
          refine fa_callVip (As := [.int (nI (fi)), .int (nI (4))]) (rest := []) CX HX1997 (g_file l G n hn v r hC (nI (fi)) (nI (4))) ln_L_9 (by omega) rfl rfl rfl rfl (Nat.le_of_ble_eq_true rfl) hl.1 ⟨Nat.le_of_ble_eq_true rfl, Nat.le_of_ble_eq_true rfl⟩ ⟨Nat.le_refl _, Nat.le_refl _⟩ dL_acts_235 (fun x1999 H locs h1998 HX2000 => ?_)
          have h_file := h1998
          have e_235 : x1999 = A.F pp 5 := (((h_file A hV.1 hV.2.2.1).trans (fc_filE hV.1 hpp ep)).trans (fb_filP_4 (by decide)))
          subst e_235
          refine lv_istore (lv' := [(9, .int (A.F pp 5)), (0, .ref (fa_B G + (0))), (1, .int (nI (ac))), (2, .int (nI (fi))), (3, .int (nI (ho))), (4, .int (nI (kd)))]) hx hb dL_acts_238 hl (by decide) rfl (fun ls hl => ?_)
          refine lv_aload_n hx hb dL_acts_240 rfl (lv_at hl 1 rfl) ?_
          refine lv_bipush (v := nI (6)) hx hb dL_acts_241 (by decide) ?_
          refine fa_callVip (As := [.int (nI (6))]) (rest := []) CX HX2000 (g_count l G n hn v r hC (nI (6))) ln_L_15 (by omega) rfl rfl rfl rfl (Nat.le_of_ble_eq_true rfl) hl.1 ⟨Nat.le_of_ble_eq_true rfl, Nat.le_of_ble_eq_true rfl⟩ ⟨Nat.le_refl _, Nat.le_refl _⟩ dL_acts_243 (fun x2002 H locs h2001 HX2003 => ?_)
          have h_count := h2001
          have e_243 : x2002 = A.g 12 := ((h_count A hV.1 hV.2.2.1).trans (fb_cntA_6 (by decide)))
          subst e_243
          refine lv_istore (lv' := [(10, .int (A.g 12)), (9, .int (A.F pp 5)), (0, .ref (fa_B G + (0))), (1, .int (nI (ac))), (2, .int (nI (fi))), (3, .int (nI (ho))), (4, .int (nI (kd)))]) hx hb dL_acts_246 hl (by decide) rfl (fun ls hl => ?_)
          refine lv_aload_n hx hb dL_acts_248 rfl (lv_at hl 2 rfl) ?_
          refine lv_iconst (v := nI (5)) hx hb dL_acts_249 (by decide) ?_
          refine fa_callVip (As := [.int (nI (5))]) (rest := []) CX HX2003 (g_count l G n hn v r hC (nI (5))) ln_L_15 (by omega) rfl rfl rfl rfl (Nat.le_of_ble_eq_true rfl) hl.1 ⟨Nat.le_of_ble_eq_true rfl, Nat.le_of_ble_eq_true rfl⟩ ⟨Nat.le_refl _, Nat.le_refl _⟩ dL_acts_250 (fun x2005 H locs h2004 HX2006 => ?_)
          have h_count := h2004
          have e_250 : x2005 = A.g 11 := ((h_count A hV.1 hV.2.2.1).trans (fb_cntA_5 (by decide)))
          subst e_250
          refine lv_istore (lv' := [(11, .int (A.g 11)), (10, .int (A.g 12)), (9, .int (A.F pp 5)), (0, .ref (fa_B G + (0))), (1, .int (nI (ac))), (2, .int (nI (fi))), (3, .int (nI (ho))), (4, .int (nI (kd)))]) hx hb dL_acts_253 hl (by decide) rfl (fun ls hl => ?_)
          refine lv_aload_n hx hb dL_acts_255 rfl (lv_at hl 3 rfl) ?_
          refine lv_iload_n hx hb dL_acts_256 rfl (lv_at hl 5 rfl) ?_
          refine fa_callVi (As := [.int (nI (fi))]) (rest := []) CX HX2006 (g_ask5 l G n hn v r hC (nI (fi))) ln_L_47 (by omega) rfl rfl rfl rfl (Nat.le_of_ble_eq_true rfl) hl.1 ⟨Nat.le_of_ble_eq_true rfl, Nat.le_of_ble_eq_true rfl⟩ ⟨Nat.le_refl _, Nat.le_refl _⟩ dL_acts_257 (fun x2008 v2009 r2010 H locs h2007 HX2011 => ?_)
          dsimp only at h2007
          have hC_v2009 := h2007.2.1
          have h_ask5 := h2007.1
          obtain ⟨hr58_257, hac_257⟩ := h_ask5
          obtain ⟨hx_257, hV_257⟩ := hac_257 _ _ hV
          rw [fb_askA_s (fc_askC hk.2.1 hfi (by omega)) ei] at hx_257 hV_257
          have hV_257 : fb_CV v2009 r2010 (fb_askp A pp) _ := hV_257
          have hI_257 : fb_inj r2010 57 := hi57.congr hr58_257
          have hk_257 := hk.askp (p := pp)
          have e_257 : x2008 = A.F pp 5 + nI 1 := hx_257
          subst e_257
          refine lv_istore (lv' := [(12, .int (A.F pp 5 + nI 1)), (11, .int (A.g 11)), (10, .int (A.g 12)), (9, .int (A.F pp 5)), (0, .ref (fa_B G + (0))), (1, .int (nI (ac))), (2, .int (nI (fi))), (3, .int (nI (ho))), (4, .int (nI (kd)))]) hx hb dL_acts_260 hl (by decide) rfl (fun ls hl => ?_)
          refine lv_aload_n hx hb dL_acts_262 rfl (lv_at hl 4 rfl) ?_
          refine lv_iconst (v := nI (1)) hx hb dL_acts_263 (by decide) ?_
          refine fa_callVip (As := [.int (nI (1))]) (rest := []) CX HX2011 (g_count l G n hn v2009 r2010 hC_v2009 (nI (1))) ln_L_15 (by omega) rfl rfl rfl rfl (Nat.le_of_ble_eq_true rfl) hl.1 ⟨Nat.le_of_ble_eq_true rfl, Nat.le_of_ble_eq_true rfl⟩ ⟨Nat.le_refl _, Nat.le_refl _⟩ dL_acts_264 (fun x2013 H locs h2012 HX2014 => ?_)
          have h_count := h2012
          have e_264 : x2013 = nI (cm) := (((h_count (fb_askp A pp) hV_257.1 hV_257.2.2.1).trans (fb_cntA_1 (by decide))).trans hk_257.2.1)
          subst e_264
          refine lv_if_ne (tgt := 284) hx hb dL_acts_267 (by decide) (fun c_267 => ?_) (fun c_267 => ?_)
          · refine lv_iload hx hb dL_acts_284 (lv_at hl 8 rfl) ?_
            refine lv_if_ge (tgt := 317) hx hb dL_acts_286 (by decide) (fun c_286 => ?_) (fun c_286 => ?_)
            · refine lv_iload hx hb dL_acts_317 (lv_at hl 0 rfl) ?_
              refine lv_iload hx hb dL_acts_319 (lv_at hl 3 rfl) ?_
              refine lv_iconst (v := nI (1)) hx hb dL_acts_321 (by decide) ?_
              refine lv_iadd hx hb dL_acts_322 ?_
              refine lv_icmp_ne (tgt := 355) hx hb dL_acts_323 (by decide) (fun c_323 => ?_) (fun c_323 => ?_)
              · exact absurd rfl c_323
              · refine lv_aload_n hx hb dL_acts_326 rfl (lv_at hl 4 rfl) ?_
                refine lv_iload_n hx hb dL_acts_327 rfl (lv_at hl 6 rfl) ?_
                refine lv_iconst (v := nI (3)) hx hb dL_acts_328 (by decide) ?_
                refine fa_callVip (As := [.int (nI (fi)), .int (nI (3))]) (rest := []) CX HX2014 (g_file l G n hn v2009 r2010 hC_v2009 (nI (fi)) (nI (3))) ln_L_9 (by omega) rfl rfl rfl rfl (Nat.le_of_ble_eq_true rfl) hl.1 ⟨Nat.le_of_ble_eq_true rfl, Nat.le_of_ble_eq_true rfl⟩ ⟨Nat.le_refl _, Nat.le_refl _⟩ dL_acts_329 (fun x2016 H locs h2015 HX2017 => ?_)
                have h_file := h2015
                have e_329 : x2016 = nI (dy) := ((((h_file (fb_askp A pp) hV_257.1 hV_257.2.2.1).trans (fc_filE hV_257.1 hpp (fc_askF0.trans ep))).trans (fb_filP_3 (by decide))).trans (by rw [fc_askF4, hk.1]; exact fc_m6N (by omega)))
                subst e_329
                refine lv_aload_n hx hb dL_acts_332 rfl (lv_at hl 4 rfl) ?_
                refine fa_callVip (As := []) (rest := [.int (nI (dy))]) CX HX2017 (g_now l G n hn v2009 r2010 hC_v2009 ) ln_L_31 (by omega) rfl rfl rfl rfl (Nat.le_of_ble_eq_true rfl) hl.1 ⟨Nat.le_of_ble_eq_true rfl, Nat.le_of_ble_eq_true rfl⟩ ⟨Nat.le_refl _, Nat.le_refl _⟩ dL_acts_333 (fun x2019 H locs h2018 HX2020 => ?_)
                have h_now := h2018
                have e_333 : x2019 = nI (dy) := ((h_now.trans hV_257.2.2.1.now).trans hk_257.1)
                subst e_333
                refine lv_icmp_ne (tgt := 355) hx hb dL_acts_336 (by decide) (fun c_336 => ?_) (fun c_336 => ?_)
                · exact absurd rfl c_336
                · refine lv_aload_n hx hb dL_acts_339 rfl (lv_at hl 4 rfl) ?_
                  refine lv_iconst (v := nI (5)) hx hb dL_acts_340 (by decide) ?_
                  refine fa_callVip (As := [.int (nI (5))]) (rest := []) CX HX2020 (g_count l G n hn v2009 r2010 hC_v2009 (nI (5))) ln_L_15 (by omega) rfl rfl rfl rfl (Nat.le_of_ble_eq_true rfl) hl.1 ⟨Nat.le_of_ble_eq_true rfl, Nat.le_of_ble_eq_true rfl⟩ ⟨Nat.le_refl _, Nat.le_refl _⟩ dL_acts_341 (fun x2022 H locs h2021 HX2023 => ?_)
                  have h_count := h2021
                  have e_341 : x2022 = (fb_askp A pp).g 11 := ((h_count (fb_askp A pp) hV_257.1 hV_257.2.2.1).trans (fb_cntA_5 (by decide)))
                  subst e_341
                  refine lv_iload hx hb dL_acts_344 (lv_at hl 1 rfl) ?_
                  refine lv_iconst (v := nI (1)) hx hb dL_acts_346 (by decide) ?_
                  refine lv_iadd hx hb dL_acts_347 ?_
                  refine lv_icmp_ne (tgt := 355) hx hb dL_acts_348 (by decide) (fun c_348 => ?_) (fun c_348 => ?_)
                  · exact absurd (show (fb_askp A pp).g 11 = (A.g 11) + (nI (1)) from fb_s1_s A.g 11 (A.g 11 + nI 1)) c_348
                  · refine lv_iconst (v := nI (1)) hx hb dL_acts_351 (by decide) ?_
                    refine lv_goto (tgt := 356) hx hb dL_acts_352 (by decide) ?_
                    exact RET _ _ _ _ _ _ _ HX2023 dL_acts_356 (by decide) (⟨⟨rfl, (fb_askp A pp), _, dy, cm, bu, hV_257, hk_257.more (Nat.le_refl _), ⟨by omega, by omega, by omega, by omega⟩, hI_257⟩, hC_v2009, (fa_fr.tr fa_fr.rf (fa_fr.wide h2007.2.2.1 (by omega) (by omega))), (fun k hk => ((h2007.2.2.2 k hk).trans rfl))⟩)
            · exact absurd (nI_pos' (n := kd) (by omega)) c_286
          · exact absurd (by first | exact c_267 | exact Decidable.not_not.mp c_267) (nI_ne0 (n := cm) (by omega) (by omega))
        by_cases c_42_0 : nI (ac % 12) = (0 : Int32)
        · refine lv_tableIn (off := 54) (tgt := 96) hx hb dL_acts_42 (by rw [c_42_0]; decide) (by rw [c_42_0]; decide) (by rw [c_42_0]; decide) (by decide) ?_
          exact JOIN_96   _ _ _ (trivial) (lv_sub hl [1, 2, 3, 4, 0] rfl) HX1956
        by_cases c_42_1 : nI (ac % 12) = (1 : Int32)
        · refine lv_tableIn (off := 54) (tgt := 96) hx hb dL_acts_42 (by rw [c_42_1]; decide) (by rw [c_42_1]; decide) (by rw [c_42_1]; decide) (by decide) ?_
          exact JOIN_96   _ _ _ (trivial) (lv_sub hl [1, 2, 3, 4, 0] rfl) HX1956
        by_cases c_42_2 : nI (ac % 12) = (2 : Int32)
        · refine lv_tableIn (off := 54) (tgt := 96) hx hb dL_acts_42 (by rw [c_42_2]; decide) (by rw [c_42_2]; decide) (by rw [c_42_2]; decide) (by decide) ?_
          exact JOIN_96   _ _ _ (trivial) (lv_sub hl [1, 2, 3, 4, 0] rfl) HX1956
        by_cases c_42_3 : nI (ac % 12) = (3 : Int32)
        · refine lv_tableIn (off := 190) (tgt := 232) hx hb dL_acts_42 (by rw [c_42_3]; decide) (by rw [c_42_3]; decide) (by rw [c_42_3]; decide) (by decide) ?_
          exact JOIN_232   _ _ _ (trivial) (lv_sub hl [1, 2, 3, 4, 0] rfl) HX1956
        by_cases c_42_4 : nI (ac % 12) = (4 : Int32)
        · refine lv_tableIn (off := 190) (tgt := 232) hx hb dL_acts_42 (by rw [c_42_4]; decide) (by rw [c_42_4]; decide) (by rw [c_42_4]; decide) (by decide) ?_
          exact JOIN_232   _ _ _ (trivial) (lv_sub hl [1, 2, 3, 4, 0] rfl) HX1956
        by_cases c_42_5 : nI (ac % 12) = (5 : Int32)
        · refine lv_tableIn (off := 315) (tgt := 357) hx hb dL_acts_42 (by rw [c_42_5]; decide) (by rw [c_42_5]; decide) (by rw [c_42_5]; decide) (by decide) ?_
          refine lv_iload_n hx hb dL_acts_357 rfl (lv_at hl 2 rfl) ?_
          refine lv_bipush (v := nI (12)) hx hb dL_acts_358 (by decide) ?_
          refine lv_ishr hx hb dL_acts_360 ?_
          rw [show (nI (ac)) >>> ((nI (12)) &&& 31) = nI (ac / 4096) from fc_shr (k := 12) (by omega) (by decide)]
          refine lv_iconst (v := nI (3)) hx hb dL_acts_361 (by decide) ?_
          refine lv_irem hx hb dL_acts_362 (by decide) ?_
          rw [show (nI (ac / 4096)) - (nI (ac / 4096)) / (nI (3)) * (nI (3)) = nI ((ac / 4096) % 3) from pk_rem (by omega) (by decide) (by omega)]
          have JOIN_385 : ∀ (la : Int32) (yy : Int32) (le : Nat) (H : Heap) (locs : List Loc) (ls : Array Slot), (fc_la dy la yy le) → lv_has ls 34 [(0, .ref (fa_B G + (0))), (1, .int (nI (ac))), (2, .int (nI (fi))), (3, .int (nI (ho))), (4, .int (nI (kd))), (13, .int (la))] → fa_HX G (n) v r s H locs → W p l e (fa_rm 8) s m args below meth c H locs (0) (0) Q (F0 m 385 ls []) := by
            intro la yy le H locs ls hi_385 hl HX2024
            refine lv_aload_n hx hb dL_acts_385 rfl (lv_at hl 0 rfl) ?_
            refine lv_iload_n hx hb dL_acts_386 rfl (lv_at hl 3 rfl) ?_
            refine lv_iload_n hx hb dL_acts_387 rfl (lv_at hl 2 rfl) ?_
            refine lv_iload hx hb dL_acts_388 (lv_at hl 5 rfl) ?_
            refine fa_callVi (As := [.int (nI (ho)), .int (nI (fi)), .int (la)]) (rest := []) CX HX2024 (g_seal5 l G n hn v r hC (nI (ho)) (nI (fi)) (la)) ln_L_50 (by omega) rfl rfl rfl rfl (Nat.le_of_ble_eq_true rfl) hl.1 ⟨Nat.le_of_ble_eq_true rfl, Nat.le_of_ble_eq_true rfl⟩ ⟨Nat.le_refl _, Nat.le_refl _⟩ dL_acts_390 (fun x2026 v2027 r2028 H locs h2025 HX2029 => ?_)
            dsimp only at h2025
            have hC_v2027 := h2025.2.1
            have h_seal5 := h2025.1
            obtain ⟨hr58_390, hac_390⟩ := h_seal5
            obtain ⟨hx_390, hV_390⟩ := hac_390 _ _ hV
            rw [fc_seal1 ei hi_30 hk.1 (by omega) hi_385] at hx_390 hV_390
            have hV_390 : fb_CV v2027 r2028 (A.sF pp (7 + ho) yy) _ := hV_390
            have hI_390 : fb_inj r2028 57 := hi57.congr hr58_390
            have hk_390 := hk.sFo (p := pp) (i := 7 + ho) (x := yy) (by omega)
            have e_390 : x2026 = fb_bits (fb_maskA (A.sF pp (7 + ho) yy) pp) := hx_390
            subst e_390
            refine lv_istore (lv' := [(14, .int (fb_bits (fb_maskA (A.sF pp (7 + ho) yy) pp))), (0, .ref (fa_B G + (0))), (1, .int (nI (ac))), (2, .int (nI (fi))), (3, .int (nI (ho))), (4, .int (nI (kd))), (13, .int (la))]) hx hb dL_acts_393 hl (by decide) rfl (fun ls hl => ?_)
            refine lv_iload hx hb dL_acts_395 (lv_at hl 5 rfl) ?_
            refine lv_if_ge (tgt := 414) hx hb dL_acts_397 (by decide) (fun c_397 => ?_) (fun c_397 => ?_)
            · refine lv_iload hx hb dL_acts_414 (lv_at hl 0 rfl) ?_
              refine lv_iconst (v := nI (1)) hx hb dL_acts_416 (by decide) ?_
              refine lv_icmp_lt (tgt := 468) hx hb dL_acts_417 (by decide) (fun c_417 => ?_) (fun c_417 => ?_)
              · exact absurd c_417 (fc_bits1 (c := fun h => decide ((A.sF pp (7 + ho) yy).g 7 < (A.sF pp (7 + ho) yy).F pp (7 + h))) hi_30 (fc_sealH hk.1 (by omega) hi_385))
              · refine lv_iload hx hb dL_acts_420 (lv_at hl 0 rfl) ?_
                refine lv_bipush (v := nI (8)) hx hb dL_acts_422 (by decide) ?_
                refine lv_icmp_gt (tgt := 468) hx hb dL_acts_424 (by decide) (fun c_424 => ?_) (fun c_424 => ?_)
                · exact absurd c_424 (fc_bits8 _)
                · refine lv_aload_n hx hb dL_acts_427 rfl (lv_at hl 1 rfl) ?_
                  refine lv_iload_n hx hb dL_acts_428 rfl (lv_at hl 4 rfl) ?_
                  refine lv_iload_n hx hb dL_acts_429 rfl (lv_at hl 3 rfl) ?_
                  refine fa_callVip (As := [.int (nI (ho)), .int (nI (fi))]) (rest := []) CX HX2029 (g_sealOf l G n hn v2027 r2028 hC_v2027 (nI (ho)) (nI (fi))) ln_L_28 (by omega) rfl rfl rfl rfl (Nat.le_of_ble_eq_true rfl) hl.1 ⟨Nat.le_of_ble_eq_true rfl, Nat.le_of_ble_eq_true rfl⟩ ⟨Nat.le_refl _, Nat.le_refl _⟩ dL_acts_430 (fun x2031 H locs h2030 HX2032 => ?_)
                  have h_sealOf := h2030
                  have e_430 : x2031 = nI (le) := ((h_sealOf (A.sF pp (7 + ho) yy) hV_390.1 hV_390.2.2.1).trans (fc_slo2 hV_390.1 hpp ep hi_30 hi_385))
                  subst e_430
                  refine lv_iload hx hb dL_acts_433 (lv_at hl 6 rfl) ?_
                  refine lv_if_ge (tgt := 444) hx hb dL_acts_435 (by decide) (fun c_435 => ?_) (fun c_435 => ?_)
                  · refine lv_iload hx hb dL_acts_444 (lv_at hl 6 rfl) ?_
                    refine lv_icmp_ne (tgt := 468) hx hb dL_acts_446 (by decide) (fun c_446 => ?_) (fun c_446 => ?_)
                    · exact absurd (fc_la_p hi_385 c_435).symm c_446
                    · refine lv_aload_n hx hb dL_acts_449 rfl (lv_at hl 1 rfl) ?_
                      refine lv_iload_n hx hb dL_acts_450 rfl (lv_at hl 3 rfl) ?_
                      refine lv_bipush (v := nI (7)) hx hb dL_acts_451 (by decide) ?_
                      refine fa_callVip (As := [.int (nI (fi)), .int (nI (7))]) (rest := []) CX HX2032 (g_file l G n hn v2027 r2028 hC_v2027 (nI (fi)) (nI (7))) ln_L_9 (by omega) rfl rfl rfl rfl (Nat.le_of_ble_eq_true rfl) hl.1 ⟨Nat.le_of_ble_eq_true rfl, Nat.le_of_ble_eq_true rfl⟩ ⟨Nat.le_refl _, Nat.le_refl _⟩ dL_acts_453 (fun x2034 H locs h2033 HX2035 => ?_)
                      have h_file := h2033
                      have e_453 : x2034 = fb_maskA (A.sF pp (7 + ho) yy) pp := (((h_file (A.sF pp (7 + ho) yy) hV_390.1 hV_390.2.2.1).trans (fc_filE hV_390.1 hpp ((fc_sF0 (by omega)).trans ep))).trans (fb_filP_7 (by decide)))
                      subst e_453
                      refine lv_iload_n hx hb dL_acts_456 rfl (lv_at hl 4 rfl) ?_
                      refine lv_ishr hx hb dL_acts_457 ?_
                      refine lv_iconst (v := nI (1)) hx hb dL_acts_458 (by decide) ?_
                      refine lv_iand hx hb dL_acts_459 ?_
                      refine lv_iconst (v := nI (1)) hx hb dL_acts_460 (by decide) ?_
                      refine lv_icmp_ne (tgt := 468) hx hb dL_acts_461 (by decide) (fun c_461 => ?_) (fun c_461 => ?_)
                      · exact absurd (fc_bitk (c := fun h => decide ((A.sF pp (7 + ho) yy).g 7 < (A.sF pp (7 + ho) yy).F pp (7 + h))) hi_30 (fc_sealH hk.1 (by omega) hi_385)) c_461
                      · refine lv_iconst (v := nI (1)) hx hb dL_acts_464 (by decide) ?_
                        refine lv_goto (tgt := 469) hx hb dL_acts_465 (by decide) ?_
                        exact RET _ _ _ _ _ _ _ HX2035 dL_acts_469 (by decide) (⟨⟨rfl, (A.sF pp (7 + ho) yy), _, dy, cm, bu, hV_390, hk_390.more (Nat.le_succ _), ⟨by omega, by omega, by omega, by omega⟩, hI_390⟩, hC_v2027, (fa_fr.tr fa_fr.rf (fa_fr.wide h2025.2.2.1 (by omega) (by omega))), (fun k hk => ((h2025.2.2.2 k hk).trans rfl))⟩)
                  · refine lv_sipush (v := nI (10000)) hx hb dL_acts_438 (by decide) ?_
                    refine lv_goto (tgt := 446) hx hb dL_acts_441 (by decide) ?_
                    refine lv_icmp_ne (tgt := 468) hx hb dL_acts_446 (by decide) (fun c_446 => ?_) (fun c_446 => ?_)
                    · exact absurd (congrArg nI (fc_la_n hi_385 c_435)) c_446
                    · refine lv_aload_n hx hb dL_acts_449 rfl (lv_at hl 1 rfl) ?_
                      refine lv_iload_n hx hb dL_acts_450 rfl (lv_at hl 3 rfl) ?_
                      refine lv_bipush (v := nI (7)) hx hb dL_acts_451 (by decide) ?_
                      refine fa_callVip (As := [.int (nI (fi)), .int (nI (7))]) (rest := []) CX HX2032 (g_file l G n hn v2027 r2028 hC_v2027 (nI (fi)) (nI (7))) ln_L_9 (by omega) rfl rfl rfl rfl (Nat.le_of_ble_eq_true rfl) hl.1 ⟨Nat.le_of_ble_eq_true rfl, Nat.le_of_ble_eq_true rfl⟩ ⟨Nat.le_refl _, Nat.le_refl _⟩ dL_acts_453 (fun x2037 H locs h2036 HX2038 => ?_)
                      have h_file := h2036
                      have e_453 : x2037 = fb_maskA (A.sF pp (7 + ho) yy) pp := (((h_file (A.sF pp (7 + ho) yy) hV_390.1 hV_390.2.2.1).trans (fc_filE hV_390.1 hpp ((fc_sF0 (by omega)).trans ep))).trans (fb_filP_7 (by decide)))
                      subst e_453
                      refine lv_iload_n hx hb dL_acts_456 rfl (lv_at hl 4 rfl) ?_
                      refine lv_ishr hx hb dL_acts_457 ?_
                      refine lv_iconst (v := nI (1)) hx hb dL_acts_458 (by decide) ?_
                      refine lv_iand hx hb dL_acts_459 ?_
                      refine lv_iconst (v := nI (1)) hx hb dL_acts_460 (by decide) ?_
                      refine lv_icmp_ne (tgt := 468) hx hb dL_acts_461 (by decide) (fun c_461 => ?_) (fun c_461 => ?_)
                      · exact absurd (fc_bitk (c := fun h => decide ((A.sF pp (7 + ho) yy).g 7 < (A.sF pp (7 + ho) yy).F pp (7 + h))) hi_30 (fc_sealH hk.1 (by omega) hi_385)) c_461
                      · refine lv_iconst (v := nI (1)) hx hb dL_acts_464 (by decide) ?_
                        refine lv_goto (tgt := 469) hx hb dL_acts_465 (by decide) ?_
                        exact RET _ _ _ _ _ _ _ HX2038 dL_acts_469 (by decide) (⟨⟨rfl, (A.sF pp (7 + ho) yy), _, dy, cm, bu, hV_390, hk_390.more (Nat.le_succ _), ⟨by omega, by omega, by omega, by omega⟩, hI_390⟩, hC_v2027, (fa_fr.tr fa_fr.rf (fa_fr.wide h2025.2.2.1 (by omega) (by omega))), (fun k hk => ((h2025.2.2.2 k hk).trans rfl))⟩)
            · exact absurd (nI_pos' (n := kd) (by omega)) c_397
          refine lv_if_ne (tgt := 370) hx hb dL_acts_363 (by decide) (fun c_363 => ?_) (fun c_363 => ?_)
          · refine lv_aload_n hx hb dL_acts_370 rfl (lv_at hl 1 rfl) ?_
            refine fa_callVip (As := []) (rest := []) CX HX1956 (g_now l G n hn v r hC ) ln_L_31 (by omega) rfl rfl rfl rfl (Nat.le_of_ble_eq_true rfl) hl.1 ⟨Nat.le_of_ble_eq_true rfl, Nat.le_of_ble_eq_true rfl⟩ ⟨Nat.le_refl _, Nat.le_refl _⟩ dL_acts_371 (fun x2040 H locs h2039 HX2041 => ?_)
            have h_now := h2039
            have e_371 : x2040 = nI (dy) := ((h_now.trans hV.2.2.1.now).trans hk.1)
            subst e_371
            refine lv_iload_n hx hb dL_acts_374 rfl (lv_at hl 2 rfl) ?_
            refine lv_bipush (v := nI (12)) hx hb dL_acts_375 (by decide) ?_
            refine lv_ishr hx hb dL_acts_377 ?_
            rw [show (nI (ac)) >>> ((nI (12)) &&& 31) = nI (ac / 4096) from fc_shr (k := 12) (by omega) (by decide)]
            refine lv_sipush (v := nI (300)) hx hb dL_acts_378 (by decide) ?_
            refine lv_irem hx hb dL_acts_381 (by decide) ?_
            rw [show (nI (ac / 4096)) - (nI (ac / 4096)) / (nI (300)) * (nI (300)) = nI ((ac / 4096) % 300) from pk_rem (by omega) (by decide) (by omega)]
            refine fa_iaddN hx hb dL_acts_382 ?_
            refine lv_istore (lv' := [(13, .int (nI (dy + ((ac / 4096) % 300)))), (4, .int (nI (kd))), (0, .ref (fa_B G + (0))), (1, .int (nI (ac))), (2, .int (nI (fi))), (3, .int (nI (ho)))]) hx hb dL_acts_383 hl (by decide) rfl (fun ls hl => ?_)
            exact JOIN_385 (nI (dy + ((ac / 4096) % 300))) (nI (dy + ((ac / 4096) % 300) + 1)) (dy + ((ac / 4096) % 300))  _ _ _ (⟨rfl, Or.inr ⟨rfl, by omega, by omega⟩⟩) (lv_sub hl [2, 3, 4, 5, 1, 0] rfl) HX2041
          · refine lv_iconst (v := (-1 : Int32)) hx hb dL_acts_366 (by decide) ?_
            refine lv_goto (tgt := 383) hx hb dL_acts_367 (by decide) ?_
            refine lv_istore (lv' := [(13, .int ((-1 : Int32))), (4, .int (nI (kd))), (0, .ref (fa_B G + (0))), (1, .int (nI (ac))), (2, .int (nI (fi))), (3, .int (nI (ho)))]) hx hb dL_acts_383 hl (by decide) rfl (fun ls hl => ?_)
            exact JOIN_385 ((-1 : Int32)) (nI 10001) (10000)  _ _ _ (⟨rfl, Or.inl ⟨rfl, rfl⟩⟩) (lv_sub hl [2, 3, 4, 5, 1, 0] rfl) HX1956
        by_cases c_42_6 : nI (ac % 12) = (6 : Int32)
        · refine lv_tableIn (off := 428) (tgt := 470) hx hb dL_acts_42 (by rw [c_42_6]; decide) (by rw [c_42_6]; decide) (by rw [c_42_6]; decide) (by decide) ?_
          by_cases h0 : A.F pp (7 + ho) = 0
          · have hz0 := h0
            refine lv_aload_n hx hb dL_acts_470 rfl (lv_at hl 1 rfl) ?_
            refine lv_iload_n hx hb dL_acts_471 rfl (lv_at hl 4 rfl) ?_
            refine lv_iload_n hx hb dL_acts_472 rfl (lv_at hl 3 rfl) ?_
            refine fa_callVip (As := [.int (nI (ho)), .int (nI (fi))]) (rest := []) CX HX1956 (g_sealOf l G n hn v r hC (nI (ho)) (nI (fi))) ln_L_28 (by omega) rfl rfl rfl rfl (Nat.le_of_ble_eq_true rfl) hl.1 ⟨Nat.le_of_ble_eq_true rfl, Nat.le_of_ble_eq_true rfl⟩ ⟨Nat.le_refl _, Nat.le_refl _⟩ dL_acts_473 (fun x2043 H locs h2042 HX2044 => ?_)
            have h_sealOf := h2042
            have e_473 : x2043 = (-6 : Int32) := ((h_sealOf A hV.1 hV.2.2.1).trans ((fc_slo1 ei hi_30).trans (if_pos h0)))
            subst e_473
            refine lv_istore (lv' := [(15, .int ((-6 : Int32))), (4, .int (nI (kd))), (0, .ref (fa_B G + (0))), (1, .int (nI (ac))), (2, .int (nI (fi))), (3, .int (nI (ho)))]) hx hb dL_acts_476 hl (by decide) rfl (fun ls hl => ?_)
            refine lv_aload_n hx hb dL_acts_478 rfl (lv_at hl 2 rfl) ?_
            refine lv_iload_n hx hb dL_acts_479 rfl (lv_at hl 5 rfl) ?_
            refine lv_iload_n hx hb dL_acts_480 rfl (lv_at hl 4 rfl) ?_
            refine fa_callVi (As := [.int (nI (ho)), .int (nI (fi))]) (rest := []) CX HX2044 (g_lift5 l G n hn v r hC (nI (ho)) (nI (fi))) ln_L_54 (by omega) rfl rfl rfl rfl (Nat.le_of_ble_eq_true rfl) hl.1 ⟨Nat.le_of_ble_eq_true rfl, Nat.le_of_ble_eq_true rfl⟩ ⟨Nat.le_refl _, Nat.le_refl _⟩ dL_acts_481 (fun x2046 v2047 r2048 H locs h2045 HX2049 => ?_)
            dsimp only at h2045
            have hC_v2047 := h2045.2.1
            have h_lift5 := h2045.1
            obtain ⟨hr58_481, hac_481⟩ := h_lift5
            obtain ⟨hx_481, hV_481⟩ := hac_481 _ _ hV
            rw [fc_lift0 ei hi_30 h0] at hx_481 hV_481
            have hV_481 : fb_CV v2047 r2048 A _ := hV_481
            have hI_481 : fb_inj r2048 57 := hi57.congr hr58_481
            have hk_481 := hk
            have e_481 : x2046 = (-1 : Int32) := hx_481
            subst e_481
            refine lv_istore (lv' := [(16, .int ((-1 : Int32))), (15, .int ((-6 : Int32))), (4, .int (nI (kd))), (0, .ref (fa_B G + (0))), (1, .int (nI (ac))), (2, .int (nI (fi))), (3, .int (nI (ho)))]) hx hb dL_acts_484 hl (by decide) rfl (fun ls hl => ?_)
            refine lv_iload hx hb dL_acts_486 (lv_at hl 1 rfl) ?_
            refine lv_if_ge (tgt := 505) hx hb dL_acts_488 (by decide) (fun c_488 => ?_) (fun c_488 => ?_)
            · exact absurd c_488 (by try decide)
            · refine lv_iload hx hb dL_acts_491 (lv_at hl 0 rfl) ?_
              refine lv_iconst (v := (-1 : Int32)) hx hb dL_acts_493 (by decide) ?_
              refine lv_icmp_ne (tgt := 501) hx hb dL_acts_494 (by decide) (fun c_494 => ?_) (fun c_494 => ?_)
              · exact absurd (by try decide) c_494
              · refine lv_iconst (v := nI (1)) hx hb dL_acts_497 (by decide) ?_
                refine lv_goto (tgt := 526) hx hb dL_acts_498 (by decide) ?_
                exact RET _ _ _ _ _ _ _ HX2049 dL_acts_526 (by decide) (⟨⟨rfl, A, _, dy, cm, bu, hV_481, hk_481.more (Nat.le_succ _), ⟨by omega, by omega, by omega, by omega⟩, hI_481⟩, hC_v2047, (fa_fr.tr fa_fr.rf (fa_fr.wide h2045.2.2.1 (by omega) (by omega))), (fun k hk => ((h2045.2.2.2 k hk).trans rfl))⟩)
          · have hz0 := h0
            refine lv_aload_n hx hb dL_acts_470 rfl (lv_at hl 1 rfl) ?_
            refine lv_iload_n hx hb dL_acts_471 rfl (lv_at hl 4 rfl) ?_
            refine lv_iload_n hx hb dL_acts_472 rfl (lv_at hl 3 rfl) ?_
            refine fa_callVip (As := [.int (nI (ho)), .int (nI (fi))]) (rest := []) CX HX1956 (g_sealOf l G n hn v r hC (nI (ho)) (nI (fi))) ln_L_28 (by omega) rfl rfl rfl rfl (Nat.le_of_ble_eq_true rfl) hl.1 ⟨Nat.le_of_ble_eq_true rfl, Nat.le_of_ble_eq_true rfl⟩ ⟨Nat.le_refl _, Nat.le_refl _⟩ dL_acts_473 (fun x2051 H locs h2050 HX2052 => ?_)
            have h_sealOf := h2050
            have e_473 : x2051 = A.F pp (7 + ho) - 1 := ((h_sealOf A hV.1 hV.2.2.1).trans ((fc_slo1 ei hi_30).trans (if_neg h0)))
            subst e_473
            refine lv_istore (lv' := [(15, .int (A.F pp (7 + ho) - 1)), (4, .int (nI (kd))), (0, .ref (fa_B G + (0))), (1, .int (nI (ac))), (2, .int (nI (fi))), (3, .int (nI (ho)))]) hx hb dL_acts_476 hl (by decide) rfl (fun ls hl => ?_)
            refine lv_aload_n hx hb dL_acts_478 rfl (lv_at hl 2 rfl) ?_
            refine lv_iload_n hx hb dL_acts_479 rfl (lv_at hl 5 rfl) ?_
            refine lv_iload_n hx hb dL_acts_480 rfl (lv_at hl 4 rfl) ?_
            refine fa_callVi (As := [.int (nI (ho)), .int (nI (fi))]) (rest := []) CX HX2052 (g_lift5 l G n hn v r hC (nI (ho)) (nI (fi))) ln_L_54 (by omega) rfl rfl rfl rfl (Nat.le_of_ble_eq_true rfl) hl.1 ⟨Nat.le_of_ble_eq_true rfl, Nat.le_of_ble_eq_true rfl⟩ ⟨Nat.le_refl _, Nat.le_refl _⟩ dL_acts_481 (fun x2054 v2055 r2056 H locs h2053 HX2057 => ?_)
            dsimp only at h2053
            have hC_v2055 := h2053.2.1
            have h_lift5 := h2053.1
            obtain ⟨hr58_481, hac_481⟩ := h_lift5
            obtain ⟨hx_481, hV_481⟩ := hac_481 _ _ hV
            rw [fc_lift1 ei hi_30 h0] at hx_481 hV_481
            have hV_481 : fb_CV v2055 r2056 (A.sF pp (7 + ho) 0) _ := hV_481
            have hI_481 : fb_inj r2056 57 := hi57.congr hr58_481
            have hk_481 := hk.sFo (p := pp) (i := 7 + ho) (x := 0) (by omega)
            have e_481 : x2054 = fb_bits (fb_maskA (A.sF pp (7 + ho) 0) pp) := hx_481
            subst e_481
            refine lv_istore (lv' := [(16, .int (fb_bits (fb_maskA (A.sF pp (7 + ho) 0) pp))), (15, .int (A.F pp (7 + ho) - 1)), (4, .int (nI (kd))), (0, .ref (fa_B G + (0))), (1, .int (nI (ac))), (2, .int (nI (fi))), (3, .int (nI (ho)))]) hx hb dL_acts_484 hl (by decide) rfl (fun ls hl => ?_)
            refine lv_iload hx hb dL_acts_486 (lv_at hl 1 rfl) ?_
            refine lv_if_ge (tgt := 505) hx hb dL_acts_488 (by decide) (fun c_488 => ?_) (fun c_488 => ?_)
            · refine lv_iload hx hb dL_acts_505 (lv_at hl 0 rfl) ?_
              refine lv_if_lt (tgt := 525) hx hb dL_acts_507 (by decide) (fun c_507 => ?_) (fun c_507 => ?_)
              · exact absurd c_507 (fc_bits0 _)
              · refine lv_aload_n hx hb dL_acts_510 rfl (lv_at hl 3 rfl) ?_
                refine lv_iload_n hx hb dL_acts_511 rfl (lv_at hl 6 rfl) ?_
                refine lv_iload_n hx hb dL_acts_512 rfl (lv_at hl 5 rfl) ?_
                refine fa_callVip (As := [.int (nI (ho)), .int (nI (fi))]) (rest := []) CX HX2057 (g_sealOf l G n hn v2055 r2056 hC_v2055 (nI (ho)) (nI (fi))) ln_L_28 (by omega) rfl rfl rfl rfl (Nat.le_of_ble_eq_true rfl) hl.1 ⟨Nat.le_of_ble_eq_true rfl, Nat.le_of_ble_eq_true rfl⟩ ⟨Nat.le_refl _, Nat.le_refl _⟩ dL_acts_513 (fun x2059 H locs h2058 HX2060 => ?_)
                have h_sealOf := h2058
                have e_513 : x2059 = (-6 : Int32) := ((h_sealOf (A.sF pp (7 + ho) 0) hV_481.1 hV_481.2.2.1).trans ((fc_slo1 (fc_ixS hV_481.1 hpp ep (by omega)) hi_30).trans (if_pos fc_sealF)))
                subst e_513
                refine lv_bipush (v := (-6 : Int32)) hx hb dL_acts_516 (by decide) ?_
                refine lv_icmp_ne (tgt := 525) hx hb dL_acts_518 (by decide) (fun c_518 => ?_) (fun c_518 => ?_)
                · exact absurd (by try decide) c_518
                · refine lv_iconst (v := nI (1)) hx hb dL_acts_521 (by decide) ?_
                  refine lv_goto (tgt := 526) hx hb dL_acts_522 (by decide) ?_
                  exact RET _ _ _ _ _ _ _ HX2060 dL_acts_526 (by decide) (⟨⟨rfl, (A.sF pp (7 + ho) 0), _, dy, cm, bu, hV_481, hk_481.more (Nat.le_succ _), ⟨by omega, by omega, by omega, by omega⟩, hI_481⟩, hC_v2055, (fa_fr.tr fa_fr.rf (fa_fr.wide h2053.2.2.1 (by omega) (by omega))), (fun k hk => ((h2053.2.2.2 k hk).trans rfl))⟩)
            · exact absurd (Int32.not_lt.mp (fc_slo_pos hok hpp hi_30 h0)) c_488
        by_cases c_42_7 : nI (ac % 12) = (7 : Int32)
        · refine lv_tableIn (off := 485) (tgt := 527) hx hb dL_acts_42 (by rw [c_42_7]; decide) (by rw [c_42_7]; decide) (by rw [c_42_7]; decide) (by decide) ?_
          refine lv_aload_n hx hb dL_acts_527 rfl (lv_at hl 1 rfl) ?_
          refine lv_iconst (v := nI (1)) hx hb dL_acts_528 (by decide) ?_
          refine fa_callVip (As := [.int (nI (1))]) (rest := []) CX HX1956 (g_count l G n hn v r hC (nI (1))) ln_L_15 (by omega) rfl rfl rfl rfl (Nat.le_of_ble_eq_true rfl) hl.1 ⟨Nat.le_of_ble_eq_true rfl, Nat.le_of_ble_eq_true rfl⟩ ⟨Nat.le_refl _, Nat.le_refl _⟩ dL_acts_529 (fun x2062 H locs h2061 HX2063 => ?_)
          have h_count := h2061
          have e_529 : x2062 = nI (cm) := (((h_count A hV.1 hV.2.2.1).trans (fb_cntA_1 (by decide))).trans hk.2.1)
          subst e_529
          have JOIN_551 : ∀ (ta : Nat) (H : Heap) (locs : List Loc) (ls : Array Slot), (ta < cm ∨ (cm = 0 ∧ ta = 0)) → lv_has ls 34 [(0, .ref (fa_B G + (0))), (1, .int (nI (ac))), (2, .int (nI (fi))), (3, .int (nI (ho))), (4, .int (nI (kd))), (17, .int (nI (ta)))] → fa_HX G (n) v r s H locs → W p l e (fa_rm 8) s m args below meth c H locs (0) (0) Q (F0 m 551 ls []) := by
            intro ta H locs ls hi_551 hl HX2064
            rcases fc_split (A := A) (nI ta) with hnt | ⟨tp, htp, etp⟩
            · have hnt2 := hnt
              refine lv_iload hx hb dL_acts_551 (lv_at hl 4 rfl) ?_
              refine lv_if_lt (tgt := 570) hx hb dL_acts_553 (by decide) (fun c_553 => ?_) (fun c_553 => ?_)
              · exact absurd c_553 (nI_pos (n := kd) (by omega))
              · refine lv_aload_n hx hb dL_acts_556 rfl (lv_at hl 0 rfl) ?_
                refine lv_iload hx hb dL_acts_557 (lv_at hl 5 rfl) ?_
                refine lv_iconst (v := nI (0)) hx hb dL_acts_559 (by decide) ?_
                refine fa_callVip (As := [.int (nI (ta)), .int (nI (0))]) (rest := []) CX HX2064 (g_file l G n hn v r hC (nI (ta)) (nI (0))) ln_L_9 (by omega) rfl rfl rfl rfl (Nat.le_of_ble_eq_true rfl) hl.1 ⟨Nat.le_of_ble_eq_true rfl, Nat.le_of_ble_eq_true rfl⟩ ⟨Nat.le_refl _, Nat.le_refl _⟩ dL_acts_560 (fun x2066 H locs h2065 HX2067 => ?_)
                have h_file := h2065
                have e_560 : x2066 = (-1 : Int32) := ((h_file A hV.1 hV.2.2.1).trans (fb_filA_n hnt))
                subst e_560
                refine lv_if_lt (tgt := 570) hx hb dL_acts_563 (by decide) (fun c_563 => ?_) (fun c_563 => ?_)
                · refine lv_iconst (v := nI (0)) hx hb dL_acts_570 (by decide) ?_
                  refine lv_istore (lv' := [(18, .int (nI (0))), (0, .ref (fa_B G + (0))), (1, .int (nI (ac))), (2, .int (nI (fi))), (3, .int (nI (ho))), (4, .int (nI (kd))), (17, .int (nI (ta)))]) hx hb dL_acts_571 hl (by decide) rfl (fun ls hl => ?_)
                  refine lv_aload_n hx hb dL_acts_573 rfl (lv_at hl 1 rfl) ?_
                  refine lv_iload_n hx hb dL_acts_574 rfl (lv_at hl 3 rfl) ?_
                  refine lv_iload hx hb dL_acts_575 (lv_at hl 6 rfl) ?_
                  refine fa_callVi (As := [.int (nI (fi)), .int (nI (ta))]) (rest := []) CX HX2067 (g_refer5 l G n hn v r hC (nI (fi)) (nI (ta))) ln_L_57 (by omega) rfl rfl rfl rfl (Nat.le_of_ble_eq_true rfl) hl.1 ⟨Nat.le_of_ble_eq_true rfl, Nat.le_of_ble_eq_true rfl⟩ ⟨Nat.le_refl _, Nat.le_refl _⟩ dL_acts_577 (fun x2069 v2070 r2071 H locs h2068 HX2072 => ?_)
                  dsimp only at h2068
                  have hC_v2070 := h2068.2.1
                  have h_refer5 := h2068.1
                  obtain ⟨hr58_577, hac_577⟩ := h_refer5
                  obtain ⟨hx_577, hV_577⟩ := hac_577 _ _ hV
                  rw [fb_refA_m ei hnt] at hx_577 hV_577
                  have hV_577 : fb_CV v2070 r2071 A _ := hV_577
                  have hI_577 : fb_inj r2071 57 := hi57.congr hr58_577
                  have hk_577 := hk
                  have e_577 : x2069 = (-1 : Int32) := hx_577
                  subst e_577
                  refine lv_istore (lv' := [(19, .int ((-1 : Int32))), (18, .int (nI (0))), (0, .ref (fa_B G + (0))), (1, .int (nI (ac))), (2, .int (nI (fi))), (3, .int (nI (ho))), (4, .int (nI (kd))), (17, .int (nI (ta)))]) hx hb dL_acts_580 hl (by decide) rfl (fun ls hl => ?_)
                  refine lv_iload hx hb dL_acts_582 (lv_at hl 1 rfl) ?_
                  refine lv_if_eq (tgt := 619) hx hb dL_acts_584 (by decide) (fun c_584 => ?_) (fun c_584 => ?_)
                  · refine lv_iload hx hb dL_acts_619 (lv_at hl 0 rfl) ?_
                    refine lv_iconst (v := (-1 : Int32)) hx hb dL_acts_621 (by decide) ?_
                    refine lv_icmp_ne (tgt := 629) hx hb dL_acts_622 (by decide) (fun c_622 => ?_) (fun c_622 => ?_)
                    · exact absurd (by try decide) c_622
                    · refine lv_iconst (v := nI (1)) hx hb dL_acts_625 (by decide) ?_
                      refine lv_goto (tgt := 630) hx hb dL_acts_626 (by decide) ?_
                      exact RET _ _ _ _ _ _ _ HX2072 dL_acts_630 (by decide) (⟨⟨rfl, A, _, dy, cm, bu, hV_577, hk_577.more (Nat.le_succ _), ⟨by omega, by omega, by omega, by omega⟩, hI_577⟩, hC_v2070, (fa_fr.tr fa_fr.rf (fa_fr.wide h2068.2.2.1 (by omega) (by omega))), (fun k hk => ((h2068.2.2.2 k hk).trans rfl))⟩)
                  · exact absurd (by try decide) c_584
                · exact absurd (by try decide) c_563
            · have eti := fc_ixE hok htp etp
              obtain ⟨kt, hkt, ekt⟩ := (hok.1.2.2.2.2.2 tp htp).1
              refine lv_iload hx hb dL_acts_551 (lv_at hl 4 rfl) ?_
              refine lv_if_lt (tgt := 570) hx hb dL_acts_553 (by decide) (fun c_553 => ?_) (fun c_553 => ?_)
              · exact absurd c_553 (nI_pos (n := kd) (by omega))
              · refine lv_aload_n hx hb dL_acts_556 rfl (lv_at hl 0 rfl) ?_
                refine lv_iload hx hb dL_acts_557 (lv_at hl 5 rfl) ?_
                refine lv_iconst (v := nI (0)) hx hb dL_acts_559 (by decide) ?_
                refine fa_callVip (As := [.int (nI (ta)), .int (nI (0))]) (rest := []) CX HX2064 (g_file l G n hn v r hC (nI (ta)) (nI (0))) ln_L_9 (by omega) rfl rfl rfl rfl (Nat.le_of_ble_eq_true rfl) hl.1 ⟨Nat.le_of_ble_eq_true rfl, Nat.le_of_ble_eq_true rfl⟩ ⟨Nat.le_refl _, Nat.le_refl _⟩ dL_acts_560 (fun x2074 H locs h2073 HX2075 => ?_)
                have h_file := h2073
                have e_560 : x2074 = nI (kt) := ((((h_file A hV.1 hV.2.2.1).trans (fc_filE hV.1 htp etp)).trans (fb_filP_0 (by decide))).trans ekt)
                subst e_560
                refine lv_if_lt (tgt := 570) hx hb dL_acts_563 (by decide) (fun c_563 => ?_) (fun c_563 => ?_)
                · exact absurd c_563 (nI_pos (n := kt) (by omega))
                · refine lv_iconst (v := nI (1)) hx hb dL_acts_566 (by decide) ?_
                  refine lv_goto (tgt := 571) hx hb dL_acts_567 (by decide) ?_
                  refine lv_istore (lv' := [(18, .int (nI (1))), (0, .ref (fa_B G + (0))), (1, .int (nI (ac))), (2, .int (nI (fi))), (3, .int (nI (ho))), (4, .int (nI (kd))), (17, .int (nI (ta)))]) hx hb dL_acts_571 hl (by decide) rfl (fun ls hl => ?_)
                  refine lv_aload_n hx hb dL_acts_573 rfl (lv_at hl 1 rfl) ?_
                  refine lv_iload_n hx hb dL_acts_574 rfl (lv_at hl 3 rfl) ?_
                  refine lv_iload hx hb dL_acts_575 (lv_at hl 6 rfl) ?_
                  refine fa_callVi (As := [.int (nI (fi)), .int (nI (ta))]) (rest := []) CX HX2075 (g_refer5 l G n hn v r hC (nI (fi)) (nI (ta))) ln_L_57 (by omega) rfl rfl rfl rfl (Nat.le_of_ble_eq_true rfl) hl.1 ⟨Nat.le_of_ble_eq_true rfl, Nat.le_of_ble_eq_true rfl⟩ ⟨Nat.le_refl _, Nat.le_refl _⟩ dL_acts_577 (fun x2077 v2078 r2079 H locs h2076 HX2080 => ?_)
                  dsimp only at h2076
                  have hC_v2078 := h2076.2.1
                  have h_refer5 := h2076.1
                  obtain ⟨hr58_577, hac_577⟩ := h_refer5
                  obtain ⟨hx_577, hV_577⟩ := hac_577 _ _ hV
                  rw [fb_refA_s ei eti] at hx_577 hV_577
                  have hV_577 : fb_CV v2078 r2079 (A.sF pp 6 (nI (ta))) _ := hV_577
                  have hI_577 : fb_inj r2079 57 := hi57.congr hr58_577
                  have hk_577 := hk.sFo (p := pp) (i := 6) (x := nI (ta)) (by decide)
                  have e_577 : x2077 = fb_refs (A.sF pp 6 (nI (ta))) (nI (ta)) := hx_577
                  subst e_577
                  refine lv_istore (lv' := [(19, .int (fb_refs (A.sF pp 6 (nI (ta))) (nI (ta)))), (18, .int (nI (1))), (0, .ref (fa_B G + (0))), (1, .int (nI (ac))), (2, .int (nI (fi))), (3, .int (nI (ho))), (4, .int (nI (kd))), (17, .int (nI (ta)))]) hx hb dL_acts_580 hl (by decide) rfl (fun ls hl => ?_)
                  refine lv_iload hx hb dL_acts_582 (lv_at hl 1 rfl) ?_
                  refine lv_if_eq (tgt := 619) hx hb dL_acts_584 (by decide) (fun c_584 => ?_) (fun c_584 => ?_)
                  · exact absurd c_584 (by try decide)
                  · refine lv_iload hx hb dL_acts_587 (lv_at hl 0 rfl) ?_
                    refine lv_aload_n hx hb dL_acts_589 rfl (lv_at hl 2 rfl) ?_
                    refine lv_iload hx hb dL_acts_590 (lv_at hl 7 rfl) ?_
                    refine lv_bipush (v := nI (8)) hx hb dL_acts_592 (by decide) ?_
                    refine fa_callVip (As := [.int (nI (ta)), .int (nI (8))]) (rest := [.int (fb_refs (A.sF pp 6 (nI (ta))) (nI (ta)))]) CX HX2080 (g_file l G n hn v2078 r2079 hC_v2078 (nI (ta)) (nI (8))) ln_L_9 (by omega) rfl rfl rfl rfl (Nat.le_of_ble_eq_true rfl) hl.1 ⟨Nat.le_of_ble_eq_true rfl, Nat.le_of_ble_eq_true rfl⟩ ⟨Nat.le_refl _, Nat.le_refl _⟩ dL_acts_594 (fun x2082 H locs h2081 HX2083 => ?_)
                    have h_file := h2081
                    have e_594 : x2082 = fb_refs (A.sF pp 6 (nI (ta))) (nI (ta)) := ((((h_file (A.sF pp 6 (nI (ta))) hV_577.1 hV_577.2.2.1).trans (fc_filE hV_577.1 htp ((fc_sF0 (by decide)).trans etp))).trans (fb_filP_8 (by decide))).trans (by rw [show (A.sF pp 6 (nI (ta))).F tp 0 = nI ta from ((fc_sF0 (by decide)).trans etp)]))
                    subst e_594
                    refine lv_icmp_ne (tgt := 615) hx hb dL_acts_597 (by decide) (fun c_597 => ?_) (fun c_597 => ?_)
                    · exact absurd rfl c_597
                    · refine lv_aload_n hx hb dL_acts_600 rfl (lv_at hl 2 rfl) ?_
                      refine lv_iload_n hx hb dL_acts_601 rfl (lv_at hl 4 rfl) ?_
                      refine lv_iconst (v := nI (5)) hx hb dL_acts_602 (by decide) ?_
                      refine fa_callVip (As := [.int (nI (fi)), .int (nI (5))]) (rest := []) CX HX2083 (g_file l G n hn v2078 r2079 hC_v2078 (nI (fi)) (nI (5))) ln_L_9 (by omega) rfl rfl rfl rfl (Nat.le_of_ble_eq_true rfl) hl.1 ⟨Nat.le_of_ble_eq_true rfl, Nat.le_of_ble_eq_true rfl⟩ ⟨Nat.le_refl _, Nat.le_refl _⟩ dL_acts_603 (fun x2085 H locs h2084 HX2086 => ?_)
                      have h_file := h2084
                      have e_603 : x2085 = nI (ta) := ((((h_file (A.sF pp 6 (nI (ta))) hV_577.1 hV_577.2.2.1).trans (fc_filE hV_577.1 hpp ((fc_sF0 (by decide)).trans ep))).trans (fb_filP_5 (by decide))).trans (by rw [show (A.sF pp 6 (nI (ta))).F pp 6 = nI ta from fa_u_s _ _ _ _]; exact fc_m6N (by omega)))
                      subst e_603
                      refine lv_iload hx hb dL_acts_606 (lv_at hl 7 rfl) ?_
                      refine lv_icmp_ne (tgt := 615) hx hb dL_acts_608 (by decide) (fun c_608 => ?_) (fun c_608 => ?_)
                      · exact absurd rfl c_608
                      · refine lv_iconst (v := nI (1)) hx hb dL_acts_611 (by decide) ?_
                        refine lv_goto (tgt := 630) hx hb dL_acts_612 (by decide) ?_
                        exact RET _ _ _ _ _ _ _ HX2086 dL_acts_630 (by decide) (⟨⟨rfl, (A.sF pp 6 (nI (ta))), _, dy, cm, bu, hV_577, hk_577.more (Nat.le_succ _), ⟨by omega, by omega, by omega, by omega⟩, hI_577⟩, hC_v2078, (fa_fr.tr fa_fr.rf (fa_fr.wide h2076.2.2.1 (by omega) (by omega))), (fun k hk => ((h2076.2.2.2 k hk).trans rfl))⟩)
          refine lv_if_ne (tgt := 539) hx hb dL_acts_532 (by decide) (fun c_532 => ?_) (fun c_532 => ?_)
          · have hcm1 : 0 < cm := by
              refine Nat.pos_of_ne_zero (fun z => c_532 ?_)
              rw [z]; decide
            refine lv_iload_n hx hb dL_acts_539 rfl (lv_at hl 2 rfl) ?_
            refine lv_bipush (v := nI (12)) hx hb dL_acts_540 (by decide) ?_
            refine lv_ishr hx hb dL_acts_542 ?_
            rw [show (nI (ac)) >>> ((nI (12)) &&& 31) = nI (ac / 4096) from fc_shr (k := 12) (by omega) (by decide)]
            refine lv_aload_n hx hb dL_acts_543 rfl (lv_at hl 1 rfl) ?_
            refine lv_iconst (v := nI (1)) hx hb dL_acts_544 (by decide) ?_
            refine fa_callVip (As := [.int (nI (1))]) (rest := [.int (nI (ac / 4096))]) CX HX2063 (g_count l G n hn v r hC (nI (1))) ln_L_15 (by omega) rfl rfl rfl rfl (Nat.le_of_ble_eq_true rfl) hl.1 ⟨Nat.le_of_ble_eq_true rfl, Nat.le_of_ble_eq_true rfl⟩ ⟨Nat.le_refl _, Nat.le_refl _⟩ dL_acts_545 (fun x2088 H locs h2087 HX2089 => ?_)
            have h_count := h2087
            have e_545 : x2088 = nI (cm) := (((h_count A hV.1 hV.2.2.1).trans (fb_cntA_1 (by decide))).trans hk.2.1)
            subst e_545
            refine lv_irem hx hb dL_acts_548 (nI_ne0 hcm1 (by omega)) ?_
            rw [show (nI (ac / 4096)) - (nI (ac / 4096)) / (nI (cm)) * (nI (cm)) = nI ((ac / 4096) % cm) from pk_rem (by omega) hcm1 (by omega)]
            refine lv_istore (lv' := [(17, .int (nI ((ac / 4096) % cm))), (4, .int (nI (kd))), (0, .ref (fa_B G + (0))), (1, .int (nI (ac))), (2, .int (nI (fi))), (3, .int (nI (ho)))]) hx hb dL_acts_549 hl (by decide) rfl (fun ls hl => ?_)
            exact JOIN_551 ((ac / 4096) % cm)  _ _ _ (Or.inl (Nat.mod_lt _ hcm1)) (lv_sub hl [2, 3, 4, 5, 1, 0] rfl) HX2089
          · have hcm1 : cm = 0 := fa_nIinj (by omega) (by decide) (by first | exact c_532 | exact Decidable.not_not.mp c_532)
            refine lv_iconst (v := nI (0)) hx hb dL_acts_535 (by decide) ?_
            refine lv_goto (tgt := 549) hx hb dL_acts_536 (by decide) ?_
            refine lv_istore (lv' := [(17, .int (nI (0))), (4, .int (nI (kd))), (0, .ref (fa_B G + (0))), (1, .int (nI (ac))), (2, .int (nI (fi))), (3, .int (nI (ho)))]) hx hb dL_acts_549 hl (by decide) rfl (fun ls hl => ?_)
            exact JOIN_551 (0)  _ _ _ (Or.inr ⟨hcm1, rfl⟩) (lv_sub hl [2, 3, 4, 5, 1, 0] rfl) HX2063
        by_cases c_42_8 : nI (ac % 12) = (8 : Int32)
        · refine lv_tableIn (off := 589) (tgt := 631) hx hb dL_acts_42 (by rw [c_42_8]; decide) (by rw [c_42_8]; decide) (by rw [c_42_8]; decide) (by decide) ?_
          refine lv_aload_n hx hb dL_acts_631 rfl (lv_at hl 1 rfl) ?_
          refine fa_callVip (As := []) (rest := []) CX HX1956 (g_now l G n hn v r hC ) ln_L_31 (by omega) rfl rfl rfl rfl (Nat.le_of_ble_eq_true rfl) hl.1 ⟨Nat.le_of_ble_eq_true rfl, Nat.le_of_ble_eq_true rfl⟩ ⟨Nat.le_refl _, Nat.le_refl _⟩ dL_acts_632 (fun x2091 H locs h2090 HX2092 => ?_)
          have h_now := h2090
          have e_632 : x2091 = nI (dy) := ((h_now.trans hV.2.2.1.now).trans hk.1)
          subst e_632
          refine lv_iconst (v := nI (1)) hx hb dL_acts_635 (by decide) ?_
          refine fa_iaddN hx hb dL_acts_636 ?_
          refine lv_iload_n hx hb dL_acts_637 rfl (lv_at hl 2 rfl) ?_
          refine lv_bipush (v := nI (9)) hx hb dL_acts_638 (by decide) ?_
          refine lv_ishr hx hb dL_acts_640 ?_
          rw [show (nI (ac)) >>> ((nI (9)) &&& 31) = nI (ac / 512) from fc_shr (k := 9) (by omega) (by decide)]
          refine lv_sipush (v := nI (200)) hx hb dL_acts_641 (by decide) ?_
          refine lv_irem hx hb dL_acts_644 (by decide) ?_
          rw [show (nI (ac / 512)) - (nI (ac / 512)) / (nI (200)) * (nI (200)) = nI ((ac / 512) % 200) from pk_rem (by omega) (by decide) (by omega)]
          refine fa_iaddN hx hb dL_acts_645 ?_
          refine lv_istore (lv' := [(20, .int (nI (dy + 1 + ((ac / 512) % 200)))), (4, .int (nI (kd))), (0, .ref (fa_B G + (0))), (1, .int (nI (ac))), (2, .int (nI (fi))), (3, .int (nI (ho)))]) hx hb dL_acts_646 hl (by decide) rfl (fun ls hl => ?_)
          refine lv_aload_n hx hb dL_acts_648 rfl (lv_at hl 2 rfl) ?_
          refine lv_bipush (v := nI (8)) hx hb dL_acts_649 (by decide) ?_
          refine fa_callVip (As := [.int (nI (8))]) (rest := []) CX HX2092 (g_count l G n hn v r hC (nI (8))) ln_L_15 (by omega) rfl rfl rfl rfl (Nat.le_of_ble_eq_true rfl) hl.1 ⟨Nat.le_of_ble_eq_true rfl, Nat.le_of_ble_eq_true rfl⟩ ⟨Nat.le_refl _, Nat.le_refl _⟩ dL_acts_651 (fun x2094 H locs h2093 HX2095 => ?_)
          have h_count := h2093
          have e_651 : x2094 = nI (A.q.length) := ((h_count A hV.1 hV.2.2.1).trans (fb_cntA_8 (by decide)))
          subst e_651
          refine lv_istore (lv' := [(21, .int (nI (A.q.length))), (20, .int (nI (dy + 1 + ((ac / 512) % 200)))), (4, .int (nI (kd))), (0, .ref (fa_B G + (0))), (1, .int (nI (ac))), (2, .int (nI (fi))), (3, .int (nI (ho)))]) hx hb dL_acts_654 hl (by decide) rfl (fun ls hl => ?_)
          rcases (show ((nI fi, nI (dy + 1 + (ac / 512) % 200)) ∈ A.q) ∨ (¬ (nI fi, nI (dy + 1 + (ac / 512) % 200)) ∈ A.q ∧ 8 ≤ A.q.length) ∨ (¬ (nI fi, nI (dy + 1 + (ac / 512) % 200)) ∈ A.q ∧ ¬ 8 ≤ A.q.length) from by (by_cases z : (nI fi, nI (dy + 1 + (ac / 512) % 200)) ∈ A.q; exact Or.inl z; by_cases y : 8 ≤ A.q.length; exact Or.inr (Or.inl ⟨z, y⟩); exact Or.inr (Or.inr ⟨z, y⟩))) with hmm | ⟨hmm, h8q⟩ | ⟨hmm, h8q⟩
          · have hmm2 := hmm
            refine lv_aload_n hx hb dL_acts_656 rfl (lv_at hl 3 rfl) ?_
            refine lv_iload_n hx hb dL_acts_657 rfl (lv_at hl 5 rfl) ?_
            refine lv_iload hx hb dL_acts_658 (lv_at hl 1 rfl) ?_
            refine fa_callVi (As := [.int (nI (fi)), .int (nI (dy + 1 + ((ac / 512) % 200)))]) (rest := []) CX HX2095 (g_reserve5 l G n hn v r hC (nI (fi)) (nI (dy + 1 + ((ac / 512) % 200)))) ln_L_60 (by omega) rfl rfl rfl rfl (Nat.le_of_ble_eq_true rfl) hl.1 ⟨Nat.le_of_ble_eq_true rfl, Nat.le_of_ble_eq_true rfl⟩ ⟨Nat.le_refl _, Nat.le_refl _⟩ dL_acts_660 (fun x2097 v2098 r2099 H locs h2096 HX2100 => ?_)
            dsimp only at h2096
            have hC_v2098 := h2096.2.1
            have h_reserve5 := h2096.1
            obtain ⟨hr58_660, hac_660⟩ := h_reserve5
            obtain ⟨hx_660, hV_660⟩ := hac_660 _ _ hV
            rw [fb_resA_p ei (fc_res1 ei hk.1 (x := dy + 1 + (ac / 512) % 200) (by omega) (by omega)) hmm] at hx_660 hV_660
            have hV_660 : fb_CV v2098 r2099 A _ := hV_660
            have hI_660 : fb_inj r2099 57 := hi57.congr hr58_660
            have hk_660 := hk
            have e_660 : x2097 = (-5 : Int32) := hx_660
            subst e_660
            refine lv_istore (lv' := [(22, .int ((-5 : Int32))), (21, .int (nI (A.q.length))), (20, .int (nI (dy + 1 + ((ac / 512) % 200)))), (4, .int (nI (kd))), (0, .ref (fa_B G + (0))), (1, .int (nI (ac))), (2, .int (nI (fi))), (3, .int (nI (ho)))]) hx hb dL_acts_663 hl (by decide) rfl (fun ls hl => ?_)
            refine lv_iload hx hb dL_acts_665 (lv_at hl 3 rfl) ?_
            refine lv_if_ge (tgt := 684) hx hb dL_acts_667 (by decide) (fun c_667 => ?_) (fun c_667 => ?_)
            · refine lv_iload hx hb dL_acts_684 (lv_at hl 0 rfl) ?_
              refine lv_bipush (v := (-5 : Int32)) hx hb dL_acts_686 (by decide) ?_
              refine lv_icmp_eq (tgt := 749) hx hb dL_acts_688 (by decide) (fun c_688 => ?_) (fun c_688 => ?_)
              · refine lv_iconst (v := nI (1)) hx hb dL_acts_749 (by decide) ?_
                refine lv_goto (tgt := 754) hx hb dL_acts_750 (by decide) ?_
                exact RET _ _ _ _ _ _ _ HX2100 dL_acts_754 (by decide) (⟨⟨rfl, A, _, dy, cm, bu, hV_660, hk_660.more (Nat.le_succ _), ⟨by omega, by omega, by omega, by omega⟩, hI_660⟩, hC_v2098, (fa_fr.tr fa_fr.rf (fa_fr.wide h2096.2.2.1 (by omega) (by omega))), (fun k hk => ((h2096.2.2.2 k hk).trans rfl))⟩)
              · exact absurd (by try decide) c_688
            · exact absurd (nI_pos' (n := kd) (by omega)) c_667
          · have hmm2 := hmm
            refine lv_aload_n hx hb dL_acts_656 rfl (lv_at hl 3 rfl) ?_
            refine lv_iload_n hx hb dL_acts_657 rfl (lv_at hl 5 rfl) ?_
            refine lv_iload hx hb dL_acts_658 (lv_at hl 1 rfl) ?_
            refine fa_callVi (As := [.int (nI (fi)), .int (nI (dy + 1 + ((ac / 512) % 200)))]) (rest := []) CX HX2095 (g_reserve5 l G n hn v r hC (nI (fi)) (nI (dy + 1 + ((ac / 512) % 200)))) ln_L_60 (by omega) rfl rfl rfl rfl (Nat.le_of_ble_eq_true rfl) hl.1 ⟨Nat.le_of_ble_eq_true rfl, Nat.le_of_ble_eq_true rfl⟩ ⟨Nat.le_refl _, Nat.le_refl _⟩ dL_acts_660 (fun x2102 v2103 r2104 H locs h2101 HX2105 => ?_)
            dsimp only at h2101
            have hC_v2103 := h2101.2.1
            have h_reserve5 := h2101.1
            obtain ⟨hr58_660, hac_660⟩ := h_reserve5
            obtain ⟨hx_660, hV_660⟩ := hac_660 _ _ hV
            rw [fb_resA_m ei (fc_res1 ei hk.1 (x := dy + 1 + (ac / 512) % 200) (by omega) (by omega)) hmm h8q] at hx_660 hV_660
            have hV_660 : fb_CV v2103 r2104 A _ := hV_660
            have hI_660 : fb_inj r2104 57 := hi57.congr hr58_660
            have hk_660 := hk
            have e_660 : x2102 = (-4 : Int32) := hx_660
            subst e_660
            refine lv_istore (lv' := [(22, .int ((-4 : Int32))), (21, .int (nI (A.q.length))), (20, .int (nI (dy + 1 + ((ac / 512) % 200)))), (4, .int (nI (kd))), (0, .ref (fa_B G + (0))), (1, .int (nI (ac))), (2, .int (nI (fi))), (3, .int (nI (ho)))]) hx hb dL_acts_663 hl (by decide) rfl (fun ls hl => ?_)
            refine lv_iload hx hb dL_acts_665 (lv_at hl 3 rfl) ?_
            refine lv_if_ge (tgt := 684) hx hb dL_acts_667 (by decide) (fun c_667 => ?_) (fun c_667 => ?_)
            · refine lv_iload hx hb dL_acts_684 (lv_at hl 0 rfl) ?_
              refine lv_bipush (v := (-5 : Int32)) hx hb dL_acts_686 (by decide) ?_
              refine lv_icmp_eq (tgt := 749) hx hb dL_acts_688 (by decide) (fun c_688 => ?_) (fun c_688 => ?_)
              · exact absurd c_688 (by try decide)
              · refine lv_iload hx hb dL_acts_691 (lv_at hl 1 rfl) ?_
                refine lv_bipush (v := nI (8)) hx hb dL_acts_693 (by decide) ?_
                refine lv_icmp_ne (tgt := 708) hx hb dL_acts_695 (by decide) (fun c_695 => ?_) (fun c_695 => ?_)
                · exact absurd (congrArg nI (show A.q.length = 8 by omega)) c_695
                · refine lv_iload hx hb dL_acts_698 (lv_at hl 0 rfl) ?_
                  refine lv_bipush (v := (-4 : Int32)) hx hb dL_acts_700 (by decide) ?_
                  refine lv_icmp_ne (tgt := 753) hx hb dL_acts_702 (by decide) (fun c_702 => ?_) (fun c_702 => ?_)
                  · exact absurd (by try decide) c_702
                  · refine lv_goto (tgt := 749) hx hb dL_acts_705 (by decide) ?_
                    refine lv_iconst (v := nI (1)) hx hb dL_acts_749 (by decide) ?_
                    refine lv_goto (tgt := 754) hx hb dL_acts_750 (by decide) ?_
                    exact RET _ _ _ _ _ _ _ HX2105 dL_acts_754 (by decide) (⟨⟨rfl, A, _, dy, cm, bu, hV_660, hk_660.more (Nat.le_succ _), ⟨by omega, by omega, by omega, by omega⟩, hI_660⟩, hC_v2103, (fa_fr.tr fa_fr.rf (fa_fr.wide h2101.2.2.1 (by omega) (by omega))), (fun k hk => ((h2101.2.2.2 k hk).trans rfl))⟩)
            · exact absurd (nI_pos' (n := kd) (by omega)) c_667
          · have hmm2 := hmm
            refine lv_aload_n hx hb dL_acts_656 rfl (lv_at hl 3 rfl) ?_
            refine lv_iload_n hx hb dL_acts_657 rfl (lv_at hl 5 rfl) ?_
            refine lv_iload hx hb dL_acts_658 (lv_at hl 1 rfl) ?_
            refine fa_callVi (As := [.int (nI (fi)), .int (nI (dy + 1 + ((ac / 512) % 200)))]) (rest := []) CX HX2095 (g_reserve5 l G n hn v r hC (nI (fi)) (nI (dy + 1 + ((ac / 512) % 200)))) ln_L_60 (by omega) rfl rfl rfl rfl (Nat.le_of_ble_eq_true rfl) hl.1 ⟨Nat.le_of_ble_eq_true rfl, Nat.le_of_ble_eq_true rfl⟩ ⟨Nat.le_refl _, Nat.le_refl _⟩ dL_acts_660 (fun x2107 v2108 r2109 H locs h2106 HX2110 => ?_)
            dsimp only at h2106
            have hC_v2108 := h2106.2.1
            have h_reserve5 := h2106.1
            obtain ⟨hr58_660, hac_660⟩ := h_reserve5
            obtain ⟨hx_660, hV_660⟩ := hac_660 _ _ hV
            rw [fb_resA_s ei (fc_res1 ei hk.1 (x := dy + 1 + (ac / 512) % 200) (by omega) (by omega)) hmm h8q] at hx_660 hV_660
            have hV_660 : fb_CV v2108 r2109 (A.sq ((nI (fi), nI (dy + 1 + (ac / 512) % 200)) :: A.q)) _ := hV_660
            have hI_660 : fb_inj r2109 57 := hi57.congr hr58_660
            have hk_660 := hk.sqo (q := (nI (fi), nI (dy + 1 + (ac / 512) % 200)) :: A.q)
            have e_660 : x2107 = nI (A.q.length + 1) := hx_660
            subst e_660
            refine lv_istore (lv' := [(22, .int (nI (A.q.length + 1))), (21, .int (nI (A.q.length))), (20, .int (nI (dy + 1 + ((ac / 512) % 200)))), (4, .int (nI (kd))), (0, .ref (fa_B G + (0))), (1, .int (nI (ac))), (2, .int (nI (fi))), (3, .int (nI (ho)))]) hx hb dL_acts_663 hl (by decide) rfl (fun ls hl => ?_)
            refine lv_iload hx hb dL_acts_665 (lv_at hl 3 rfl) ?_
            refine lv_if_ge (tgt := 684) hx hb dL_acts_667 (by decide) (fun c_667 => ?_) (fun c_667 => ?_)
            · refine lv_iload hx hb dL_acts_684 (lv_at hl 0 rfl) ?_
              refine lv_bipush (v := (-5 : Int32)) hx hb dL_acts_686 (by decide) ?_
              refine lv_icmp_eq (tgt := 749) hx hb dL_acts_688 (by decide) (fun c_688 => ?_) (fun c_688 => ?_)
              · exact absurd c_688 (fc_ne5 (by omega))
              · refine lv_iload hx hb dL_acts_691 (lv_at hl 1 rfl) ?_
                refine lv_bipush (v := nI (8)) hx hb dL_acts_693 (by decide) ?_
                refine lv_icmp_ne (tgt := 708) hx hb dL_acts_695 (by decide) (fun c_695 => ?_) (fun c_695 => ?_)
                · refine lv_iload hx hb dL_acts_708 (lv_at hl 0 rfl) ?_
                  refine lv_iload hx hb dL_acts_710 (lv_at hl 1 rfl) ?_
                  refine lv_iconst (v := nI (1)) hx hb dL_acts_712 (by decide) ?_
                  refine fa_iaddN hx hb dL_acts_713 ?_
                  refine lv_icmp_ne (tgt := 753) hx hb dL_acts_714 (by decide) (fun c_714 => ?_) (fun c_714 => ?_)
                  · exact absurd rfl c_714
                  · refine lv_aload_n hx hb dL_acts_717 rfl (lv_at hl 4 rfl) ?_
                    refine lv_iload_n hx hb dL_acts_718 rfl (lv_at hl 6 rfl) ?_
                    refine lv_iload hx hb dL_acts_719 (lv_at hl 2 rfl) ?_
                    refine fa_callVi (As := [.int (nI (fi)), .int (nI (dy + 1 + ((ac / 512) % 200)))]) (rest := []) CX HX2110 (g_reserve5 l G n hn v2108 r2109 hC_v2108 (nI (fi)) (nI (dy + 1 + ((ac / 512) % 200)))) ln_L_60 (by omega) rfl rfl rfl rfl (Nat.le_of_ble_eq_true rfl) hl.1 ⟨Nat.le_of_ble_eq_true rfl, Nat.le_of_ble_eq_true rfl⟩ ⟨Nat.le_refl _, Nat.le_refl _⟩ dL_acts_721 (fun x2112 v2113 r2114 H locs h2111 HX2115 => ?_)
                    dsimp only at h2111
                    have hC_v2113 := h2111.2.1
                    have h_reserve5 := h2111.1
                    obtain ⟨hr58_721, hac_721⟩ := h_reserve5
                    obtain ⟨hx_721, hV_721⟩ := hac_721 _ _ hV_660
                    rw [show fb_resA (A.sq ((nI (fi), nI (dy + 1 + (ac / 512) % 200)) :: A.q)) (nI fi) (nI (dy + 1 + (ac / 512) % 200)) = ((-5 : Int32), A.sq ((nI (fi), nI (dy + 1 + (ac / 512) % 200)) :: A.q)) from fb_resA_p (A := A.sq ((nI (fi), nI (dy + 1 + (ac / 512) % 200)) :: A.q)) ei (fc_res1 ei hk.1 (x := dy + 1 + (ac / 512) % 200) (by omega) (by omega)) List.mem_cons_self] at hx_721 hV_721
                    have hV_721 : fb_CV v2113 r2114 (A.sq ((nI (fi), nI (dy + 1 + (ac / 512) % 200)) :: A.q)) _ := hV_721
                    have hI_721 : fb_inj r2114 57 := hI_660.congr hr58_721
                    have hk_721 := hk_660
                    have e_721 : x2112 = (-5 : Int32) := hx_721
                    subst e_721
                    refine lv_bipush (v := (-5 : Int32)) hx hb dL_acts_724 (by decide) ?_
                    refine lv_icmp_ne (tgt := 753) hx hb dL_acts_726 (by decide) (fun c_726 => ?_) (fun c_726 => ?_)
                    · exact absurd (by try decide) c_726
                    · refine lv_iload_n hx hb dL_acts_729 rfl (lv_at hl 5 rfl) ?_
                      refine lv_iconst (v := nI (4)) hx hb dL_acts_730 (by decide) ?_
                      refine lv_ishr hx hb dL_acts_731 ?_
                      rw [show (nI (ac)) >>> ((nI (4)) &&& 31) = nI (ac / 16) from fc_shr (k := 4) (by omega) (by decide)]
                      refine lv_iconst (v := nI (4)) hx hb dL_acts_732 (by decide) ?_
                      refine lv_irem hx hb dL_acts_733 (by decide) ?_
                      rw [show (nI (ac / 16)) - (nI (ac / 16)) / (nI (4)) * (nI (4)) = nI ((ac / 16) % 4) from pk_rem (by omega) (by decide) (by omega)]
                      refine lv_if_gt (tgt := 749) hx hb dL_acts_734 (by decide) (fun c_734 => ?_) (fun c_734 => ?_)
                      · refine lv_iconst (v := nI (1)) hx hb dL_acts_749 (by decide) ?_
                        refine lv_goto (tgt := 754) hx hb dL_acts_750 (by decide) ?_
                        exact RET _ _ _ _ _ _ _ HX2115 dL_acts_754 (by decide) (⟨⟨rfl, (A.sq ((nI (fi), nI (dy + 1 + (ac / 512) % 200)) :: A.q)), _, dy, cm, bu, hV_721, hk_721.more (Nat.le_succ _), ⟨by omega, by omega, by omega, by omega⟩, hI_721⟩, hC_v2113, (fa_fr.tr (fa_fr.tr fa_fr.rf (fa_fr.wide h2106.2.2.1 (by omega) (by omega))) (fa_fr.wide h2111.2.2.1 (by omega) (by omega))), (fun k hk => ((h2111.2.2.2 k hk).trans ((h2106.2.2.2 k hk).trans rfl)))⟩)
                      · refine lv_aload_n hx hb dL_acts_737 rfl (lv_at hl 4 rfl) ?_
                        refine lv_iload_n hx hb dL_acts_738 rfl (lv_at hl 6 rfl) ?_
                        refine lv_iload hx hb dL_acts_739 (lv_at hl 2 rfl) ?_
                        refine fa_callVi (As := [.int (nI (fi)), .int (nI (dy + 1 + ((ac / 512) % 200)))]) (rest := []) CX HX2115 (g_cancel5 l G n hn v2113 r2114 hC_v2113 (nI (fi)) (nI (dy + 1 + ((ac / 512) % 200)))) ln_L_63 (by omega) rfl rfl rfl rfl (Nat.le_of_ble_eq_true rfl) hl.1 ⟨Nat.le_of_ble_eq_true rfl, Nat.le_of_ble_eq_true rfl⟩ ⟨Nat.le_refl _, Nat.le_refl _⟩ dL_acts_741 (fun x2117 v2118 r2119 H locs h2116 HX2120 => ?_)
                        dsimp only at h2116
                        have hC_v2118 := h2116.2.1
                        have h_cancel5 := h2116.1
                        obtain ⟨hr58_741, hac_741⟩ := h_cancel5
                        obtain ⟨hx_741, hV_741⟩ := hac_741 _ _ hV_721
                        rw [show fb_canA (A.sq ((nI (fi), nI (dy + 1 + (ac / 512) % 200)) :: A.q)) (nI fi) (nI (dy + 1 + (ac / 512) % 200)) = (nI (((nI (fi), nI (dy + 1 + (ac / 512) % 200)) :: A.q).length - 1), (A.sq ((nI (fi), nI (dy + 1 + (ac / 512) % 200)) :: A.q)).sq (((nI (fi), nI (dy + 1 + (ac / 512) % 200)) :: A.q).erase (nI (fi), nI (dy + 1 + (ac / 512) % 200)))) from fb_canA_s (A := A.sq ((nI (fi), nI (dy + 1 + (ac / 512) % 200)) :: A.q)) List.mem_cons_self] at hx_741 hV_741
                        have hV_741 : fb_CV v2118 r2119 ((A.sq ((nI (fi), nI (dy + 1 + (ac / 512) % 200)) :: A.q)).sq (((nI (fi), nI (dy + 1 + (ac / 512) % 200)) :: A.q).erase (nI (fi), nI (dy + 1 + (ac / 512) % 200)))) _ := hV_741
                        have hI_741 : fb_inj r2119 57 := hI_721.congr hr58_741
                        have hk_741 := hk_721.sqo (q := ((nI (fi), nI (dy + 1 + (ac / 512) % 200)) :: A.q).erase (nI (fi), nI (dy + 1 + (ac / 512) % 200)))
                        have e_741 : x2117 = nI (A.q.length) := hx_741
                        subst e_741
                        refine lv_iload hx hb dL_acts_744 (lv_at hl 1 rfl) ?_
                        refine lv_icmp_ne (tgt := 753) hx hb dL_acts_746 (by decide) (fun c_746 => ?_) (fun c_746 => ?_)
                        · exact absurd rfl c_746
                        · refine lv_iconst (v := nI (1)) hx hb dL_acts_749 (by decide) ?_
                          refine lv_goto (tgt := 754) hx hb dL_acts_750 (by decide) ?_
                          exact RET _ _ _ _ _ _ _ HX2120 dL_acts_754 (by decide) (⟨⟨rfl, ((A.sq ((nI (fi), nI (dy + 1 + (ac / 512) % 200)) :: A.q)).sq (((nI (fi), nI (dy + 1 + (ac / 512) % 200)) :: A.q).erase (nI (fi), nI (dy + 1 + (ac / 512) % 200)))), _, dy, cm, bu, hV_741, hk_741.more (Nat.le_succ _), ⟨by omega, by omega, by omega, by omega⟩, hI_741⟩, hC_v2118, (fa_fr.tr (fa_fr.tr (fa_fr.tr fa_fr.rf (fa_fr.wide h2106.2.2.1 (by omega) (by omega))) (fa_fr.wide h2111.2.2.1 (by omega) (by omega))) (fa_fr.wide h2116.2.2.1 (by omega) (by omega))), (fun k hk => ((h2116.2.2.2 k hk).trans ((h2111.2.2.2 k hk).trans ((h2106.2.2.2 k hk).trans rfl))))⟩)
                · exact absurd (fa_nIinj (by omega) (by decide) c_695) (by omega)
            · exact absurd (nI_pos' (n := kd) (by omega)) c_667
        by_cases c_42_9 : nI (ac % 12) = (9 : Int32)
        · refine lv_tableIn (off := 713) (tgt := 755) hx hb dL_acts_42 (by rw [c_42_9]; decide) (by rw [c_42_9]; decide) (by rw [c_42_9]; decide) (by decide) ?_
          have JOIN_763 : ∀ (wh : Nat) (H : Heap) (locs : List Loc) (ls : Array Slot), (wh < 7) → lv_has ls 34 [(0, .ref (fa_B G + (0))), (1, .int (nI (ac))), (2, .int (nI (fi))), (3, .int (nI (ho))), (4, .int (nI (kd))), (23, .int (nI (wh)))] → fa_HX G (n) v r s H locs → W p l e (fa_rm 8) s m args below meth c H locs (0) (0) Q (F0 m 763 ls []) := by
            intro wh H locs ls hi_763 hl HX2121
            refine lv_iload hx hb dL_acts_763 (lv_at hl 5 rfl) ?_
            refine lv_iconst (v := nI (5)) hx hb dL_acts_765 (by decide) ?_
            have JOIN_814 : ∀ (va : Nat) (H : Heap) (locs : List Loc) (ls : Array Slot), (fc_va wh va) → lv_has ls 34 [(0, .ref (fa_B G + (0))), (1, .int (nI (ac))), (2, .int (nI (fi))), (3, .int (nI (ho))), (4, .int (nI (kd))), (23, .int (nI (wh))), (24, .int (nI (va)))] → fa_HX G (n) v r s H locs → W p l e (fa_rm 8) s m args below meth c H locs (0) (0) Q (F0 m 814 ls []) := by
              intro va H locs ls hi_814 hl HX2122
              refine lv_aload_n hx hb dL_acts_814 rfl (lv_at hl 0 rfl) ?_
              refine lv_iload hx hb dL_acts_815 (lv_at hl 5 rfl) ?_
              refine fa_callVip (As := [.int (nI (wh))]) (rest := []) CX HX2122 (g_setting l G n hn v r hC (nI (wh))) ln_L_22 (by omega) rfl rfl rfl rfl (Nat.le_of_ble_eq_true rfl) hl.1 ⟨Nat.le_of_ble_eq_true rfl, Nat.le_of_ble_eq_true rfl⟩ ⟨Nat.le_refl _, Nat.le_refl _⟩ dL_acts_817 (fun x2124 H locs h2123 HX2125 => ?_)
              have h_setting := h2123
              have e_817 : x2124 = A.g wh := ((h_setting A hV.1 hV.2.2.1).trans (fc_stg hi_763))
              subst e_817
              refine lv_istore (lv' := [(25, .int (A.g wh)), (0, .ref (fa_B G + (0))), (1, .int (nI (ac))), (2, .int (nI (fi))), (3, .int (nI (ho))), (4, .int (nI (kd))), (23, .int (nI (wh))), (24, .int (nI (va)))]) hx hb dL_acts_820 hl (by decide) rfl (fun ls hl => ?_)
              refine lv_aload_n hx hb dL_acts_822 rfl (lv_at hl 1 rfl) ?_
              refine lv_iload hx hb dL_acts_823 (lv_at hl 6 rfl) ?_
              refine lv_iload hx hb dL_acts_825 (lv_at hl 7 rfl) ?_
              refine fa_callVi (As := [.int (nI (wh)), .int (nI (va))]) (rest := []) CX HX2125 (g_set5 l G n hn v r hC (nI (wh)) (nI (va))) ln_L_66 (by omega) rfl rfl rfl rfl (Nat.le_of_ble_eq_true rfl) hl.1 ⟨Nat.le_of_ble_eq_true rfl, Nat.le_of_ble_eq_true rfl⟩ ⟨Nat.le_refl _, Nat.le_refl _⟩ dL_acts_827 (fun x2127 v2128 r2129 H locs h2126 HX2130 => ?_)
              dsimp only at h2126
              have hC_v2128 := h2126.2.1
              have h_set5 := h2126.1
              obtain ⟨hr58_827, hac_827⟩ := h_set5
              obtain ⟨hx_827, hV_827⟩ := hac_827 _ _ hV
              rw [fc_set1 hi_814] at hx_827 hV_827
              have hV_827 : fb_CV v2128 r2129 (A.sg wh (nI (va))) _ := hV_827
              have hI_827 : fb_inj r2129 57 := hi57.congr hr58_827
              have hk_827 := hk.set1 hi_763 (fc_setS hk.2.2.2.2.2.2.1 hi_814)
              have e_827 : x2127 = A.g wh := hx_827
              subst e_827
              refine lv_iload hx hb dL_acts_830 (lv_at hl 0 rfl) ?_
              refine lv_icmp_ne (tgt := 850) hx hb dL_acts_832 (by decide) (fun c_832 => ?_) (fun c_832 => ?_)
              · exact absurd rfl c_832
              · refine lv_aload_n hx hb dL_acts_835 rfl (lv_at hl 1 rfl) ?_
                refine lv_iload hx hb dL_acts_836 (lv_at hl 6 rfl) ?_
                refine fa_callVip (As := [.int (nI (wh))]) (rest := []) CX HX2130 (g_setting l G n hn v2128 r2129 hC_v2128 (nI (wh))) ln_L_22 (by omega) rfl rfl rfl rfl (Nat.le_of_ble_eq_true rfl) hl.1 ⟨Nat.le_of_ble_eq_true rfl, Nat.le_of_ble_eq_true rfl⟩ ⟨Nat.le_refl _, Nat.le_refl _⟩ dL_acts_838 (fun x2132 H locs h2131 HX2133 => ?_)
                have h_setting := h2131
                have e_838 : x2132 = nI (va) := ((h_setting (A.sg wh (nI (va))) hV_827.1 hV_827.2.2.1).trans ((fc_stg hi_763).trans (fb_s1_s _ _ _)))
                subst e_838
                refine lv_iload hx hb dL_acts_841 (lv_at hl 7 rfl) ?_
                refine lv_icmp_ne (tgt := 850) hx hb dL_acts_843 (by decide) (fun c_843 => ?_) (fun c_843 => ?_)
                · exact absurd rfl c_843
                · refine lv_iconst (v := nI (1)) hx hb dL_acts_846 (by decide) ?_
                  refine lv_goto (tgt := 851) hx hb dL_acts_847 (by decide) ?_
                  exact RET _ _ _ _ _ _ _ HX2133 dL_acts_851 (by decide) (⟨⟨rfl, (A.sg wh (nI (va))), _, dy, cm, bu, hV_827, hk_827.more (Nat.le_succ _), ⟨by omega, by omega, by omega, by omega⟩, hI_827⟩, hC_v2128, (fa_fr.tr fa_fr.rf (fa_fr.wide h2126.2.2.1 (by omega) (by omega))), (fun k hk => ((h2126.2.2.2 k hk).trans rfl))⟩)
            refine lv_icmp_ge (tgt := 783) hx hb dL_acts_766 (by decide) (fun c_766 => ?_) (fun c_766 => ?_)
            · have hw5 : 5 ≤ wh := fa_leN (by omega) (by omega) c_766
              refine lv_iload hx hb dL_acts_783 (lv_at hl 5 rfl) ?_
              refine lv_iconst (v := nI (5)) hx hb dL_acts_785 (by decide) ?_
              refine lv_icmp_ne (tgt := 801) hx hb dL_acts_786 (by decide) (fun c_786 => ?_) (fun c_786 => ?_)
              · have hw6 : ¬ wh = 5 := fun z => c_786 (by rw [z])
                refine lv_bipush (v := nI (50)) hx hb dL_acts_801 (by decide) ?_
                refine lv_iload_n hx hb dL_acts_803 rfl (lv_at hl 1 rfl) ?_
                refine lv_bipush (v := nI (8)) hx hb dL_acts_804 (by decide) ?_
                refine lv_ishr hx hb dL_acts_806 ?_
                rw [show (nI (ac)) >>> ((nI (8)) &&& 31) = nI (ac / 256) from fc_shr (k := 8) (by omega) (by decide)]
                refine lv_sipush (v := nI (551)) hx hb dL_acts_807 (by decide) ?_
                refine lv_irem hx hb dL_acts_810 (by decide) ?_
                rw [show (nI (ac / 256)) - (nI (ac / 256)) / (nI (551)) * (nI (551)) = nI ((ac / 256) % 551) from pk_rem (by omega) (by decide) (by omega)]
                refine fa_iaddN hx hb dL_acts_811 ?_
                refine lv_istore (lv' := [(24, .int (nI (50 + ((ac / 256) % 551)))), (0, .ref (fa_B G + (0))), (1, .int (nI (ac))), (2, .int (nI (fi))), (3, .int (nI (ho))), (4, .int (nI (kd))), (23, .int (nI (wh)))]) hx hb dL_acts_812 hl (by decide) rfl (fun ls hl => ?_)
                exact JOIN_814 (50 + ((ac / 256) % 551))  _ _ _ (by unfold fc_va; omega) (lv_sub hl [1, 2, 3, 4, 5, 6, 0] rfl) HX2121
              · have hw6 : wh = 5 := fa_nIinj (by omega) (by omega) c_786
                refine lv_iconst (v := nI (1)) hx hb dL_acts_789 (by decide) ?_
                refine lv_iload_n hx hb dL_acts_790 rfl (lv_at hl 1 rfl) ?_
                refine lv_bipush (v := nI (8)) hx hb dL_acts_791 (by decide) ?_
                refine lv_ishr hx hb dL_acts_793 ?_
                rw [show (nI (ac)) >>> ((nI (8)) &&& 31) = nI (ac / 256) from fc_shr (k := 8) (by omega) (by decide)]
                refine lv_bipush (v := nI (20)) hx hb dL_acts_794 (by decide) ?_
                refine lv_irem hx hb dL_acts_796 (by decide) ?_
                rw [show (nI (ac / 256)) - (nI (ac / 256)) / (nI (20)) * (nI (20)) = nI ((ac / 256) % 20) from pk_rem (by omega) (by decide) (by omega)]
                refine fa_iaddN hx hb dL_acts_797 ?_
                refine lv_goto (tgt := 812) hx hb dL_acts_798 (by decide) ?_
                refine lv_istore (lv' := [(24, .int (nI (1 + ((ac / 256) % 20)))), (0, .ref (fa_B G + (0))), (1, .int (nI (ac))), (2, .int (nI (fi))), (3, .int (nI (ho))), (4, .int (nI (kd))), (23, .int (nI (wh)))]) hx hb dL_acts_812 hl (by decide) rfl (fun ls hl => ?_)
                exact JOIN_814 (1 + ((ac / 256) % 20))  _ _ _ (by unfold fc_va; omega) (lv_sub hl [1, 2, 3, 4, 5, 6, 0] rfl) HX2121
            · have hw5 : wh < 5 := fa_ltN (by omega) (by omega) c_766
              refine lv_bipush (v := nI (30)) hx hb dL_acts_769 (by decide) ?_
              refine lv_iload_n hx hb dL_acts_771 rfl (lv_at hl 1 rfl) ?_
              refine lv_bipush (v := nI (8)) hx hb dL_acts_772 (by decide) ?_
              refine lv_ishr hx hb dL_acts_774 ?_
              rw [show (nI (ac)) >>> ((nI (8)) &&& 31) = nI (ac / 256) from fc_shr (k := 8) (by omega) (by decide)]
              refine lv_sipush (v := nI (300)) hx hb dL_acts_775 (by decide) ?_
              refine lv_irem hx hb dL_acts_778 (by decide) ?_
              rw [show (nI (ac / 256)) - (nI (ac / 256)) / (nI (300)) * (nI (300)) = nI ((ac / 256) % 300) from pk_rem (by omega) (by decide) (by omega)]
              refine fa_iaddN hx hb dL_acts_779 ?_
              refine lv_goto (tgt := 812) hx hb dL_acts_780 (by decide) ?_
              refine lv_istore (lv' := [(24, .int (nI (30 + ((ac / 256) % 300)))), (0, .ref (fa_B G + (0))), (1, .int (nI (ac))), (2, .int (nI (fi))), (3, .int (nI (ho))), (4, .int (nI (kd))), (23, .int (nI (wh)))]) hx hb dL_acts_812 hl (by decide) rfl (fun ls hl => ?_)
              exact JOIN_814 (30 + ((ac / 256) % 300))  _ _ _ (by unfold fc_va; omega) (lv_sub hl [1, 2, 3, 4, 5, 6, 0] rfl) HX2121
          refine lv_iload_n hx hb dL_acts_755 rfl (lv_at hl 2 rfl) ?_
          refine lv_iconst (v := nI (4)) hx hb dL_acts_756 (by decide) ?_
          refine lv_ishr hx hb dL_acts_757 ?_
          rw [show (nI (ac)) >>> ((nI (4)) &&& 31) = nI (ac / 16) from fc_shr (k := 4) (by omega) (by decide)]
          refine lv_bipush (v := nI (7)) hx hb dL_acts_758 (by decide) ?_
          refine lv_irem hx hb dL_acts_760 (by decide) ?_
          rw [show (nI (ac / 16)) - (nI (ac / 16)) / (nI (7)) * (nI (7)) = nI ((ac / 16) % 7) from pk_rem (by omega) (by decide) (by omega)]
          refine lv_istore (lv' := [(23, .int (nI ((ac / 16) % 7))), (4, .int (nI (kd))), (0, .ref (fa_B G + (0))), (1, .int (nI (ac))), (2, .int (nI (fi))), (3, .int (nI (ho)))]) hx hb dL_acts_761 hl (by decide) rfl (fun ls hl => ?_)
          exact JOIN_763 ((ac / 16) % 7)  _ _ _ (Nat.mod_lt _ (by decide)) (lv_sub hl [2, 3, 4, 5, 1, 0] rfl) HX1956
        have hout_42 : (nI (ac % 12)).toInt < 0 ∨ 9 < (nI (ac % 12)).toInt := by
          have z0 := lv_neT (a := 0) c_42_0 (by decide)
          have z1 := lv_neT (a := 1) c_42_1 (by decide)
          have z2 := lv_neT (a := 2) c_42_2 (by decide)
          have z3 := lv_neT (a := 3) c_42_3 (by decide)
          have z4 := lv_neT (a := 4) c_42_4 (by decide)
          have z5 := lv_neT (a := 5) c_42_5 (by decide)
          have z6 := lv_neT (a := 6) c_42_6 (by decide)
          have z7 := lv_neT (a := 7) c_42_7 (by decide)
          have z8 := lv_neT (a := 8) c_42_8 (by decide)
          have z9 := lv_neT (a := 9) c_42_9 (by decide)
          omega
        refine lv_tableOut (tgt := 852) hx hb dL_acts_42 hout_42 (by decide) ?_
        have JOIN_862 : ∀ (da : Nat) (H : Heap) (locs : List Loc) (ls : Array Slot), (1 ≤ da ∧ da ≤ 120) → lv_has ls 34 [(0, .ref (fa_B G + (0))), (1, .int (nI (ac))), (2, .int (nI (fi))), (3, .int (nI (ho))), (4, .int (nI (kd))), (26, .int (nI (da)))] → fa_HX G (n) v r s H locs → W p l e (fa_rm 8) s m args below meth c H locs (0) (0) Q (F0 m 862 ls []) := by
          intro da H locs ls hi_862 hl HX2134
          refine lv_aload_n hx hb dL_acts_862 rfl (lv_at hl 0 rfl) ?_
          refine fa_callVip (As := []) (rest := []) CX HX2134 (g_now l G n hn v r hC ) ln_L_31 (by omega) rfl rfl rfl rfl (Nat.le_of_ble_eq_true rfl) hl.1 ⟨Nat.le_of_ble_eq_true rfl, Nat.le_of_ble_eq_true rfl⟩ ⟨Nat.le_refl _, Nat.le_refl _⟩ dL_acts_863 (fun x2136 H locs h2135 HX2137 => ?_)
          have h_now := h2135
          have e_863 : x2136 = nI (dy) := ((h_now.trans hV.2.2.1.now).trans hk.1)
          subst e_863
          refine lv_istore (lv' := [(27, .int (nI (dy))), (0, .ref (fa_B G + (0))), (1, .int (nI (ac))), (2, .int (nI (fi))), (3, .int (nI (ho))), (4, .int (nI (kd))), (26, .int (nI (da)))]) hx hb dL_acts_866 hl (by decide) rfl (fun ls hl => ?_)
          refine lv_aload_n hx hb dL_acts_868 rfl (lv_at hl 1 rfl) ?_
          refine lv_iconst (v := nI (3)) hx hb dL_acts_869 (by decide) ?_
          refine fa_callVip (As := [.int (nI (3))]) (rest := []) CX HX2137 (g_count l G n hn v r hC (nI (3))) ln_L_15 (by omega) rfl rfl rfl rfl (Nat.le_of_ble_eq_true rfl) hl.1 ⟨Nat.le_of_ble_eq_true rfl, Nat.le_of_ble_eq_true rfl⟩ ⟨Nat.le_refl _, Nat.le_refl _⟩ dL_acts_870 (fun x2139 H locs h2138 HX2140 => ?_)
          have h_count := h2138
          have e_870 : x2139 = nI (bu) := (((h_count A hV.1 hV.2.2.1).trans (fb_cntA_3 (by decide))).trans hk.2.2.1)
          subst e_870
          refine lv_istore (lv' := [(28, .int (nI (bu))), (27, .int (nI (dy))), (0, .ref (fa_B G + (0))), (1, .int (nI (ac))), (2, .int (nI (fi))), (3, .int (nI (ho))), (4, .int (nI (kd))), (26, .int (nI (da)))]) hx hb dL_acts_873 hl (by decide) rfl (fun ls hl => ?_)
          refine lv_aload_n hx hb dL_acts_875 rfl (lv_at hl 2 rfl) ?_
          refine lv_iconst (v := nI (4)) hx hb dL_acts_876 (by decide) ?_
          refine fa_callVip (As := [.int (nI (4))]) (rest := []) CX HX2140 (g_count l G n hn v r hC (nI (4))) ln_L_15 (by omega) rfl rfl rfl rfl (Nat.le_of_ble_eq_true rfl) hl.1 ⟨Nat.le_of_ble_eq_true rfl, Nat.le_of_ble_eq_true rfl⟩ ⟨Nat.le_refl _, Nat.le_refl _⟩ dL_acts_877 (fun x2142 H locs h2141 HX2143 => ?_)
          have h_count := h2141
          have e_877 : x2142 = A.g 10 := ((h_count A hV.1 hV.2.2.1).trans (fb_cntA_4 (by decide)))
          subst e_877
          refine lv_istore (lv' := [(29, .int (A.g 10)), (28, .int (nI (bu))), (27, .int (nI (dy))), (0, .ref (fa_B G + (0))), (1, .int (nI (ac))), (2, .int (nI (fi))), (3, .int (nI (ho))), (4, .int (nI (kd))), (26, .int (nI (da)))]) hx hb dL_acts_880 hl (by decide) rfl (fun ls hl => ?_)
          refine lv_aload_n hx hb dL_acts_882 rfl (lv_at hl 3 rfl) ?_
          refine lv_iconst (v := nI (5)) hx hb dL_acts_883 (by decide) ?_
          refine fa_callVip (As := [.int (nI (5))]) (rest := []) CX HX2143 (g_count l G n hn v r hC (nI (5))) ln_L_15 (by omega) rfl rfl rfl rfl (Nat.le_of_ble_eq_true rfl) hl.1 ⟨Nat.le_of_ble_eq_true rfl, Nat.le_of_ble_eq_true rfl⟩ ⟨Nat.le_refl _, Nat.le_refl _⟩ dL_acts_884 (fun x2145 H locs h2144 HX2146 => ?_)
          have h_count := h2144
          have e_884 : x2145 = A.g 11 := ((h_count A hV.1 hV.2.2.1).trans (fb_cntA_5 (by decide)))
          subst e_884
          refine lv_istore (lv' := [(30, .int (A.g 11)), (29, .int (A.g 10)), (28, .int (nI (bu))), (27, .int (nI (dy))), (0, .ref (fa_B G + (0))), (1, .int (nI (ac))), (2, .int (nI (fi))), (3, .int (nI (ho))), (4, .int (nI (kd))), (26, .int (nI (da)))]) hx hb dL_acts_887 hl (by decide) rfl (fun ls hl => ?_)
          refine lv_aload_n hx hb dL_acts_889 rfl (lv_at hl 4 rfl) ?_
          refine lv_iload hx hb dL_acts_890 (lv_at hl 9 rfl) ?_
          refine lv_iconst (v := nI (0)) hx hb dL_acts_892 (by decide) ?_
          refine fa_callVi (As := [.int (nI (da)), .int (nI (0))]) (rest := []) CX HX2146 (g_ifPassed l G n hn v r hC (nI (da)) (nI (0))) ln_L_69 (by omega) rfl rfl rfl rfl (Nat.le_of_ble_eq_true rfl) hl.1 ⟨Nat.le_of_ble_eq_true rfl, Nat.le_of_ble_eq_true rfl⟩ ⟨Nat.le_refl _, Nat.le_refl _⟩ dL_acts_893 (fun x2148 v2149 r2150 H locs h2147 HX2151 => ?_)
          dsimp only at h2147
          have hC_v2149 := h2147.2.1
          have h_ifPassed := h2147.1
          have hV_893 := hV.fut h2147.2.2.1 h_ifPassed.1
          obtain ⟨hI_893, hip_893⟩ := h_ifPassed.2 A dy hok hk.1 (by omega) hi57 hV.2.2.1
          have e_893 : x2148 = (fb_daysA A da).2.g 9 - A.g 9 := ((hip_893 da rfl hi_862.1 (by omega)).1 (by decide))
          subst e_893
          refine lv_istore (lv' := [(31, .int ((fb_daysA A da).2.g 9 - A.g 9)), (30, .int (A.g 11)), (29, .int (A.g 10)), (28, .int (nI (bu))), (27, .int (nI (dy))), (0, .ref (fa_B G + (0))), (1, .int (nI (ac))), (2, .int (nI (fi))), (3, .int (nI (ho))), (4, .int (nI (kd))), (26, .int (nI (da)))]) hx hb dL_acts_896 hl (by decide) rfl (fun ls hl => ?_)
          refine lv_aload_n hx hb dL_acts_898 rfl (lv_at hl 5 rfl) ?_
          refine lv_iload hx hb dL_acts_899 (lv_at hl 10 rfl) ?_
          refine lv_iconst (v := nI (1)) hx hb dL_acts_901 (by decide) ?_
          refine fa_callVi (As := [.int (nI (da)), .int (nI (1))]) (rest := []) CX HX2151 (g_ifPassed l G n hn v2149 r2150 hC_v2149 (nI (da)) (nI (1))) ln_L_69 (by omega) rfl rfl rfl rfl (Nat.le_of_ble_eq_true rfl) hl.1 ⟨Nat.le_of_ble_eq_true rfl, Nat.le_of_ble_eq_true rfl⟩ ⟨Nat.le_refl _, Nat.le_refl _⟩ dL_acts_902 (fun x2153 v2154 r2155 H locs h2152 HX2156 => ?_)
          dsimp only at h2152
          have hC_v2154 := h2152.2.1
          have h_ifPassed := h2152.1
          have hV_902 := hV_893.fut h2152.2.2.1 h_ifPassed.1
          obtain ⟨hI_902, hip_902⟩ := h_ifPassed.2 A dy hok hk.1 (by omega) hI_893 hV_893.2.2.1
          have e_902 : x2153 = (fb_daysA A da).2.g 10 - A.g 10 := ((hip_902 da rfl hi_862.1 (by omega)).2.1 (by decide))
          subst e_902
          refine lv_istore (lv' := [(32, .int ((fb_daysA A da).2.g 10 - A.g 10)), (31, .int ((fb_daysA A da).2.g 9 - A.g 9)), (30, .int (A.g 11)), (29, .int (A.g 10)), (28, .int (nI (bu))), (27, .int (nI (dy))), (0, .ref (fa_B G + (0))), (1, .int (nI (ac))), (2, .int (nI (fi))), (3, .int (nI (ho))), (4, .int (nI (kd))), (26, .int (nI (da)))]) hx hb dL_acts_905 hl (by decide) rfl (fun ls hl => ?_)
          refine lv_aload_n hx hb dL_acts_907 rfl (lv_at hl 6 rfl) ?_
          refine lv_iload hx hb dL_acts_908 (lv_at hl 11 rfl) ?_
          refine lv_iconst (v := nI (2)) hx hb dL_acts_910 (by decide) ?_
          refine fa_callVi (As := [.int (nI (da)), .int (nI (2))]) (rest := []) CX HX2156 (g_ifPassed l G n hn v2154 r2155 hC_v2154 (nI (da)) (nI (2))) ln_L_69 (by omega) rfl rfl rfl rfl (Nat.le_of_ble_eq_true rfl) hl.1 ⟨Nat.le_of_ble_eq_true rfl, Nat.le_of_ble_eq_true rfl⟩ ⟨Nat.le_refl _, Nat.le_refl _⟩ dL_acts_911 (fun x2158 v2159 r2160 H locs h2157 HX2161 => ?_)
          dsimp only at h2157
          have hC_v2159 := h2157.2.1
          have h_ifPassed := h2157.1
          have hV_911 := hV_902.fut h2157.2.2.1 h_ifPassed.1
          obtain ⟨hI_911, hip_911⟩ := h_ifPassed.2 A dy hok hk.1 (by omega) hI_902 hV_902.2.2.1
          have e_911 : x2158 = (fb_daysA A da).2.g 11 - A.g 11 := ((hip_911 da rfl hi_862.1 (by omega)).2.2 rfl)
          subst e_911
          refine lv_istore (lv' := [(33, .int ((fb_daysA A da).2.g 11 - A.g 11)), (32, .int ((fb_daysA A da).2.g 10 - A.g 10)), (31, .int ((fb_daysA A da).2.g 9 - A.g 9)), (30, .int (A.g 11)), (29, .int (A.g 10)), (28, .int (nI (bu))), (27, .int (nI (dy))), (0, .ref (fa_B G + (0))), (1, .int (nI (ac))), (2, .int (nI (fi))), (3, .int (nI (ho))), (4, .int (nI (kd))), (26, .int (nI (da)))]) hx hb dL_acts_914 hl (by decide) rfl (fun ls hl => ?_)
          refine lv_aload_n hx hb dL_acts_916 rfl (lv_at hl 7 rfl) ?_
          refine lv_iload hx hb dL_acts_917 (lv_at hl 12 rfl) ?_
          refine fa_callVi (As := [.int (nI (da))]) (rest := []) CX HX2161 (g_pass5 l G n hn v2159 r2160 hC_v2159 (nI (da))) ln_L_72 (by omega) rfl rfl rfl rfl (Nat.le_of_ble_eq_true rfl) hl.1 ⟨Nat.le_of_ble_eq_true rfl, Nat.le_of_ble_eq_true rfl⟩ ⟨Nat.le_refl _, Nat.le_refl _⟩ dL_acts_919 (fun x2163 v2164 r2165 H locs h2162 HX2166 => ?_)
          dsimp only at h2162
          have hC_v2164 := h2162.2.1
          have h_pass5 := h2162.1
          obtain ⟨hr58_919, hac_919⟩ := h_pass5
          obtain ⟨hx_919, hV_919⟩ := hac_919 _ _ hV_911
          rw [fc_pass1 hk.1 hi_862.1 (by omega) (by omega)] at hx_919 hV_919
          have hV_919 : fb_CV v2164 r2165 ((fb_daysA A da).2) _ := hV_919
          have hI_919 : fb_inj r2165 57 := hI_911.congr hr58_919
          obtain ⟨b2, hb2, hk_919, -⟩ := hk.days hok (by omega) da (by omega)
          have e_919 : x2163 = (fb_daysA A da).1 := hx_919
          subst e_919
          refine lv_iload hx hb dL_acts_922 (lv_at hl 2 rfl) ?_
          refine lv_icmp_ne (tgt := 982) hx hb dL_acts_924 (by decide) (fun c_924 => ?_) (fun c_924 => ?_)
          · exact absurd (fc_days9 A da) c_924
          · refine lv_aload_n hx hb dL_acts_927 rfl (lv_at hl 7 rfl) ?_
            refine fa_callVip (As := []) (rest := []) CX HX2166 (g_now l G n hn v2164 r2165 hC_v2164 ) ln_L_31 (by omega) rfl rfl rfl rfl (Nat.le_of_ble_eq_true rfl) hl.1 ⟨Nat.le_of_ble_eq_true rfl, Nat.le_of_ble_eq_true rfl⟩ ⟨Nat.le_refl _, Nat.le_refl _⟩ dL_acts_928 (fun x2168 H locs h2167 HX2169 => ?_)
            have h_now := h2167
            have e_928 : x2168 = nI (dy + da) := ((h_now.trans hV_919.2.2.1.now).trans hk_919.1)
            subst e_928
            refine lv_iload hx hb dL_acts_931 (lv_at hl 6 rfl) ?_
            refine lv_iload hx hb dL_acts_933 (lv_at hl 12 rfl) ?_
            refine fa_iaddN hx hb dL_acts_935 ?_
            refine lv_icmp_ne (tgt := 982) hx hb dL_acts_936 (by decide) (fun c_936 => ?_) (fun c_936 => ?_)
            · exact absurd rfl c_936
            · refine lv_aload_n hx hb dL_acts_939 rfl (lv_at hl 7 rfl) ?_
              refine lv_iconst (v := nI (3)) hx hb dL_acts_940 (by decide) ?_
              refine fa_callVip (As := [.int (nI (3))]) (rest := []) CX HX2169 (g_count l G n hn v2164 r2165 hC_v2164 (nI (3))) ln_L_15 (by omega) rfl rfl rfl rfl (Nat.le_of_ble_eq_true rfl) hl.1 ⟨Nat.le_of_ble_eq_true rfl, Nat.le_of_ble_eq_true rfl⟩ ⟨Nat.le_refl _, Nat.le_refl _⟩ dL_acts_941 (fun x2171 H locs h2170 HX2172 => ?_)
              have h_count := h2170
              have e_941 : x2171 = (fb_daysA A da).2.g 9 := ((h_count ((fb_daysA A da).2) hV_919.1 hV_919.2.2.1).trans (fb_cntA_3 (by decide)))
              subst e_941
              refine lv_iload hx hb dL_acts_944 (lv_at hl 5 rfl) ?_
              refine lv_iload hx hb dL_acts_946 (lv_at hl 2 rfl) ?_
              refine lv_iadd hx hb dL_acts_948 ?_
              refine lv_icmp_ne (tgt := 982) hx hb dL_acts_949 (by decide) (fun c_949 => ?_) (fun c_949 => ?_)
              · exact absurd (by rw [← hk.2.2.1]; exact (fc_diff _ _).symm) c_949
              · refine lv_aload_n hx hb dL_acts_952 rfl (lv_at hl 7 rfl) ?_
                refine lv_iconst (v := nI (4)) hx hb dL_acts_953 (by decide) ?_
                refine fa_callVip (As := [.int (nI (4))]) (rest := []) CX HX2172 (g_count l G n hn v2164 r2165 hC_v2164 (nI (4))) ln_L_15 (by omega) rfl rfl rfl rfl (Nat.le_of_ble_eq_true rfl) hl.1 ⟨Nat.le_of_ble_eq_true rfl, Nat.le_of_ble_eq_true rfl⟩ ⟨Nat.le_refl _, Nat.le_refl _⟩ dL_acts_954 (fun x2174 H locs h2173 HX2175 => ?_)
                have h_count := h2173
                have e_954 : x2174 = (fb_daysA A da).2.g 10 := ((h_count ((fb_daysA A da).2) hV_919.1 hV_919.2.2.1).trans (fb_cntA_4 (by decide)))
                subst e_954
                refine lv_iload hx hb dL_acts_957 (lv_at hl 4 rfl) ?_
                refine lv_iload hx hb dL_acts_959 (lv_at hl 1 rfl) ?_
                refine lv_iadd hx hb dL_acts_961 ?_
                refine lv_icmp_ne (tgt := 982) hx hb dL_acts_962 (by decide) (fun c_962 => ?_) (fun c_962 => ?_)
                · exact absurd (fc_diff _ _).symm c_962
                · refine lv_aload_n hx hb dL_acts_965 rfl (lv_at hl 7 rfl) ?_
                  refine lv_iconst (v := nI (5)) hx hb dL_acts_966 (by decide) ?_
                  refine fa_callVip (As := [.int (nI (5))]) (rest := []) CX HX2175 (g_count l G n hn v2164 r2165 hC_v2164 (nI (5))) ln_L_15 (by omega) rfl rfl rfl rfl (Nat.le_of_ble_eq_true rfl) hl.1 ⟨Nat.le_of_ble_eq_true rfl, Nat.le_of_ble_eq_true rfl⟩ ⟨Nat.le_refl _, Nat.le_refl _⟩ dL_acts_967 (fun x2177 H locs h2176 HX2178 => ?_)
                  have h_count := h2176
                  have e_967 : x2177 = (fb_daysA A da).2.g 11 := ((h_count ((fb_daysA A da).2) hV_919.1 hV_919.2.2.1).trans (fb_cntA_5 (by decide)))
                  subst e_967
                  refine lv_iload hx hb dL_acts_970 (lv_at hl 3 rfl) ?_
                  refine lv_iload hx hb dL_acts_972 (lv_at hl 0 rfl) ?_
                  refine lv_iadd hx hb dL_acts_974 ?_
                  refine lv_icmp_ne (tgt := 982) hx hb dL_acts_975 (by decide) (fun c_975 => ?_) (fun c_975 => ?_)
                  · exact absurd (fc_diff _ _).symm c_975
                  · refine lv_iconst (v := nI (1)) hx hb dL_acts_978 (by decide) ?_
                    refine lv_goto (tgt := 983) hx hb dL_acts_979 (by decide) ?_
                    exact RET _ _ _ _ _ _ _ HX2178 dL_acts_983 (by decide) (⟨⟨rfl, ((fb_daysA A da).2), _, dy + da, cm, b2, hV_919, hk_919.more (Nat.le_succ _), ⟨by omega, by omega, by omega, by omega⟩, hI_919⟩, hC_v2164, (fa_fr.tr (fa_fr.tr (fa_fr.tr (fa_fr.tr fa_fr.rf (fa_fr.wide h2147.2.2.1 (by omega) (by omega))) (fa_fr.wide h2152.2.2.1 (by omega) (by omega))) (fa_fr.wide h2157.2.2.1 (by omega) (by omega))) (fa_fr.wide h2162.2.2.1 (by omega) (by omega))), (fun k hk => ((h2162.2.2.2 k hk).trans ((h2157.2.2.2 k hk).trans ((h2152.2.2.2 k hk).trans ((h2147.2.2.2 k hk).trans rfl)))))⟩)
        refine lv_iconst (v := nI (1)) hx hb dL_acts_852 (by decide) ?_
        refine lv_iload_n hx hb dL_acts_853 rfl (lv_at hl 2 rfl) ?_
        refine lv_iconst (v := nI (4)) hx hb dL_acts_854 (by decide) ?_
        refine lv_ishr hx hb dL_acts_855 ?_
        rw [show (nI (ac)) >>> ((nI (4)) &&& 31) = nI (ac / 16) from fc_shr (k := 4) (by omega) (by decide)]
        refine lv_bipush (v := nI (120)) hx hb dL_acts_856 (by decide) ?_
        refine lv_irem hx hb dL_acts_858 (by decide) ?_
        rw [show (nI (ac / 16)) - (nI (ac / 16)) / (nI (120)) * (nI (120)) = nI ((ac / 16) % 120) from pk_rem (by omega) (by decide) (by omega)]
        refine fa_iaddN hx hb dL_acts_859 ?_
        refine lv_istore (lv' := [(26, .int (nI (1 + ((ac / 16) % 120)))), (4, .int (nI (kd))), (0, .ref (fa_B G + (0))), (1, .int (nI (ac))), (2, .int (nI (fi))), (3, .int (nI (ho)))]) hx hb dL_acts_860 hl (by decide) rfl (fun ls hl => ?_)
        exact JOIN_862 (1 + ((ac / 16) % 120))  _ _ _ (⟨by omega, by omega⟩) (lv_sub hl [2, 3, 4, 5, 1, 0] rfl) HX1956
    refine lv_iload_n hx hb dL_acts_22 rfl (lv_at hl 1 rfl) ?_
    refine lv_bipush (v := nI (9)) hx hb dL_acts_23 (by decide) ?_
    refine lv_ishr hx hb dL_acts_25 ?_
    rw [show (nI (ac)) >>> ((nI (9)) &&& 31) = nI (ac / 512) from fc_shr (k := 9) (by omega) (by decide)]
    refine lv_bipush (v := nI (8)) hx hb dL_acts_26 (by decide) ?_
    refine lv_irem hx hb dL_acts_28 (by decide) ?_
    rw [show (nI (ac / 512)) - (nI (ac / 512)) / (nI (8)) * (nI (8)) = nI ((ac / 512) % 8) from pk_rem (by omega) (by decide) (by omega)]
    refine lv_istore_n (lv' := [(3, .int (nI ((ac / 512) % 8))), (0, .ref (fa_B G + (0))), (1, .int (nI (ac))), (2, .int (nI (fi)))]) hx hb dL_acts_29 rfl hl (by decide) rfl (fun ls hl => ?_)
    exact JOIN_30 ((ac / 512) % 8)  _ _ _ (Nat.mod_lt _ (by decide)) (lv_sub hl [1, 2, 3, 0] rfl) HX1621
  refine lv_if_ne (tgt := 12) hx hb dL_acts_5 (by decide) (fun c_5 => ?_) (fun c_5 => ?_)
  · have hcm0 : 0 < cm := by
      refine Nat.pos_of_ne_zero (fun z => c_5 ?_)
      rw [z]; decide
    refine lv_iload_n hx hb dL_acts_12 rfl (lv_at hl 1 rfl) ?_
    refine lv_iconst (v := nI (4)) hx hb dL_acts_13 (by decide) ?_
    refine lv_ishr hx hb dL_acts_14 ?_
    rw [show (nI (ac)) >>> ((nI (4)) &&& 31) = nI (ac / 16) from fc_shr (k := 4) (by omega) (by decide)]
    refine lv_aload_n hx hb dL_acts_15 rfl (lv_at hl 0 rfl) ?_
    refine lv_iconst (v := nI (1)) hx hb dL_acts_16 (by decide) ?_
    refine fa_callVip (As := [.int (nI (1))]) (rest := [.int (nI (ac / 16))]) CX HX1620 (g_count l G n hn v r hC (nI (1))) ln_L_15 (by omega) rfl rfl rfl rfl (Nat.le_of_ble_eq_true rfl) hl.1 ⟨Nat.le_of_ble_eq_true rfl, Nat.le_of_ble_eq_true rfl⟩ ⟨Nat.le_refl _, Nat.le_refl _⟩ dL_acts_17 (fun x2180 H locs h2179 HX2181 => ?_)
    have h_count := h2179
    have e_17 : x2180 = nI (cm) := (((h_count A hV.1 hV.2.2.1).trans (fb_cntA_1 (by decide))).trans hk.2.1)
    subst e_17
    refine lv_irem hx hb dL_acts_20 (nI_ne0 hcm0 (by omega)) ?_
    rw [show (nI (ac / 16)) - (nI (ac / 16)) / (nI (cm)) * (nI (cm)) = nI ((ac / 16) % cm) from pk_rem (by omega) hcm0 (by omega)]
    refine lv_istore_n (lv' := [(2, .int (nI ((ac / 16) % cm))), (0, .ref (fa_B G + (0))), (1, .int (nI (ac)))]) hx hb dL_acts_21 rfl hl (by decide) rfl (fun ls hl => ?_)
    exact JOIN_22 ((ac / 16) % cm)  _ _ _ (Or.inl (Nat.mod_lt _ hcm0)) (lv_sub hl [1, 2, 0] rfl) HX2181
  · have hcm0 : cm = 0 := fa_nIinj (by omega) (by decide) (by first | exact c_5 | exact Decidable.not_not.mp c_5)
    refine lv_iconst (v := nI (0)) hx hb dL_acts_8 (by decide) ?_
    refine lv_goto (tgt := 21) hx hb dL_acts_9 (by decide) ?_
    refine lv_istore_n (lv' := [(2, .int (nI (0))), (0, .ref (fa_B G + (0))), (1, .int (nI (ac)))]) hx hb dL_acts_21 rfl hl (by decide) rfl (fun ls hl => ?_)
    exact JOIN_22 (0)  _ _ _ (Or.inr ⟨hcm0, rfl⟩) (lv_sub hl [1, 2, 0] rfl) HX1620
