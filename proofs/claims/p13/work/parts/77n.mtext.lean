set_option maxHeartbeats 4000000 in
set_option maxRecDepth 100000 in
theorem r_readsOrder (l : Launch) (G : fa_G) (n : Nat) (hn : 406 ≤ n) (v : fa_V) (r : fa_R) (hM : fa_RM r) (n9 na no : Nat) (h9 : n9 ≤ 60) (hna : na ≤ n9) (hno : 2 * no ≤ na) (g9 : v 397 9 = nI n9) (gA : v 397 12 = nI na) (gO : v 397 11 = nI no) (t : Nat → Int32) (h5 : v 405 = t) : fa_MI l G n yX7_readsOrder cX7_readsOrder 2 (some .boolean) 4 [.ref (fa_B G + (397))] v r (fa_voi r (fun x v1 => ((x = if (fa_ord (fa_sg t n9) na).1 = true then nI 1 else nI 0) ∧ ∃ m o, (na ≤ m ∧ m ≤ n9 ∧ 2 * o ≤ m ∧ fa_is m ((fa_ord (fa_sg t n9) na).2.1) ∧ fa_is o (fa_o1 (fa_ord (fa_sg t n9) na).1 no)) ∧ v1 397 12 = nI m ∧ v1 397 11 = nI o ∧ fa_f3 v v1 ∧ ((∀ i, i < 4 * no → v1 403 i = v 403 i) ∧ v1 403 (4 * no) = nI na ∧ v1 403 (4 * no + 1) = fa_sg t n9 na ∧ ((fa_ord (fa_sg t n9) na).1 = true → v1 403 (4 * no + 2) = (fa_ord (fa_sg t n9) na).2.2.1 ∧ (¬ fa_sg t n9 na = (97 : Int32) → ¬ fa_sg t n9 na = (100 : Int32) → v1 403 (4 * no + 3) = (fa_ord (fa_sg t n9) na).2.2.2)))) ∧ (fa_fr (397) (404) v v1))) := by
  refine fa_startZ (by decide +kernel) (Nat.le_of_ble_eq_true rfl) (fun p e s m args below meth c ls Q CX hl HX RET => ?_)
  have hl : lv_has ls 2 [(0, .ref (fa_B G + (397)))] := hl
  have hx := CX.1.1
  have hb := CX.1.2.1
  refine lv_aload_n hx hb dX7_readsOrder_0 rfl (lv_at hl 0 rfl) ?_
  refine fa_getr (k := 397) (j := 403) CX HX fl_X7_26 (by omega) rfl rfl hM.2.2.2.2.2.1 dX7_readsOrder_1 ?_
  refine lv_iconst (v := nI (4)) hx hb dX7_readsOrder_4 (by decide) ?_
  refine lv_aload_n hx hb dX7_readsOrder_5 rfl (lv_at hl 0 rfl) ?_
  refine fa_geti (k := 397) CX HX fl_X7_141 (by omega) rfl rfl dX7_readsOrder_6 ?_
  rw [show v 397 11 = nI (no) from gO]
  refine fa_imulN hx hb dX7_readsOrder_9 ?_
  refine lv_aload_n hx hb dX7_readsOrder_10 rfl (lv_at hl 0 rfl) ?_
  refine fa_geti (k := 397) CX HX fl_X7_134 (by omega) rfl rfl dX7_readsOrder_11 ?_
  rw [show v 397 12 = nI (na) from gA]
  refine fa_iast (k := 403) (j := 4 * no) CX HX (by omega) rfl (by omega) (by first | decide | assumption) dX7_readsOrder_14 (fun H locs v2210 e2211 HX2212 => ?_)
  refine lv_aload_n hx hb dX7_readsOrder_15 rfl (lv_at hl 0 rfl) ?_
  refine fa_getr (k := 397) (j := 403) CX HX2212 fl_X7_26 (by omega) rfl rfl hM.2.2.2.2.2.1 dX7_readsOrder_16 ?_
  refine lv_iconst (v := nI (4)) hx hb dX7_readsOrder_19 (by decide) ?_
  refine lv_aload_n hx hb dX7_readsOrder_20 rfl (lv_at hl 0 rfl) ?_
  refine fa_geti (k := 397) CX HX2212 fl_X7_141 (by omega) rfl rfl dX7_readsOrder_21 ?_
  rw [show v2210 397 11 = nI (no) from (by rw [e2211, fa_u_n _ _ (by omega)]; exact gO)]
  refine fa_imulN hx hb dX7_readsOrder_24 ?_
  refine lv_iconst (v := nI (1)) hx hb dX7_readsOrder_25 (by decide) ?_
  refine fa_iaddN hx hb dX7_readsOrder_26 ?_
  refine lv_aload_n hx hb dX7_readsOrder_27 rfl (lv_at hl 0 rfl) ?_
  refine fa_geti (k := 397) CX HX2212 fl_X7_134 (by omega) rfl rfl dX7_readsOrder_28 ?_
  rw [show v2210 397 12 = nI (na) from (by rw [e2211, fa_u_n _ _ (by omega)]; exact gA)]
  refine lv_aload_n hx hb dX7_readsOrder_31 rfl (lv_at hl 0 rfl) ?_
  refine fa_geti (k := 397) CX HX2212 fl_X7_131 (by omega) rfl rfl dX7_readsOrder_32 ?_
  rw [show v2210 397 9 = nI (n9) from (by rw [e2211, fa_u_n _ _ (by omega)]; exact g9)]
  refine lv_icmp_ge (tgt := 50) hx hb dX7_readsOrder_35 (by decide) (fun c_35 => ?_) (fun c_35 => ?_)
  · have hge0 := fa_leN (by omega) (by omega) c_35
    refine lv_iconst (v := nI (0)) hx hb dX7_readsOrder_50 (by decide) ?_
    refine fa_iast (k := 403) (j := 4 * no + 1) CX HX2212 (by omega) rfl (by omega) (by first | decide | assumption) dX7_readsOrder_51 (fun H locs v2213 e2214 HX2215 => ?_)
    have hA : ∀ i, i < 4 * no → v2213 403 i = v 403 i := fun i hi => by rw [e2214, fa_u_n _ _ (by omega), e2211, fa_u_n _ _ (by omega)]
    have hB : v2213 403 (4 * no) = nI na := by rw [e2214, fa_u_n _ _ (by omega), e2211, fa_u_s]
    have hC : v2213 403 (4 * no + 1) = fa_sg t n9 na := by rw [e2214, fa_u_s]; exact (show (nI 0 : Int32) = fa_sg t n9 na from by rw [fa_sg_out hge0]; rfl)
    refine lv_aload_n hx hb dX7_readsOrder_52 rfl (lv_at hl 0 rfl) ?_
    refine lv_bipush (v := nI (110)) hx hb dX7_readsOrder_53 (by decide) ?_
    refine fa_callViu (As := [.int (nI (110))]) (rest := []) CX HX2215 (r_accepts l G n hn v2213 r hM (n9) (na) (no) (by omega) (by omega) (by omega) (by rw [e2214, fa_u_n _ _ (by omega)]; exact (by rw [e2211, fa_u_n _ _ (by omega)]; exact g9)) (by rw [e2214, fa_u_n _ _ (by omega)]; exact (by rw [e2211, fa_u_n _ _ (by omega)]; exact gA)) (by rw [e2214, fa_u_n _ _ (by omega)]; exact (by rw [e2211, fa_u_n _ _ (by omega)]; exact gO)) t (((congrFun e2214 405).trans (fa_u_k _ _ (by decide))).trans (((congrFun e2211 405).trans (fa_u_k _ _ (by decide))).trans h5)) (nI (110)) (by decide)) ln_X7_144 (by omega) rfl rfl rfl rfl (Nat.le_of_ble_eq_true rfl) hl.1 ⟨Nat.le_of_ble_eq_true rfl, Nat.le_of_ble_eq_true rfl⟩ ⟨Nat.le_refl _, Nat.le_refl _⟩ dX7_readsOrder_55 (fun x2217 v2218 H locs h2216 HX2219 => ?_)
    obtain ⟨hx_x2217, m_x2217, o_x2217, ⟨ha_x2217, hc_x2217, hd_x2217, hm_x2217, ho_x2217⟩, gm_x2217, go_x2217, hf_x2217, hr_x2217⟩ := h2216.1
    have hxa := hx_x2217
    have hma := hm_x2217
    refine lv_if_eq (tgt := 100) hx hb dX7_readsOrder_58 (by decide) (fun c_58 => ?_) (fun c_58 => ?_)
    · have hS110 : ¬ fa_sg t n9 na = (110 : Int32) := fa_ifn hxa (by first | exact c_58 | exact Decidable.not_not.mp c_58)
      have hp110 := hma.e.trans (fa_acc_f hS110)
      clear ha_x2217 hc_x2217 hd_x2217 hxa hma
      refine lv_aload_n hx hb dX7_readsOrder_100 rfl (lv_at hl 0 rfl) ?_
      refine lv_bipush (v := nI (97)) hx hb dX7_readsOrder_101 (by decide) ?_
      refine fa_callViu (As := [.int (nI (97))]) (rest := []) CX HX2219 (r_accepts l G n hn v2218 r hM (n9) (na) (no) (by omega) (by omega) (by omega) ((hf_x2217.2 9 (by decide) (by decide)).trans (by rw [e2214, fa_u_n _ _ (by omega)]; exact (by rw [e2211, fa_u_n _ _ (by omega)]; exact g9))) ((gm_x2217).trans (congrArg nI hp110)) (go_x2217.trans (congrArg nI ho_x2217.e)) t ((h2216.2 405 (by omega)).trans (((congrFun e2214 405).trans (fa_u_k _ _ (by decide))).trans (((congrFun e2211 405).trans (fa_u_k _ _ (by decide))).trans h5))) (nI (97)) (by decide)) ln_X7_144 (by omega) rfl rfl rfl rfl (Nat.le_of_ble_eq_true rfl) hl.1 ⟨Nat.le_of_ble_eq_true rfl, Nat.le_of_ble_eq_true rfl⟩ ⟨Nat.le_refl _, Nat.le_refl _⟩ dX7_readsOrder_103 (fun x2221 v2222 H locs h2220 HX2223 => ?_)
      obtain ⟨hx_x2221, m_x2221, o_x2221, ⟨ha_x2221, hc_x2221, hd_x2221, hm_x2221, ho_x2221⟩, gm_x2221, go_x2221, hf_x2221, hr_x2221⟩ := h2220.1
      have hxa := hx_x2221
      have hma := hm_x2221
      refine lv_if_eq (tgt := 122) hx hb dX7_readsOrder_106 (by decide) (fun c_106 => ?_) (fun c_106 => ?_)
      · have hS97 : ¬ fa_sg t n9 na = (97 : Int32) := fa_ifn hxa (by first | exact c_106 | exact Decidable.not_not.mp c_106)
        have hp97 := hma.e.trans (fa_acc_f hS97)
        clear ha_x2221 hc_x2221 hd_x2221 hxa hma
        refine lv_aload_n hx hb dX7_readsOrder_122 rfl (lv_at hl 0 rfl) ?_
        refine lv_bipush (v := nI (115)) hx hb dX7_readsOrder_123 (by decide) ?_
        refine fa_callViu (As := [.int (nI (115))]) (rest := []) CX HX2223 (r_accepts l G n hn v2222 r hM (n9) (na) (no) (by omega) (by omega) (by omega) ((hf_x2221.2 9 (by decide) (by decide)).trans ((hf_x2217.2 9 (by decide) (by decide)).trans (by rw [e2214, fa_u_n _ _ (by omega)]; exact (by rw [e2211, fa_u_n _ _ (by omega)]; exact g9)))) ((gm_x2221).trans (congrArg nI hp97)) (go_x2221.trans (congrArg nI ho_x2221.e)) t ((h2220.2 405 (by omega)).trans ((h2216.2 405 (by omega)).trans (((congrFun e2214 405).trans (fa_u_k _ _ (by decide))).trans (((congrFun e2211 405).trans (fa_u_k _ _ (by decide))).trans h5)))) (nI (115)) (by decide)) ln_X7_144 (by omega) rfl rfl rfl rfl (Nat.le_of_ble_eq_true rfl) hl.1 ⟨Nat.le_of_ble_eq_true rfl, Nat.le_of_ble_eq_true rfl⟩ ⟨Nat.le_refl _, Nat.le_refl _⟩ dX7_readsOrder_125 (fun x2225 v2226 H locs h2224 HX2227 => ?_)
        obtain ⟨hx_x2225, m_x2225, o_x2225, ⟨ha_x2225, hc_x2225, hd_x2225, hm_x2225, ho_x2225⟩, gm_x2225, go_x2225, hf_x2225, hr_x2225⟩ := h2224.1
        have hxa := hx_x2225
        have hma := hm_x2225
        refine lv_if_ne (tgt := 140) hx hb dX7_readsOrder_128 (by decide) (fun c_128 => ?_) (fun c_128 => ?_)
        · have hS115 : fa_sg t n9 na = (115 : Int32) := fa_ift hxa c_128
          have hp115 := hma.e.trans (fa_acc_t hS115)
          have hlt : na < n9 := fa_sg_nz hS115 (by decide)
          clear ha_x2225 hc_x2225 hd_x2225
          refine lv_aload_n hx hb dX7_readsOrder_140 rfl (lv_at hl 0 rfl) ?_
          refine lv_iconst (v := nI (2)) hx hb dX7_readsOrder_141 (by decide) ?_
          refine lv_iconst (v := nI (0)) hx hb dX7_readsOrder_142 (by decide) ?_
          refine lv_bipush (v := nI (7)) hx hb dX7_readsOrder_143 (by decide) ?_
          refine fa_callViu (As := [.int (nI (2)), .int (nI (0)), .int (nI (7))]) (rest := []) CX HX2227 (r_number l G n hn v2226 r hM (n9) (na + 1) (no) (by omega) (by omega) (by omega) ((hf_x2225.2 9 (by decide) (by decide)).trans ((hf_x2221.2 9 (by decide) (by decide)).trans ((hf_x2217.2 9 (by decide) (by decide)).trans (by rw [e2214, fa_u_n _ _ (by omega)]; exact (by rw [e2211, fa_u_n _ _ (by omega)]; exact g9))))) ((gm_x2225).trans (congrArg nI hp115)) (go_x2225.trans (congrArg nI ho_x2225.e)) t ((h2224.2 405 (by omega)).trans ((h2220.2 405 (by omega)).trans ((h2216.2 405 (by omega)).trans (((congrFun e2214 405).trans (fa_u_k _ _ (by decide))).trans (((congrFun e2211 405).trans (fa_u_k _ _ (by decide))).trans h5))))) (2) (nI (0)) (nI (7)) (by omega) ⟨0, by decide, rfl⟩ ⟨7, by decide, rfl⟩) ln_X7_148 (by omega) rfl rfl rfl rfl (Nat.le_of_ble_eq_true rfl) hl.1 ⟨Nat.le_of_ble_eq_true rfl, Nat.le_of_ble_eq_true rfl⟩ ⟨Nat.le_refl _, Nat.le_refl _⟩ dX7_readsOrder_145 (fun x2229 v2230 H locs h2228 HX2231 => ?_)
          obtain ⟨hx_x2229, m_x2229, o_x2229, ⟨ha_x2229, hc_x2229, hd_x2229, hm_x2229, ho_x2229⟩, gm_x2229, go_x2229, hf_x2229, hr_x2229⟩ := h2228.1
          have hxn1 := hx_x2229
          have hmn1 := hm_x2229
          refine lv_if_eq (tgt := 176) hx hb dX7_readsOrder_148 (by decide) (fun c_148 => ?_) (fun c_148 => ?_)
          · have hn1 := fa_ifn hxn1 c_148
            refine lv_iconst (v := nI (0)) hx hb dX7_readsOrder_176 (by decide) ?_
            refine lv_istore_n (lv' := [(1, .int (nI (0))), (0, .ref (fa_B G + (397)))]) hx hb dX7_readsOrder_177 rfl hl (by decide) rfl (fun ls hl => ?_)
            refine lv_goto (tgt := 259) hx hb dX7_readsOrder_178 (by decide) ?_
            refine lv_aload_n hx hb dX7_readsOrder_259 rfl (lv_at hl 1 rfl) ?_
            refine lv_dup hx hb dX7_readsOrder_260 rfl ?_
            refine fa_geti (k := 397) CX HX2231 fl_X7_141 (by omega) rfl rfl dX7_readsOrder_261 ?_
            rw [show v2230 397 11 = nI (no) from (go_x2229.trans (congrArg nI ho_x2229.e))]
            refine lv_iload_n hx hb dX7_readsOrder_264 rfl (lv_at hl 0 rfl) ?_
            refine lv_if_eq (tgt := 272) hx hb dX7_readsOrder_265 (by decide) (fun c_265 => ?_) (fun c_265 => ?_)
            · refine lv_iconst (v := nI (0)) hx hb dX7_readsOrder_272 (by decide) ?_
              refine fa_iaddN hx hb dX7_readsOrder_273 ?_
              refine fa_puti (k := 397) CX HX2231 fl_X7_141 (by omega) rfl rfl rfl rfl dX7_readsOrder_274 (fun H locs v2232 e2233 HX2234 => ?_)
              refine lv_iload_n hx hb dX7_readsOrder_277 rfl (lv_at hl 0 rfl) ?_
              exact RET _ _ _ _ _ _ _ HX2234 dX7_readsOrder_278 (by decide) (⟨rfl, ⟨⟨(by rw [((fa_ord_s (Or.inl hS115)).trans (fa_two_f hn1))]; exact rfl), m_x2229, no + 0, ⟨by omega, by omega, by omega, fa_is.mk (by rw [((fa_ord_s (Or.inl hS115)).trans (fa_two_f hn1))]; exact hmn1.e), fa_is.mk (by rw [((fa_ord_s (Or.inl hS115)).trans (fa_two_f hn1))]; exact (show no + 0 = no by omega))⟩, (show v2232 397 12 = nI (m_x2229) from (by rw [e2233, fa_u_n _ _ (by omega)]; exact gm_x2229)), (show v2232 397 11 = nI (no + 0) from (by rw [e2233, fa_u_s])), (show fa_f3 v v2232 from (by rw [e2233]; exact fa_f3.w (fa_f3.tr (fa_f3.tr (fa_f3.tr (fa_f3.tr (by rw [e2214]; exact fa_f3.u (by rw [e2211]; exact fa_f3.u fa_f3.rf)) hf_x2217) hf_x2221) hf_x2225) hf_x2229) (by decide))), (by rw [((fa_ord_s (Or.inl hS115)).trans (fa_two_f hn1))]; exact ⟨(fun i hi => (by show v2232 403 i = _; rw [e2233, fa_u_k _ _ (by decide), hr_x2229.2 i (by omega), hr_x2225, hr_x2221, hr_x2217]; exact hA i hi)), (by show v2232 403 (4 * no) = _; rw [e2233, fa_u_k _ _ (by decide), hr_x2229.2 (4 * no) (by omega), hr_x2225, hr_x2221, hr_x2217]; exact hB), (by show v2232 403 (4 * no + 1) = _; rw [e2233, fa_u_k _ _ (by decide), hr_x2229.2 (4 * no + 1) (by omega), hr_x2225, hr_x2221, hr_x2217]; exact hC), (fun z => absurd (show false = true from z) (by decide))⟩)⟩, (by rw [e2233]; exact fa_fr.u (fa_fr.tr (fa_fr.tr (fa_fr.tr (fa_fr.tr (by rw [e2214]; exact fa_fr.u (by rw [e2211]; exact fa_fr.u fa_fr.rf (by omega)) (by omega)) (fa_fr.wide h2216.2 (by omega) (by omega))) (fa_fr.wide h2220.2 (by omega) (by omega))) (fa_fr.wide h2224.2 (by omega) (by omega))) (fa_fr.wide h2228.2 (by omega) (by omega))) (by omega))⟩⟩)
            · exact absurd (by try decide) c_265
          · have hn1 := fa_ift hxn1 c_148
            refine lv_aload_n hx hb dX7_readsOrder_151 rfl (lv_at hl 0 rfl) ?_
            refine lv_bipush (v := nI (44)) hx hb dX7_readsOrder_152 (by decide) ?_
            refine fa_callViu (As := [.int (nI (44))]) (rest := []) CX HX2231 (r_accepts l G n hn v2230 r hM (n9) (m_x2229) (no) (by omega) (by omega) (by omega) ((hf_x2229.2 9 (by decide) (by decide)).trans ((hf_x2225.2 9 (by decide) (by decide)).trans ((hf_x2221.2 9 (by decide) (by decide)).trans ((hf_x2217.2 9 (by decide) (by decide)).trans (by rw [e2214, fa_u_n _ _ (by omega)]; exact (by rw [e2211, fa_u_n _ _ (by omega)]; exact g9)))))) gm_x2229 (go_x2229.trans (congrArg nI ho_x2229.e)) t ((h2228.2 405 (by omega)).trans ((h2224.2 405 (by omega)).trans ((h2220.2 405 (by omega)).trans ((h2216.2 405 (by omega)).trans (((congrFun e2214 405).trans (fa_u_k _ _ (by decide))).trans (((congrFun e2211 405).trans (fa_u_k _ _ (by decide))).trans h5)))))) (nI (44)) (by decide)) ln_X7_144 (by omega) rfl rfl rfl rfl (Nat.le_of_ble_eq_true rfl) hl.1 ⟨Nat.le_of_ble_eq_true rfl, Nat.le_of_ble_eq_true rfl⟩ ⟨Nat.le_refl _, Nat.le_refl _⟩ dX7_readsOrder_154 (fun x2236 v2237 H locs h2235 HX2238 => ?_)
            obtain ⟨hx_x2236, m_x2236, o_x2236, ⟨ha_x2236, hc_x2236, hd_x2236, hm_x2236, ho_x2236⟩, gm_x2236, go_x2236, hf_x2236, hr_x2236⟩ := h2235.1
            have hxc := hx_x2236
            have hmc := hm_x2236
            refine lv_if_eq (tgt := 176) hx hb dX7_readsOrder_157 (by decide) (fun c_157 => ?_) (fun c_157 => ?_)
            · have hcm := fa_ifn hxc c_157
              have hpc := hmc.e.trans (fa_acc_f hcm)
              refine lv_iconst (v := nI (0)) hx hb dX7_readsOrder_176 (by decide) ?_
              refine lv_istore_n (lv' := [(1, .int (nI (0))), (0, .ref (fa_B G + (397)))]) hx hb dX7_readsOrder_177 rfl hl (by decide) rfl (fun ls hl => ?_)
              refine lv_goto (tgt := 259) hx hb dX7_readsOrder_178 (by decide) ?_
              refine lv_aload_n hx hb dX7_readsOrder_259 rfl (lv_at hl 1 rfl) ?_
              refine lv_dup hx hb dX7_readsOrder_260 rfl ?_
              refine fa_geti (k := 397) CX HX2238 fl_X7_141 (by omega) rfl rfl dX7_readsOrder_261 ?_
              rw [show v2237 397 11 = nI (no) from (go_x2236.trans (congrArg nI ho_x2236.e))]
              refine lv_iload_n hx hb dX7_readsOrder_264 rfl (lv_at hl 0 rfl) ?_
              refine lv_if_eq (tgt := 272) hx hb dX7_readsOrder_265 (by decide) (fun c_265 => ?_) (fun c_265 => ?_)
              · refine lv_iconst (v := nI (0)) hx hb dX7_readsOrder_272 (by decide) ?_
                refine fa_iaddN hx hb dX7_readsOrder_273 ?_
                refine fa_puti (k := 397) CX HX2238 fl_X7_141 (by omega) rfl rfl rfl rfl dX7_readsOrder_274 (fun H locs v2239 e2240 HX2241 => ?_)
                refine lv_iload_n hx hb dX7_readsOrder_277 rfl (lv_at hl 0 rfl) ?_
                exact RET _ _ _ _ _ _ _ HX2241 dX7_readsOrder_278 (by decide) (⟨rfl, ⟨⟨(by rw [((fa_ord_s (Or.inl hS115)).trans (fa_two_c hn1 hmn1.e hcm))]; exact rfl), m_x2229, no + 0, ⟨by omega, by omega, by omega, fa_is.mk (by rw [((fa_ord_s (Or.inl hS115)).trans (fa_two_c hn1 hmn1.e hcm))]), fa_is.mk (by rw [((fa_ord_s (Or.inl hS115)).trans (fa_two_c hn1 hmn1.e hcm))]; exact (show no + 0 = no by omega))⟩, (show v2239 397 12 = nI (m_x2229) from (by rw [e2240, fa_u_n _ _ (by omega)]; exact ((gm_x2236).trans (congrArg nI hpc)))), (show v2239 397 11 = nI (no + 0) from (by rw [e2240, fa_u_s])), (show fa_f3 v v2239 from (by rw [e2240]; exact fa_f3.w (fa_f3.tr (fa_f3.tr (fa_f3.tr (fa_f3.tr (fa_f3.tr (by rw [e2214]; exact fa_f3.u (by rw [e2211]; exact fa_f3.u fa_f3.rf)) hf_x2217) hf_x2221) hf_x2225) hf_x2229) hf_x2236) (by decide))), (by rw [((fa_ord_s (Or.inl hS115)).trans (fa_two_c hn1 hmn1.e hcm))]; exact ⟨(fun i hi => (by show v2239 403 i = _; rw [e2240, fa_u_k _ _ (by decide), hr_x2236, hr_x2229.2 i (by omega), hr_x2225, hr_x2221, hr_x2217]; exact hA i hi)), (by show v2239 403 (4 * no) = _; rw [e2240, fa_u_k _ _ (by decide), hr_x2236, hr_x2229.2 (4 * no) (by omega), hr_x2225, hr_x2221, hr_x2217]; exact hB), (by show v2239 403 (4 * no + 1) = _; rw [e2240, fa_u_k _ _ (by decide), hr_x2236, hr_x2229.2 (4 * no + 1) (by omega), hr_x2225, hr_x2221, hr_x2217]; exact hC), (fun z => absurd (show false = true from z) (by decide))⟩)⟩, (by rw [e2240]; exact fa_fr.u (fa_fr.tr (fa_fr.tr (fa_fr.tr (fa_fr.tr (fa_fr.tr (by rw [e2214]; exact fa_fr.u (by rw [e2211]; exact fa_fr.u fa_fr.rf (by omega)) (by omega)) (fa_fr.wide h2216.2 (by omega) (by omega))) (fa_fr.wide h2220.2 (by omega) (by omega))) (fa_fr.wide h2224.2 (by omega) (by omega))) (fa_fr.wide h2228.2 (by omega) (by omega))) (fa_fr.wide h2235.2 (by omega) (by omega))) (by omega))⟩⟩)
              · exact absurd (by try decide) c_265
            · have hcm := fa_ift hxc c_157
              have hpc := hmc.e.trans (fa_acc_t hcm)
              refine lv_aload_n hx hb dX7_readsOrder_160 rfl (lv_at hl 0 rfl) ?_
              refine lv_iconst (v := nI (3)) hx hb dX7_readsOrder_161 (by decide) ?_
              refine lv_iconst (v := nI (0)) hx hb dX7_readsOrder_162 (by decide) ?_
              refine lv_sipush (v := nI (199)) hx hb dX7_readsOrder_163 (by decide) ?_
              refine fa_callViu (As := [.int (nI (3)), .int (nI (0)), .int (nI (199))]) (rest := []) CX HX2238 (r_number l G n hn v2237 r hM (n9) (m_x2229 + 1) (no) (by omega) (by omega) (by omega) ((hf_x2236.2 9 (by decide) (by decide)).trans ((hf_x2229.2 9 (by decide) (by decide)).trans ((hf_x2225.2 9 (by decide) (by decide)).trans ((hf_x2221.2 9 (by decide) (by decide)).trans ((hf_x2217.2 9 (by decide) (by decide)).trans (by rw [e2214, fa_u_n _ _ (by omega)]; exact (by rw [e2211, fa_u_n _ _ (by omega)]; exact g9))))))) ((gm_x2236).trans (congrArg nI hpc)) (go_x2236.trans (congrArg nI ho_x2236.e)) t ((h2235.2 405 (by omega)).trans ((h2228.2 405 (by omega)).trans ((h2224.2 405 (by omega)).trans ((h2220.2 405 (by omega)).trans ((h2216.2 405 (by omega)).trans (((congrFun e2214 405).trans (fa_u_k _ _ (by decide))).trans (((congrFun e2211 405).trans (fa_u_k _ _ (by decide))).trans h5))))))) (3) (nI (0)) (nI (199)) (by omega) ⟨0, by decide, rfl⟩ ⟨199, by decide, rfl⟩) ln_X7_148 (by omega) rfl rfl rfl rfl (Nat.le_of_ble_eq_true rfl) hl.1 ⟨Nat.le_of_ble_eq_true rfl, Nat.le_of_ble_eq_true rfl⟩ ⟨Nat.le_refl _, Nat.le_refl _⟩ dX7_readsOrder_166 (fun x2243 v2244 H locs h2242 HX2245 => ?_)
              obtain ⟨hx_x2243, m_x2243, o_x2243, ⟨ha_x2243, hc_x2243, hd_x2243, hm_x2243, ho_x2243⟩, gm_x2243, go_x2243, hf_x2243, hr_x2243⟩ := h2242.1
              have hxn2 := hx_x2243
              have hmn2 := hm_x2243
              refine lv_if_eq (tgt := 176) hx hb dX7_readsOrder_169 (by decide) (fun c_169 => ?_) (fun c_169 => ?_)
              · have hn2 := fa_ifn hxn2 c_169
                refine lv_iconst (v := nI (0)) hx hb dX7_readsOrder_176 (by decide) ?_
                refine lv_istore_n (lv' := [(1, .int (nI (0))), (0, .ref (fa_B G + (397)))]) hx hb dX7_readsOrder_177 rfl hl (by decide) rfl (fun ls hl => ?_)
                refine lv_goto (tgt := 259) hx hb dX7_readsOrder_178 (by decide) ?_
                refine lv_aload_n hx hb dX7_readsOrder_259 rfl (lv_at hl 1 rfl) ?_
                refine lv_dup hx hb dX7_readsOrder_260 rfl ?_
                refine fa_geti (k := 397) CX HX2245 fl_X7_141 (by omega) rfl rfl dX7_readsOrder_261 ?_
                rw [show v2244 397 11 = nI (no) from (go_x2243.trans (congrArg nI ho_x2243.e))]
                refine lv_iload_n hx hb dX7_readsOrder_264 rfl (lv_at hl 0 rfl) ?_
                refine lv_if_eq (tgt := 272) hx hb dX7_readsOrder_265 (by decide) (fun c_265 => ?_) (fun c_265 => ?_)
                · refine lv_iconst (v := nI (0)) hx hb dX7_readsOrder_272 (by decide) ?_
                  refine fa_iaddN hx hb dX7_readsOrder_273 ?_
                  refine fa_puti (k := 397) CX HX2245 fl_X7_141 (by omega) rfl rfl rfl rfl dX7_readsOrder_274 (fun H locs v2246 e2247 HX2248 => ?_)
                  refine lv_iload_n hx hb dX7_readsOrder_277 rfl (lv_at hl 0 rfl) ?_
                  exact RET _ _ _ _ _ _ _ HX2248 dX7_readsOrder_278 (by decide) (⟨rfl, ⟨⟨(by rw [((fa_ord_s (Or.inl hS115)).trans (fa_two_n hn1 hmn1.e hcm hn2))]; exact rfl), m_x2243, no + 0, ⟨by omega, by omega, by omega, fa_is.mk (by rw [((fa_ord_s (Or.inl hS115)).trans (fa_two_n hn1 hmn1.e hcm hn2))]; exact hmn2.e), fa_is.mk (by rw [((fa_ord_s (Or.inl hS115)).trans (fa_two_n hn1 hmn1.e hcm hn2))]; exact (show no + 0 = no by omega))⟩, (show v2246 397 12 = nI (m_x2243) from (by rw [e2247, fa_u_n _ _ (by omega)]; exact gm_x2243)), (show v2246 397 11 = nI (no + 0) from (by rw [e2247, fa_u_s])), (show fa_f3 v v2246 from (by rw [e2247]; exact fa_f3.w (fa_f3.tr (fa_f3.tr (fa_f3.tr (fa_f3.tr (fa_f3.tr (fa_f3.tr (by rw [e2214]; exact fa_f3.u (by rw [e2211]; exact fa_f3.u fa_f3.rf)) hf_x2217) hf_x2221) hf_x2225) hf_x2229) hf_x2236) hf_x2243) (by decide))), (by rw [((fa_ord_s (Or.inl hS115)).trans (fa_two_n hn1 hmn1.e hcm hn2))]; exact ⟨(fun i hi => (by show v2246 403 i = _; rw [e2247, fa_u_k _ _ (by decide), hr_x2243.2 i (by omega), hr_x2236, hr_x2229.2 i (by omega), hr_x2225, hr_x2221, hr_x2217]; exact hA i hi)), (by show v2246 403 (4 * no) = _; rw [e2247, fa_u_k _ _ (by decide), hr_x2243.2 (4 * no) (by omega), hr_x2236, hr_x2229.2 (4 * no) (by omega), hr_x2225, hr_x2221, hr_x2217]; exact hB), (by show v2246 403 (4 * no + 1) = _; rw [e2247, fa_u_k _ _ (by decide), hr_x2243.2 (4 * no + 1) (by omega), hr_x2236, hr_x2229.2 (4 * no + 1) (by omega), hr_x2225, hr_x2221, hr_x2217]; exact hC), (fun z => absurd (show false = true from z) (by decide))⟩)⟩, (by rw [e2247]; exact fa_fr.u (fa_fr.tr (fa_fr.tr (fa_fr.tr (fa_fr.tr (fa_fr.tr (fa_fr.tr (by rw [e2214]; exact fa_fr.u (by rw [e2211]; exact fa_fr.u fa_fr.rf (by omega)) (by omega)) (fa_fr.wide h2216.2 (by omega) (by omega))) (fa_fr.wide h2220.2 (by omega) (by omega))) (fa_fr.wide h2224.2 (by omega) (by omega))) (fa_fr.wide h2228.2 (by omega) (by omega))) (fa_fr.wide h2235.2 (by omega) (by omega))) (fa_fr.wide h2242.2 (by omega) (by omega))) (by omega))⟩⟩)
                · exact absurd (by try decide) c_265
              · have hn2 := fa_ift hxn2 c_169
                refine lv_iconst (v := nI (1)) hx hb dX7_readsOrder_172 (by decide) ?_
                refine lv_goto (tgt := 177) hx hb dX7_readsOrder_173 (by decide) ?_
                refine lv_istore_n (lv' := [(1, .int (nI (1))), (0, .ref (fa_B G + (397)))]) hx hb dX7_readsOrder_177 rfl hl (by decide) rfl (fun ls hl => ?_)
                refine lv_goto (tgt := 259) hx hb dX7_readsOrder_178 (by decide) ?_
                refine lv_aload_n hx hb dX7_readsOrder_259 rfl (lv_at hl 1 rfl) ?_
                refine lv_dup hx hb dX7_readsOrder_260 rfl ?_
                refine fa_geti (k := 397) CX HX2245 fl_X7_141 (by omega) rfl rfl dX7_readsOrder_261 ?_
                rw [show v2244 397 11 = nI (no) from (go_x2243.trans (congrArg nI ho_x2243.e))]
                refine lv_iload_n hx hb dX7_readsOrder_264 rfl (lv_at hl 0 rfl) ?_
                refine lv_if_eq (tgt := 272) hx hb dX7_readsOrder_265 (by decide) (fun c_265 => ?_) (fun c_265 => ?_)
                · exact absurd c_265 (by try decide)
                · refine lv_iconst (v := nI (1)) hx hb dX7_readsOrder_268 (by decide) ?_
                  refine lv_goto (tgt := 273) hx hb dX7_readsOrder_269 (by decide) ?_
                  refine fa_iaddN hx hb dX7_readsOrder_273 ?_
                  refine fa_puti (k := 397) CX HX2245 fl_X7_141 (by omega) rfl rfl rfl rfl dX7_readsOrder_274 (fun H locs v2249 e2250 HX2251 => ?_)
                  refine lv_iload_n hx hb dX7_readsOrder_277 rfl (lv_at hl 0 rfl) ?_
                  exact RET _ _ _ _ _ _ _ HX2251 dX7_readsOrder_278 (by decide) (⟨rfl, ⟨⟨(by rw [((fa_ord_s (Or.inl hS115)).trans (fa_two_y hn1 hmn1.e hcm hn2))]; exact rfl), m_x2243, no + 1, ⟨by omega, by omega, (by have hfx := (show na + 2 ≤ m_x2243 from by have z := (fa_ord_le (t := t) hna).2.2; rw [((fa_ord_s (Or.inl hS115)).trans (fa_two_y hn1 hmn1.e hcm hn2))] at z; rw [hmn2.e]; exact z rfl); omega), fa_is.mk (by rw [((fa_ord_s (Or.inl hS115)).trans (fa_two_y hn1 hmn1.e hcm hn2))]; exact hmn2.e), fa_is.mk (by rw [((fa_ord_s (Or.inl hS115)).trans (fa_two_y hn1 hmn1.e hcm hn2))]; exact (show no + 1 = no + 1 by omega))⟩, (show v2249 397 12 = nI (m_x2243) from (by rw [e2250, fa_u_n _ _ (by omega)]; exact gm_x2243)), (show v2249 397 11 = nI (no + 1) from (by rw [e2250, fa_u_s])), (show fa_f3 v v2249 from (by rw [e2250]; exact fa_f3.w (fa_f3.tr (fa_f3.tr (fa_f3.tr (fa_f3.tr (fa_f3.tr (fa_f3.tr (by rw [e2214]; exact fa_f3.u (by rw [e2211]; exact fa_f3.u fa_f3.rf)) hf_x2217) hf_x2221) hf_x2225) hf_x2229) hf_x2236) hf_x2243) (by decide))), (by rw [((fa_ord_s (Or.inl hS115)).trans (fa_two_y hn1 hmn1.e hcm hn2))]; exact ⟨(fun i hi => (by show v2249 403 i = _; rw [e2250, fa_u_k _ _ (by decide), hr_x2243.2 i (by omega), hr_x2236, hr_x2229.2 i (by omega), hr_x2225, hr_x2221, hr_x2217]; exact hA i hi)), (by show v2249 403 (4 * no) = _; rw [e2250, fa_u_k _ _ (by decide), hr_x2243.2 (4 * no) (by omega), hr_x2236, hr_x2229.2 (4 * no) (by omega), hr_x2225, hr_x2221, hr_x2217]; exact hB), (by show v2249 403 (4 * no + 1) = _; rw [e2250, fa_u_k _ _ (by decide), hr_x2243.2 (4 * no + 1) (by omega), hr_x2236, hr_x2229.2 (4 * no + 1) (by omega), hr_x2225, hr_x2221, hr_x2217]; exact hC), (fun _ => ⟨(by show v2249 403 (4 * no + 2) = _; rw [e2250, fa_u_k _ _ (by decide), hr_x2243.2 (4 * no + 2) (by omega), hr_x2236]; exact hr_x2229.1 hn1), (fun _ _ => (by show v2249 403 (4 * no + 3) = _; rw [e2250, fa_u_k _ _ (by decide)]; exact hr_x2243.1 hn2))⟩)⟩)⟩, (by rw [e2250]; exact fa_fr.u (fa_fr.tr (fa_fr.tr (fa_fr.tr (fa_fr.tr (fa_fr.tr (fa_fr.tr (by rw [e2214]; exact fa_fr.u (by rw [e2211]; exact fa_fr.u fa_fr.rf (by omega)) (by omega)) (fa_fr.wide h2216.2 (by omega) (by omega))) (fa_fr.wide h2220.2 (by omega) (by omega))) (fa_fr.wide h2224.2 (by omega) (by omega))) (fa_fr.wide h2228.2 (by omega) (by omega))) (fa_fr.wide h2235.2 (by omega) (by omega))) (fa_fr.wide h2242.2 (by omega) (by omega))) (by omega))⟩⟩)
        · have hS115 : ¬ fa_sg t n9 na = (115 : Int32) := fa_ifn hxa (by first | exact c_128 | exact Decidable.not_not.mp c_128)
          have hp115 := hma.e.trans (fa_acc_f hS115)
          clear ha_x2225 hc_x2225 hd_x2225 hxa hma
          refine lv_aload_n hx hb dX7_readsOrder_131 rfl (lv_at hl 0 rfl) ?_
          refine lv_bipush (v := nI (108)) hx hb dX7_readsOrder_132 (by decide) ?_
          refine fa_callViu (As := [.int (nI (108))]) (rest := []) CX HX2227 (r_accepts l G n hn v2226 r hM (n9) (na) (no) (by omega) (by omega) (by omega) ((hf_x2225.2 9 (by decide) (by decide)).trans ((hf_x2221.2 9 (by decide) (by decide)).trans ((hf_x2217.2 9 (by decide) (by decide)).trans (by rw [e2214, fa_u_n _ _ (by omega)]; exact (by rw [e2211, fa_u_n _ _ (by omega)]; exact g9))))) ((gm_x2225).trans (congrArg nI hp115)) (go_x2225.trans (congrArg nI ho_x2225.e)) t ((h2224.2 405 (by omega)).trans ((h2220.2 405 (by omega)).trans ((h2216.2 405 (by omega)).trans (((congrFun e2214 405).trans (fa_u_k _ _ (by decide))).trans (((congrFun e2211 405).trans (fa_u_k _ _ (by decide))).trans h5))))) (nI (108)) (by decide)) ln_X7_144 (by omega) rfl rfl rfl rfl (Nat.le_of_ble_eq_true rfl) hl.1 ⟨Nat.le_of_ble_eq_true rfl, Nat.le_of_ble_eq_true rfl⟩ ⟨Nat.le_refl _, Nat.le_refl _⟩ dX7_readsOrder_134 (fun x2253 v2254 H locs h2252 HX2255 => ?_)
          obtain ⟨hx_x2253, m_x2253, o_x2253, ⟨ha_x2253, hc_x2253, hd_x2253, hm_x2253, ho_x2253⟩, gm_x2253, go_x2253, hf_x2253, hr_x2253⟩ := h2252.1
          have hxa := hx_x2253
          have hma := hm_x2253
          refine lv_if_eq (tgt := 181) hx hb dX7_readsOrder_137 (by decide) (fun c_137 => ?_) (fun c_137 => ?_)
          · have hS108 : ¬ fa_sg t n9 na = (108 : Int32) := fa_ifn hxa (by first | exact c_137 | exact Decidable.not_not.mp c_137)
            have hp108 := hma.e.trans (fa_acc_f hS108)
            clear ha_x2253 hc_x2253 hd_x2253 hxa hma
            refine lv_aload_n hx hb dX7_readsOrder_181 rfl (lv_at hl 0 rfl) ?_
            refine lv_bipush (v := nI (102)) hx hb dX7_readsOrder_182 (by decide) ?_
            refine fa_callViu (As := [.int (nI (102))]) (rest := []) CX HX2255 (r_accepts l G n hn v2254 r hM (n9) (na) (no) (by omega) (by omega) (by omega) ((hf_x2253.2 9 (by decide) (by decide)).trans ((hf_x2225.2 9 (by decide) (by decide)).trans ((hf_x2221.2 9 (by decide) (by decide)).trans ((hf_x2217.2 9 (by decide) (by decide)).trans (by rw [e2214, fa_u_n _ _ (by omega)]; exact (by rw [e2211, fa_u_n _ _ (by omega)]; exact g9)))))) ((gm_x2253).trans (congrArg nI hp108)) (go_x2253.trans (congrArg nI ho_x2253.e)) t ((h2252.2 405 (by omega)).trans ((h2224.2 405 (by omega)).trans ((h2220.2 405 (by omega)).trans ((h2216.2 405 (by omega)).trans (((congrFun e2214 405).trans (fa_u_k _ _ (by decide))).trans (((congrFun e2211 405).trans (fa_u_k _ _ (by decide))).trans h5)))))) (nI (102)) (by decide)) ln_X7_144 (by omega) rfl rfl rfl rfl (Nat.le_of_ble_eq_true rfl) hl.1 ⟨Nat.le_of_ble_eq_true rfl, Nat.le_of_ble_eq_true rfl⟩ ⟨Nat.le_refl _, Nat.le_refl _⟩ dX7_readsOrder_184 (fun x2257 v2258 H locs h2256 HX2259 => ?_)
            obtain ⟨hx_x2257, m_x2257, o_x2257, ⟨ha_x2257, hc_x2257, hd_x2257, hm_x2257, ho_x2257⟩, gm_x2257, go_x2257, hf_x2257, hr_x2257⟩ := h2256.1
            have hxa := hx_x2257
            have hma := hm_x2257
            refine lv_if_eq (tgt := 232) hx hb dX7_readsOrder_187 (by decide) (fun c_187 => ?_) (fun c_187 => ?_)
            · have hS102 : ¬ fa_sg t n9 na = (102 : Int32) := fa_ifn hxa (by first | exact c_187 | exact Decidable.not_not.mp c_187)
              have hp102 := hma.e.trans (fa_acc_f hS102)
              clear ha_x2257 hc_x2257 hd_x2257 hxa hma
              refine lv_aload_n hx hb dX7_readsOrder_232 rfl (lv_at hl 0 rfl) ?_
              refine lv_bipush (v := nI (100)) hx hb dX7_readsOrder_233 (by decide) ?_
              refine fa_callViu (As := [.int (nI (100))]) (rest := []) CX HX2259 (r_accepts l G n hn v2258 r hM (n9) (na) (no) (by omega) (by omega) (by omega) ((hf_x2257.2 9 (by decide) (by decide)).trans ((hf_x2253.2 9 (by decide) (by decide)).trans ((hf_x2225.2 9 (by decide) (by decide)).trans ((hf_x2221.2 9 (by decide) (by decide)).trans ((hf_x2217.2 9 (by decide) (by decide)).trans (by rw [e2214, fa_u_n _ _ (by omega)]; exact (by rw [e2211, fa_u_n _ _ (by omega)]; exact g9))))))) ((gm_x2257).trans (congrArg nI hp102)) (go_x2257.trans (congrArg nI ho_x2257.e)) t ((h2256.2 405 (by omega)).trans ((h2252.2 405 (by omega)).trans ((h2224.2 405 (by omega)).trans ((h2220.2 405 (by omega)).trans ((h2216.2 405 (by omega)).trans (((congrFun e2214 405).trans (fa_u_k _ _ (by decide))).trans (((congrFun e2211 405).trans (fa_u_k _ _ (by decide))).trans h5))))))) (nI (100)) (by decide)) ln_X7_144 (by omega) rfl rfl rfl rfl (Nat.le_of_ble_eq_true rfl) hl.1 ⟨Nat.le_of_ble_eq_true rfl, Nat.le_of_ble_eq_true rfl⟩ ⟨Nat.le_refl _, Nat.le_refl _⟩ dX7_readsOrder_235 (fun x2261 v2262 H locs h2260 HX2263 => ?_)
              obtain ⟨hx_x2261, m_x2261, o_x2261, ⟨ha_x2261, hc_x2261, hd_x2261, hm_x2261, ho_x2261⟩, gm_x2261, go_x2261, hf_x2261, hr_x2261⟩ := h2260.1
              have hxa := hx_x2261
              have hma := hm_x2261
              refine lv_if_eq (tgt := 257) hx hb dX7_readsOrder_238 (by decide) (fun c_238 => ?_) (fun c_238 => ?_)
              · have hS100 : ¬ fa_sg t n9 na = (100 : Int32) := fa_ifn hxa (by first | exact c_238 | exact Decidable.not_not.mp c_238)
                have hp100 := hma.e.trans (fa_acc_f hS100)
                clear ha_x2261 hc_x2261 hd_x2261 hxa hma
                refine lv_iconst (v := nI (0)) hx hb dX7_readsOrder_257 (by decide) ?_
                refine lv_istore_n (lv' := [(1, .int (nI (0))), (0, .ref (fa_B G + (397)))]) hx hb dX7_readsOrder_258 rfl hl (by decide) rfl (fun ls hl => ?_)
                refine lv_aload_n hx hb dX7_readsOrder_259 rfl (lv_at hl 1 rfl) ?_
                refine lv_dup hx hb dX7_readsOrder_260 rfl ?_
                refine fa_geti (k := 397) CX HX2263 fl_X7_141 (by omega) rfl rfl dX7_readsOrder_261 ?_
                rw [show v2262 397 11 = nI (no) from (go_x2261.trans (congrArg nI ho_x2261.e))]
                refine lv_iload_n hx hb dX7_readsOrder_264 rfl (lv_at hl 0 rfl) ?_
                refine lv_if_eq (tgt := 272) hx hb dX7_readsOrder_265 (by decide) (fun c_265 => ?_) (fun c_265 => ?_)
                · refine lv_iconst (v := nI (0)) hx hb dX7_readsOrder_272 (by decide) ?_
                  refine fa_iaddN hx hb dX7_readsOrder_273 ?_
                  refine fa_puti (k := 397) CX HX2263 fl_X7_141 (by omega) rfl rfl rfl rfl dX7_readsOrder_274 (fun H locs v2264 e2265 HX2266 => ?_)
                  refine lv_iload_n hx hb dX7_readsOrder_277 rfl (lv_at hl 0 rfl) ?_
                  exact RET _ _ _ _ _ _ _ HX2266 dX7_readsOrder_278 (by decide) (⟨rfl, ⟨⟨(by rw [(fa_ord_no hS110 hS97 hS115 hS108 hS102 hS100)]; exact rfl), na, no + 0, ⟨by omega, by omega, by omega, fa_is.mk (by rw [(fa_ord_no hS110 hS97 hS115 hS108 hS102 hS100)]), fa_is.mk (by rw [(fa_ord_no hS110 hS97 hS115 hS108 hS102 hS100)]; exact (show no + 0 = no by omega))⟩, (show v2264 397 12 = nI (na) from (by rw [e2265, fa_u_n _ _ (by omega)]; exact ((gm_x2261).trans (congrArg nI hp100)))), (show v2264 397 11 = nI (no + 0) from (by rw [e2265, fa_u_s])), (show fa_f3 v v2264 from (by rw [e2265]; exact fa_f3.w (fa_f3.tr (fa_f3.tr (fa_f3.tr (fa_f3.tr (fa_f3.tr (fa_f3.tr (by rw [e2214]; exact fa_f3.u (by rw [e2211]; exact fa_f3.u fa_f3.rf)) hf_x2217) hf_x2221) hf_x2225) hf_x2253) hf_x2257) hf_x2261) (by decide))), (by rw [(fa_ord_no hS110 hS97 hS115 hS108 hS102 hS100)]; exact ⟨(fun i hi => (by show v2264 403 i = _; rw [e2265, fa_u_k _ _ (by decide), hr_x2261, hr_x2257, hr_x2253, hr_x2225, hr_x2221, hr_x2217]; exact hA i hi)), (by show v2264 403 (4 * no) = _; rw [e2265, fa_u_k _ _ (by decide), hr_x2261, hr_x2257, hr_x2253, hr_x2225, hr_x2221, hr_x2217]; exact hB), (by show v2264 403 (4 * no + 1) = _; rw [e2265, fa_u_k _ _ (by decide), hr_x2261, hr_x2257, hr_x2253, hr_x2225, hr_x2221, hr_x2217]; exact hC), (fun z => absurd (show false = true from z) (by decide))⟩)⟩, (by rw [e2265]; exact fa_fr.u (fa_fr.tr (fa_fr.tr (fa_fr.tr (fa_fr.tr (fa_fr.tr (fa_fr.tr (by rw [e2214]; exact fa_fr.u (by rw [e2211]; exact fa_fr.u fa_fr.rf (by omega)) (by omega)) (fa_fr.wide h2216.2 (by omega) (by omega))) (fa_fr.wide h2220.2 (by omega) (by omega))) (fa_fr.wide h2224.2 (by omega) (by omega))) (fa_fr.wide h2252.2 (by omega) (by omega))) (fa_fr.wide h2256.2 (by omega) (by omega))) (fa_fr.wide h2260.2 (by omega) (by omega))) (by omega))⟩⟩)
                · exact absurd (by try decide) c_265
              · have hS100 : fa_sg t n9 na = (100 : Int32) := fa_ift hxa c_238
                have hp100 := hma.e.trans (fa_acc_t hS100)
                have hlt : na < n9 := fa_sg_nz hS100 (by decide)
                clear ha_x2261 hc_x2261 hd_x2261
                refine lv_aload_n hx hb dX7_readsOrder_241 rfl (lv_at hl 0 rfl) ?_
                refine lv_iconst (v := nI (2)) hx hb dX7_readsOrder_242 (by decide) ?_
                refine lv_iconst (v := nI (1)) hx hb dX7_readsOrder_243 (by decide) ?_
                refine lv_sipush (v := nI (400)) hx hb dX7_readsOrder_244 (by decide) ?_
                refine fa_callViu (As := [.int (nI (2)), .int (nI (1)), .int (nI (400))]) (rest := []) CX HX2263 (r_number l G n hn v2262 r hM (n9) (na + 1) (no) (by omega) (by omega) (by omega) ((hf_x2261.2 9 (by decide) (by decide)).trans ((hf_x2257.2 9 (by decide) (by decide)).trans ((hf_x2253.2 9 (by decide) (by decide)).trans ((hf_x2225.2 9 (by decide) (by decide)).trans ((hf_x2221.2 9 (by decide) (by decide)).trans ((hf_x2217.2 9 (by decide) (by decide)).trans (by rw [e2214, fa_u_n _ _ (by omega)]; exact (by rw [e2211, fa_u_n _ _ (by omega)]; exact g9)))))))) ((gm_x2261).trans (congrArg nI hp100)) (go_x2261.trans (congrArg nI ho_x2261.e)) t ((h2260.2 405 (by omega)).trans ((h2256.2 405 (by omega)).trans ((h2252.2 405 (by omega)).trans ((h2224.2 405 (by omega)).trans ((h2220.2 405 (by omega)).trans ((h2216.2 405 (by omega)).trans (((congrFun e2214 405).trans (fa_u_k _ _ (by decide))).trans (((congrFun e2211 405).trans (fa_u_k _ _ (by decide))).trans h5)))))))) (2) (nI (1)) (nI (400)) (by omega) ⟨1, by decide, rfl⟩ ⟨400, by decide, rfl⟩) ln_X7_148 (by omega) rfl rfl rfl rfl (Nat.le_of_ble_eq_true rfl) hl.1 ⟨Nat.le_of_ble_eq_true rfl, Nat.le_of_ble_eq_true rfl⟩ ⟨Nat.le_refl _, Nat.le_refl _⟩ dX7_readsOrder_247 (fun x2268 v2269 H locs h2267 HX2270 => ?_)
                obtain ⟨hx_x2268, m_x2268, o_x2268, ⟨ha_x2268, hc_x2268, hd_x2268, hm_x2268, ho_x2268⟩, gm_x2268, go_x2268, hf_x2268, hr_x2268⟩ := h2267.1
                have hxn1 := hx_x2268
                have hmn1 := hm_x2268
                refine lv_if_eq (tgt := 257) hx hb dX7_readsOrder_250 (by decide) (fun c_250 => ?_) (fun c_250 => ?_)
                · have hn1 := fa_ifn hxn1 c_250
                  refine lv_iconst (v := nI (0)) hx hb dX7_readsOrder_257 (by decide) ?_
                  refine lv_istore_n (lv' := [(1, .int (nI (0))), (0, .ref (fa_B G + (397)))]) hx hb dX7_readsOrder_258 rfl hl (by decide) rfl (fun ls hl => ?_)
                  refine lv_aload_n hx hb dX7_readsOrder_259 rfl (lv_at hl 1 rfl) ?_
                  refine lv_dup hx hb dX7_readsOrder_260 rfl ?_
                  refine fa_geti (k := 397) CX HX2270 fl_X7_141 (by omega) rfl rfl dX7_readsOrder_261 ?_
                  rw [show v2269 397 11 = nI (no) from (go_x2268.trans (congrArg nI ho_x2268.e))]
                  refine lv_iload_n hx hb dX7_readsOrder_264 rfl (lv_at hl 0 rfl) ?_
                  refine lv_if_eq (tgt := 272) hx hb dX7_readsOrder_265 (by decide) (fun c_265 => ?_) (fun c_265 => ?_)
                  · refine lv_iconst (v := nI (0)) hx hb dX7_readsOrder_272 (by decide) ?_
                    refine fa_iaddN hx hb dX7_readsOrder_273 ?_
                    refine fa_puti (k := 397) CX HX2270 fl_X7_141 (by omega) rfl rfl rfl rfl dX7_readsOrder_274 (fun H locs v2271 e2272 HX2273 => ?_)
                    refine lv_iload_n hx hb dX7_readsOrder_277 rfl (lv_at hl 0 rfl) ?_
                    exact RET _ _ _ _ _ _ _ HX2273 dX7_readsOrder_278 (by decide) (⟨rfl, ⟨⟨(by rw [((fa_ord_d hS100).trans (fa_one_f hn1))]; exact rfl), m_x2268, no + 0, ⟨by omega, by omega, by omega, fa_is.mk (by rw [((fa_ord_d hS100).trans (fa_one_f hn1))]; exact hmn1.e), fa_is.mk (by rw [((fa_ord_d hS100).trans (fa_one_f hn1))]; exact (show no + 0 = no by omega))⟩, (show v2271 397 12 = nI (m_x2268) from (by rw [e2272, fa_u_n _ _ (by omega)]; exact gm_x2268)), (show v2271 397 11 = nI (no + 0) from (by rw [e2272, fa_u_s])), (show fa_f3 v v2271 from (by rw [e2272]; exact fa_f3.w (fa_f3.tr (fa_f3.tr (fa_f3.tr (fa_f3.tr (fa_f3.tr (fa_f3.tr (fa_f3.tr (by rw [e2214]; exact fa_f3.u (by rw [e2211]; exact fa_f3.u fa_f3.rf)) hf_x2217) hf_x2221) hf_x2225) hf_x2253) hf_x2257) hf_x2261) hf_x2268) (by decide))), (by rw [((fa_ord_d hS100).trans (fa_one_f hn1))]; exact ⟨(fun i hi => (by show v2271 403 i = _; rw [e2272, fa_u_k _ _ (by decide), hr_x2268.2 i (by omega), hr_x2261, hr_x2257, hr_x2253, hr_x2225, hr_x2221, hr_x2217]; exact hA i hi)), (by show v2271 403 (4 * no) = _; rw [e2272, fa_u_k _ _ (by decide), hr_x2268.2 (4 * no) (by omega), hr_x2261, hr_x2257, hr_x2253, hr_x2225, hr_x2221, hr_x2217]; exact hB), (by show v2271 403 (4 * no + 1) = _; rw [e2272, fa_u_k _ _ (by decide), hr_x2268.2 (4 * no + 1) (by omega), hr_x2261, hr_x2257, hr_x2253, hr_x2225, hr_x2221, hr_x2217]; exact hC), (fun z => absurd (show false = true from z) (by decide))⟩)⟩, (by rw [e2272]; exact fa_fr.u (fa_fr.tr (fa_fr.tr (fa_fr.tr (fa_fr.tr (fa_fr.tr (fa_fr.tr (fa_fr.tr (by rw [e2214]; exact fa_fr.u (by rw [e2211]; exact fa_fr.u fa_fr.rf (by omega)) (by omega)) (fa_fr.wide h2216.2 (by omega) (by omega))) (fa_fr.wide h2220.2 (by omega) (by omega))) (fa_fr.wide h2224.2 (by omega) (by omega))) (fa_fr.wide h2252.2 (by omega) (by omega))) (fa_fr.wide h2256.2 (by omega) (by omega))) (fa_fr.wide h2260.2 (by omega) (by omega))) (fa_fr.wide h2267.2 (by omega) (by omega))) (by omega))⟩⟩)
                  · exact absurd (by try decide) c_265
                · have hn1 := fa_ift hxn1 c_250
                  refine lv_iconst (v := nI (1)) hx hb dX7_readsOrder_253 (by decide) ?_
                  refine lv_goto (tgt := 258) hx hb dX7_readsOrder_254 (by decide) ?_
                  refine lv_istore_n (lv' := [(1, .int (nI (1))), (0, .ref (fa_B G + (397)))]) hx hb dX7_readsOrder_258 rfl hl (by decide) rfl (fun ls hl => ?_)
                  refine lv_aload_n hx hb dX7_readsOrder_259 rfl (lv_at hl 1 rfl) ?_
                  refine lv_dup hx hb dX7_readsOrder_260 rfl ?_
                  refine fa_geti (k := 397) CX HX2270 fl_X7_141 (by omega) rfl rfl dX7_readsOrder_261 ?_
                  rw [show v2269 397 11 = nI (no) from (go_x2268.trans (congrArg nI ho_x2268.e))]
                  refine lv_iload_n hx hb dX7_readsOrder_264 rfl (lv_at hl 0 rfl) ?_
                  refine lv_if_eq (tgt := 272) hx hb dX7_readsOrder_265 (by decide) (fun c_265 => ?_) (fun c_265 => ?_)
                  · exact absurd c_265 (by try decide)
                  · refine lv_iconst (v := nI (1)) hx hb dX7_readsOrder_268 (by decide) ?_
                    refine lv_goto (tgt := 273) hx hb dX7_readsOrder_269 (by decide) ?_
                    refine fa_iaddN hx hb dX7_readsOrder_273 ?_
                    refine fa_puti (k := 397) CX HX2270 fl_X7_141 (by omega) rfl rfl rfl rfl dX7_readsOrder_274 (fun H locs v2274 e2275 HX2276 => ?_)
                    refine lv_iload_n hx hb dX7_readsOrder_277 rfl (lv_at hl 0 rfl) ?_
                    exact RET _ _ _ _ _ _ _ HX2276 dX7_readsOrder_278 (by decide) (⟨rfl, ⟨⟨(by rw [((fa_ord_d hS100).trans (fa_one_t hn1))]; exact rfl), m_x2268, no + 1, ⟨by omega, by omega, (by have hfx := (show na + 2 ≤ m_x2268 from by have z := (fa_ord_le (t := t) hna).2.2; rw [((fa_ord_d hS100).trans (fa_one_t hn1))] at z; rw [hmn1.e]; exact z rfl); omega), fa_is.mk (by rw [((fa_ord_d hS100).trans (fa_one_t hn1))]; exact hmn1.e), fa_is.mk (by rw [((fa_ord_d hS100).trans (fa_one_t hn1))]; exact (show no + 1 = no + 1 by omega))⟩, (show v2274 397 12 = nI (m_x2268) from (by rw [e2275, fa_u_n _ _ (by omega)]; exact gm_x2268)), (show v2274 397 11 = nI (no + 1) from (by rw [e2275, fa_u_s])), (show fa_f3 v v2274 from (by rw [e2275]; exact fa_f3.w (fa_f3.tr (fa_f3.tr (fa_f3.tr (fa_f3.tr (fa_f3.tr (fa_f3.tr (fa_f3.tr (by rw [e2214]; exact fa_f3.u (by rw [e2211]; exact fa_f3.u fa_f3.rf)) hf_x2217) hf_x2221) hf_x2225) hf_x2253) hf_x2257) hf_x2261) hf_x2268) (by decide))), (by rw [((fa_ord_d hS100).trans (fa_one_t hn1))]; exact ⟨(fun i hi => (by show v2274 403 i = _; rw [e2275, fa_u_k _ _ (by decide), hr_x2268.2 i (by omega), hr_x2261, hr_x2257, hr_x2253, hr_x2225, hr_x2221, hr_x2217]; exact hA i hi)), (by show v2274 403 (4 * no) = _; rw [e2275, fa_u_k _ _ (by decide), hr_x2268.2 (4 * no) (by omega), hr_x2261, hr_x2257, hr_x2253, hr_x2225, hr_x2221, hr_x2217]; exact hB), (by show v2274 403 (4 * no + 1) = _; rw [e2275, fa_u_k _ _ (by decide), hr_x2268.2 (4 * no + 1) (by omega), hr_x2261, hr_x2257, hr_x2253, hr_x2225, hr_x2221, hr_x2217]; exact hC), (fun _ => ⟨(by show v2274 403 (4 * no + 2) = _; rw [e2275, fa_u_k _ _ (by decide)]; exact hr_x2268.1 hn1), (fun y1 y2 => by first | exact absurd hS97 y1 | exact absurd hS100 y2)⟩)⟩)⟩, (by rw [e2275]; exact fa_fr.u (fa_fr.tr (fa_fr.tr (fa_fr.tr (fa_fr.tr (fa_fr.tr (fa_fr.tr (fa_fr.tr (by rw [e2214]; exact fa_fr.u (by rw [e2211]; exact fa_fr.u fa_fr.rf (by omega)) (by omega)) (fa_fr.wide h2216.2 (by omega) (by omega))) (fa_fr.wide h2220.2 (by omega) (by omega))) (fa_fr.wide h2224.2 (by omega) (by omega))) (fa_fr.wide h2252.2 (by omega) (by omega))) (fa_fr.wide h2256.2 (by omega) (by omega))) (fa_fr.wide h2260.2 (by omega) (by omega))) (fa_fr.wide h2267.2 (by omega) (by omega))) (by omega))⟩⟩)
            · have hS102 : fa_sg t n9 na = (102 : Int32) := fa_ift hxa c_187
              have hp102 := hma.e.trans (fa_acc_t hS102)
              have hlt : na < n9 := fa_sg_nz hS102 (by decide)
              clear ha_x2257 hc_x2257 hd_x2257
              refine lv_aload_n hx hb dX7_readsOrder_190 rfl (lv_at hl 0 rfl) ?_
              refine lv_iconst (v := nI (2)) hx hb dX7_readsOrder_191 (by decide) ?_
              refine lv_iconst (v := nI (0)) hx hb dX7_readsOrder_192 (by decide) ?_
              refine lv_sipush (v := nI (199)) hx hb dX7_readsOrder_193 (by decide) ?_
              refine fa_callViu (As := [.int (nI (2)), .int (nI (0)), .int (nI (199))]) (rest := []) CX HX2259 (r_number l G n hn v2258 r hM (n9) (na + 1) (no) (by omega) (by omega) (by omega) ((hf_x2257.2 9 (by decide) (by decide)).trans ((hf_x2253.2 9 (by decide) (by decide)).trans ((hf_x2225.2 9 (by decide) (by decide)).trans ((hf_x2221.2 9 (by decide) (by decide)).trans ((hf_x2217.2 9 (by decide) (by decide)).trans (by rw [e2214, fa_u_n _ _ (by omega)]; exact (by rw [e2211, fa_u_n _ _ (by omega)]; exact g9))))))) ((gm_x2257).trans (congrArg nI hp102)) (go_x2257.trans (congrArg nI ho_x2257.e)) t ((h2256.2 405 (by omega)).trans ((h2252.2 405 (by omega)).trans ((h2224.2 405 (by omega)).trans ((h2220.2 405 (by omega)).trans ((h2216.2 405 (by omega)).trans (((congrFun e2214 405).trans (fa_u_k _ _ (by decide))).trans (((congrFun e2211 405).trans (fa_u_k _ _ (by decide))).trans h5))))))) (2) (nI (0)) (nI (199)) (by omega) ⟨0, by decide, rfl⟩ ⟨199, by decide, rfl⟩) ln_X7_148 (by omega) rfl rfl rfl rfl (Nat.le_of_ble_eq_true rfl) hl.1 ⟨Nat.le_of_ble_eq_true rfl, Nat.le_of_ble_eq_true rfl⟩ ⟨Nat.le_refl _, Nat.le_refl _⟩ dX7_readsOrder_196 (fun x2278 v2279 H locs h2277 HX2280 => ?_)
              obtain ⟨hx_x2278, m_x2278, o_x2278, ⟨ha_x2278, hc_x2278, hd_x2278, hm_x2278, ho_x2278⟩, gm_x2278, go_x2278, hf_x2278, hr_x2278⟩ := h2277.1
              have hxn1 := hx_x2278
              have hmn1 := hm_x2278
              refine lv_if_eq (tgt := 227) hx hb dX7_readsOrder_199 (by decide) (fun c_199 => ?_) (fun c_199 => ?_)
              · have hn1 := fa_ifn hxn1 c_199
                refine lv_iconst (v := nI (0)) hx hb dX7_readsOrder_227 (by decide) ?_
                refine lv_istore_n (lv' := [(1, .int (nI (0))), (0, .ref (fa_B G + (397)))]) hx hb dX7_readsOrder_228 rfl hl (by decide) rfl (fun ls hl => ?_)
                refine lv_goto (tgt := 259) hx hb dX7_readsOrder_229 (by decide) ?_
                refine lv_aload_n hx hb dX7_readsOrder_259 rfl (lv_at hl 1 rfl) ?_
                refine lv_dup hx hb dX7_readsOrder_260 rfl ?_
                refine fa_geti (k := 397) CX HX2280 fl_X7_141 (by omega) rfl rfl dX7_readsOrder_261 ?_
                rw [show v2279 397 11 = nI (no) from (go_x2278.trans (congrArg nI ho_x2278.e))]
                refine lv_iload_n hx hb dX7_readsOrder_264 rfl (lv_at hl 0 rfl) ?_
                refine lv_if_eq (tgt := 272) hx hb dX7_readsOrder_265 (by decide) (fun c_265 => ?_) (fun c_265 => ?_)
                · refine lv_iconst (v := nI (0)) hx hb dX7_readsOrder_272 (by decide) ?_
                  refine fa_iaddN hx hb dX7_readsOrder_273 ?_
                  refine fa_puti (k := 397) CX HX2280 fl_X7_141 (by omega) rfl rfl rfl rfl dX7_readsOrder_274 (fun H locs v2281 e2282 HX2283 => ?_)
                  refine lv_iload_n hx hb dX7_readsOrder_277 rfl (lv_at hl 0 rfl) ?_
                  exact RET _ _ _ _ _ _ _ HX2283 dX7_readsOrder_278 (by decide) (⟨rfl, ⟨⟨(by rw [((fa_ord_f hS102).trans (fa_two_f hn1))]; exact rfl), m_x2278, no + 0, ⟨by omega, by omega, by omega, fa_is.mk (by rw [((fa_ord_f hS102).trans (fa_two_f hn1))]; exact hmn1.e), fa_is.mk (by rw [((fa_ord_f hS102).trans (fa_two_f hn1))]; exact (show no + 0 = no by omega))⟩, (show v2281 397 12 = nI (m_x2278) from (by rw [e2282, fa_u_n _ _ (by omega)]; exact gm_x2278)), (show v2281 397 11 = nI (no + 0) from (by rw [e2282, fa_u_s])), (show fa_f3 v v2281 from (by rw [e2282]; exact fa_f3.w (fa_f3.tr (fa_f3.tr (fa_f3.tr (fa_f3.tr (fa_f3.tr (fa_f3.tr (by rw [e2214]; exact fa_f3.u (by rw [e2211]; exact fa_f3.u fa_f3.rf)) hf_x2217) hf_x2221) hf_x2225) hf_x2253) hf_x2257) hf_x2278) (by decide))), (by rw [((fa_ord_f hS102).trans (fa_two_f hn1))]; exact ⟨(fun i hi => (by show v2281 403 i = _; rw [e2282, fa_u_k _ _ (by decide), hr_x2278.2 i (by omega), hr_x2257, hr_x2253, hr_x2225, hr_x2221, hr_x2217]; exact hA i hi)), (by show v2281 403 (4 * no) = _; rw [e2282, fa_u_k _ _ (by decide), hr_x2278.2 (4 * no) (by omega), hr_x2257, hr_x2253, hr_x2225, hr_x2221, hr_x2217]; exact hB), (by show v2281 403 (4 * no + 1) = _; rw [e2282, fa_u_k _ _ (by decide), hr_x2278.2 (4 * no + 1) (by omega), hr_x2257, hr_x2253, hr_x2225, hr_x2221, hr_x2217]; exact hC), (fun z => absurd (show false = true from z) (by decide))⟩)⟩, (by rw [e2282]; exact fa_fr.u (fa_fr.tr (fa_fr.tr (fa_fr.tr (fa_fr.tr (fa_fr.tr (fa_fr.tr (by rw [e2214]; exact fa_fr.u (by rw [e2211]; exact fa_fr.u fa_fr.rf (by omega)) (by omega)) (fa_fr.wide h2216.2 (by omega) (by omega))) (fa_fr.wide h2220.2 (by omega) (by omega))) (fa_fr.wide h2224.2 (by omega) (by omega))) (fa_fr.wide h2252.2 (by omega) (by omega))) (fa_fr.wide h2256.2 (by omega) (by omega))) (fa_fr.wide h2277.2 (by omega) (by omega))) (by omega))⟩⟩)
                · exact absurd (by try decide) c_265
              · have hn1 := fa_ift hxn1 c_199
                refine lv_aload_n hx hb dX7_readsOrder_202 rfl (lv_at hl 0 rfl) ?_
                refine lv_bipush (v := nI (44)) hx hb dX7_readsOrder_203 (by decide) ?_
                refine fa_callViu (As := [.int (nI (44))]) (rest := []) CX HX2280 (r_accepts l G n hn v2279 r hM (n9) (m_x2278) (no) (by omega) (by omega) (by omega) ((hf_x2278.2 9 (by decide) (by decide)).trans ((hf_x2257.2 9 (by decide) (by decide)).trans ((hf_x2253.2 9 (by decide) (by decide)).trans ((hf_x2225.2 9 (by decide) (by decide)).trans ((hf_x2221.2 9 (by decide) (by decide)).trans ((hf_x2217.2 9 (by decide) (by decide)).trans (by rw [e2214, fa_u_n _ _ (by omega)]; exact (by rw [e2211, fa_u_n _ _ (by omega)]; exact g9)))))))) gm_x2278 (go_x2278.trans (congrArg nI ho_x2278.e)) t ((h2277.2 405 (by omega)).trans ((h2256.2 405 (by omega)).trans ((h2252.2 405 (by omega)).trans ((h2224.2 405 (by omega)).trans ((h2220.2 405 (by omega)).trans ((h2216.2 405 (by omega)).trans (((congrFun e2214 405).trans (fa_u_k _ _ (by decide))).trans (((congrFun e2211 405).trans (fa_u_k _ _ (by decide))).trans h5)))))))) (nI (44)) (by decide)) ln_X7_144 (by omega) rfl rfl rfl rfl (Nat.le_of_ble_eq_true rfl) hl.1 ⟨Nat.le_of_ble_eq_true rfl, Nat.le_of_ble_eq_true rfl⟩ ⟨Nat.le_refl _, Nat.le_refl _⟩ dX7_readsOrder_205 (fun x2285 v2286 H locs h2284 HX2287 => ?_)
                obtain ⟨hx_x2285, m_x2285, o_x2285, ⟨ha_x2285, hc_x2285, hd_x2285, hm_x2285, ho_x2285⟩, gm_x2285, go_x2285, hf_x2285, hr_x2285⟩ := h2284.1
                have hxc := hx_x2285
                have hmc := hm_x2285
                refine lv_if_eq (tgt := 227) hx hb dX7_readsOrder_208 (by decide) (fun c_208 => ?_) (fun c_208 => ?_)
                · have hcm := fa_ifn hxc c_208
                  have hpc := hmc.e.trans (fa_acc_f hcm)
                  refine lv_iconst (v := nI (0)) hx hb dX7_readsOrder_227 (by decide) ?_
                  refine lv_istore_n (lv' := [(1, .int (nI (0))), (0, .ref (fa_B G + (397)))]) hx hb dX7_readsOrder_228 rfl hl (by decide) rfl (fun ls hl => ?_)
                  refine lv_goto (tgt := 259) hx hb dX7_readsOrder_229 (by decide) ?_
                  refine lv_aload_n hx hb dX7_readsOrder_259 rfl (lv_at hl 1 rfl) ?_
                  refine lv_dup hx hb dX7_readsOrder_260 rfl ?_
                  refine fa_geti (k := 397) CX HX2287 fl_X7_141 (by omega) rfl rfl dX7_readsOrder_261 ?_
                  rw [show v2286 397 11 = nI (no) from (go_x2285.trans (congrArg nI ho_x2285.e))]
                  refine lv_iload_n hx hb dX7_readsOrder_264 rfl (lv_at hl 0 rfl) ?_
                  refine lv_if_eq (tgt := 272) hx hb dX7_readsOrder_265 (by decide) (fun c_265 => ?_) (fun c_265 => ?_)
                  · refine lv_iconst (v := nI (0)) hx hb dX7_readsOrder_272 (by decide) ?_
                    refine fa_iaddN hx hb dX7_readsOrder_273 ?_
                    refine fa_puti (k := 397) CX HX2287 fl_X7_141 (by omega) rfl rfl rfl rfl dX7_readsOrder_274 (fun H locs v2288 e2289 HX2290 => ?_)
                    refine lv_iload_n hx hb dX7_readsOrder_277 rfl (lv_at hl 0 rfl) ?_
                    exact RET _ _ _ _ _ _ _ HX2290 dX7_readsOrder_278 (by decide) (⟨rfl, ⟨⟨(by rw [((fa_ord_f hS102).trans (fa_two_c hn1 hmn1.e hcm))]; exact rfl), m_x2278, no + 0, ⟨by omega, by omega, by omega, fa_is.mk (by rw [((fa_ord_f hS102).trans (fa_two_c hn1 hmn1.e hcm))]), fa_is.mk (by rw [((fa_ord_f hS102).trans (fa_two_c hn1 hmn1.e hcm))]; exact (show no + 0 = no by omega))⟩, (show v2288 397 12 = nI (m_x2278) from (by rw [e2289, fa_u_n _ _ (by omega)]; exact ((gm_x2285).trans (congrArg nI hpc)))), (show v2288 397 11 = nI (no + 0) from (by rw [e2289, fa_u_s])), (show fa_f3 v v2288 from (by rw [e2289]; exact fa_f3.w (fa_f3.tr (fa_f3.tr (fa_f3.tr (fa_f3.tr (fa_f3.tr (fa_f3.tr (fa_f3.tr (by rw [e2214]; exact fa_f3.u (by rw [e2211]; exact fa_f3.u fa_f3.rf)) hf_x2217) hf_x2221) hf_x2225) hf_x2253) hf_x2257) hf_x2278) hf_x2285) (by decide))), (by rw [((fa_ord_f hS102).trans (fa_two_c hn1 hmn1.e hcm))]; exact ⟨(fun i hi => (by show v2288 403 i = _; rw [e2289, fa_u_k _ _ (by decide), hr_x2285, hr_x2278.2 i (by omega), hr_x2257, hr_x2253, hr_x2225, hr_x2221, hr_x2217]; exact hA i hi)), (by show v2288 403 (4 * no) = _; rw [e2289, fa_u_k _ _ (by decide), hr_x2285, hr_x2278.2 (4 * no) (by omega), hr_x2257, hr_x2253, hr_x2225, hr_x2221, hr_x2217]; exact hB), (by show v2288 403 (4 * no + 1) = _; rw [e2289, fa_u_k _ _ (by decide), hr_x2285, hr_x2278.2 (4 * no + 1) (by omega), hr_x2257, hr_x2253, hr_x2225, hr_x2221, hr_x2217]; exact hC), (fun z => absurd (show false = true from z) (by decide))⟩)⟩, (by rw [e2289]; exact fa_fr.u (fa_fr.tr (fa_fr.tr (fa_fr.tr (fa_fr.tr (fa_fr.tr (fa_fr.tr (fa_fr.tr (by rw [e2214]; exact fa_fr.u (by rw [e2211]; exact fa_fr.u fa_fr.rf (by omega)) (by omega)) (fa_fr.wide h2216.2 (by omega) (by omega))) (fa_fr.wide h2220.2 (by omega) (by omega))) (fa_fr.wide h2224.2 (by omega) (by omega))) (fa_fr.wide h2252.2 (by omega) (by omega))) (fa_fr.wide h2256.2 (by omega) (by omega))) (fa_fr.wide h2277.2 (by omega) (by omega))) (fa_fr.wide h2284.2 (by omega) (by omega))) (by omega))⟩⟩)
                  · exact absurd (by try decide) c_265
                · have hcm := fa_ift hxc c_208
                  have hpc := hmc.e.trans (fa_acc_t hcm)
                  refine lv_aload_n hx hb dX7_readsOrder_211 rfl (lv_at hl 0 rfl) ?_
                  refine lv_iconst (v := nI (3)) hx hb dX7_readsOrder_212 (by decide) ?_
                  refine lv_iconst (v := nI (0)) hx hb dX7_readsOrder_213 (by decide) ?_
                  refine lv_sipush (v := nI (199)) hx hb dX7_readsOrder_214 (by decide) ?_
                  refine fa_callViu (As := [.int (nI (3)), .int (nI (0)), .int (nI (199))]) (rest := []) CX HX2287 (r_number l G n hn v2286 r hM (n9) (m_x2278 + 1) (no) (by omega) (by omega) (by omega) ((hf_x2285.2 9 (by decide) (by decide)).trans ((hf_x2278.2 9 (by decide) (by decide)).trans ((hf_x2257.2 9 (by decide) (by decide)).trans ((hf_x2253.2 9 (by decide) (by decide)).trans ((hf_x2225.2 9 (by decide) (by decide)).trans ((hf_x2221.2 9 (by decide) (by decide)).trans ((hf_x2217.2 9 (by decide) (by decide)).trans (by rw [e2214, fa_u_n _ _ (by omega)]; exact (by rw [e2211, fa_u_n _ _ (by omega)]; exact g9))))))))) ((gm_x2285).trans (congrArg nI hpc)) (go_x2285.trans (congrArg nI ho_x2285.e)) t ((h2284.2 405 (by omega)).trans ((h2277.2 405 (by omega)).trans ((h2256.2 405 (by omega)).trans ((h2252.2 405 (by omega)).trans ((h2224.2 405 (by omega)).trans ((h2220.2 405 (by omega)).trans ((h2216.2 405 (by omega)).trans (((congrFun e2214 405).trans (fa_u_k _ _ (by decide))).trans (((congrFun e2211 405).trans (fa_u_k _ _ (by decide))).trans h5))))))))) (3) (nI (0)) (nI (199)) (by omega) ⟨0, by decide, rfl⟩ ⟨199, by decide, rfl⟩) ln_X7_148 (by omega) rfl rfl rfl rfl (Nat.le_of_ble_eq_true rfl) hl.1 ⟨Nat.le_of_ble_eq_true rfl, Nat.le_of_ble_eq_true rfl⟩ ⟨Nat.le_refl _, Nat.le_refl _⟩ dX7_readsOrder_217 (fun x2292 v2293 H locs h2291 HX2294 => ?_)
                  obtain ⟨hx_x2292, m_x2292, o_x2292, ⟨ha_x2292, hc_x2292, hd_x2292, hm_x2292, ho_x2292⟩, gm_x2292, go_x2292, hf_x2292, hr_x2292⟩ := h2291.1
                  have hxn2 := hx_x2292
                  have hmn2 := hm_x2292
                  refine lv_if_eq (tgt := 227) hx hb dX7_readsOrder_220 (by decide) (fun c_220 => ?_) (fun c_220 => ?_)
                  · have hn2 := fa_ifn hxn2 c_220
                    refine lv_iconst (v := nI (0)) hx hb dX7_readsOrder_227 (by decide) ?_
                    refine lv_istore_n (lv' := [(1, .int (nI (0))), (0, .ref (fa_B G + (397)))]) hx hb dX7_readsOrder_228 rfl hl (by decide) rfl (fun ls hl => ?_)
                    refine lv_goto (tgt := 259) hx hb dX7_readsOrder_229 (by decide) ?_
                    refine lv_aload_n hx hb dX7_readsOrder_259 rfl (lv_at hl 1 rfl) ?_
                    refine lv_dup hx hb dX7_readsOrder_260 rfl ?_
                    refine fa_geti (k := 397) CX HX2294 fl_X7_141 (by omega) rfl rfl dX7_readsOrder_261 ?_
                    rw [show v2293 397 11 = nI (no) from (go_x2292.trans (congrArg nI ho_x2292.e))]
                    refine lv_iload_n hx hb dX7_readsOrder_264 rfl (lv_at hl 0 rfl) ?_
                    refine lv_if_eq (tgt := 272) hx hb dX7_readsOrder_265 (by decide) (fun c_265 => ?_) (fun c_265 => ?_)
                    · refine lv_iconst (v := nI (0)) hx hb dX7_readsOrder_272 (by decide) ?_
                      refine fa_iaddN hx hb dX7_readsOrder_273 ?_
                      refine fa_puti (k := 397) CX HX2294 fl_X7_141 (by omega) rfl rfl rfl rfl dX7_readsOrder_274 (fun H locs v2295 e2296 HX2297 => ?_)
                      refine lv_iload_n hx hb dX7_readsOrder_277 rfl (lv_at hl 0 rfl) ?_
                      exact RET _ _ _ _ _ _ _ HX2297 dX7_readsOrder_278 (by decide) (⟨rfl, ⟨⟨(by rw [((fa_ord_f hS102).trans (fa_two_n hn1 hmn1.e hcm hn2))]; exact rfl), m_x2292, no + 0, ⟨by omega, by omega, by omega, fa_is.mk (by rw [((fa_ord_f hS102).trans (fa_two_n hn1 hmn1.e hcm hn2))]; exact hmn2.e), fa_is.mk (by rw [((fa_ord_f hS102).trans (fa_two_n hn1 hmn1.e hcm hn2))]; exact (show no + 0 = no by omega))⟩, (show v2295 397 12 = nI (m_x2292) from (by rw [e2296, fa_u_n _ _ (by omega)]; exact gm_x2292)), (show v2295 397 11 = nI (no + 0) from (by rw [e2296, fa_u_s])), (show fa_f3 v v2295 from (by rw [e2296]; exact fa_f3.w (fa_f3.tr (fa_f3.tr (fa_f3.tr (fa_f3.tr (fa_f3.tr (fa_f3.tr (fa_f3.tr (fa_f3.tr (by rw [e2214]; exact fa_f3.u (by rw [e2211]; exact fa_f3.u fa_f3.rf)) hf_x2217) hf_x2221) hf_x2225) hf_x2253) hf_x2257) hf_x2278) hf_x2285) hf_x2292) (by decide))), (by rw [((fa_ord_f hS102).trans (fa_two_n hn1 hmn1.e hcm hn2))]; exact ⟨(fun i hi => (by show v2295 403 i = _; rw [e2296, fa_u_k _ _ (by decide), hr_x2292.2 i (by omega), hr_x2285, hr_x2278.2 i (by omega), hr_x2257, hr_x2253, hr_x2225, hr_x2221, hr_x2217]; exact hA i hi)), (by show v2295 403 (4 * no) = _; rw [e2296, fa_u_k _ _ (by decide), hr_x2292.2 (4 * no) (by omega), hr_x2285, hr_x2278.2 (4 * no) (by omega), hr_x2257, hr_x2253, hr_x2225, hr_x2221, hr_x2217]; exact hB), (by show v2295 403 (4 * no + 1) = _; rw [e2296, fa_u_k _ _ (by decide), hr_x2292.2 (4 * no + 1) (by omega), hr_x2285, hr_x2278.2 (4 * no + 1) (by omega), hr_x2257, hr_x2253, hr_x2225, hr_x2221, hr_x2217]; exact hC), (fun z => absurd (show false = true from z) (by decide))⟩)⟩, (by rw [e2296]; exact fa_fr.u (fa_fr.tr (fa_fr.tr (fa_fr.tr (fa_fr.tr (fa_fr.tr (fa_fr.tr (fa_fr.tr (fa_fr.tr (by rw [e2214]; exact fa_fr.u (by rw [e2211]; exact fa_fr.u fa_fr.rf (by omega)) (by omega)) (fa_fr.wide h2216.2 (by omega) (by omega))) (fa_fr.wide h2220.2 (by omega) (by omega))) (fa_fr.wide h2224.2 (by omega) (by omega))) (fa_fr.wide h2252.2 (by omega) (by omega))) (fa_fr.wide h2256.2 (by omega) (by omega))) (fa_fr.wide h2277.2 (by omega) (by omega))) (fa_fr.wide h2284.2 (by omega) (by omega))) (fa_fr.wide h2291.2 (by omega) (by omega))) (by omega))⟩⟩)
                    · exact absurd (by try decide) c_265
                  · have hn2 := fa_ift hxn2 c_220
                    refine lv_iconst (v := nI (1)) hx hb dX7_readsOrder_223 (by decide) ?_
                    refine lv_goto (tgt := 228) hx hb dX7_readsOrder_224 (by decide) ?_
                    refine lv_istore_n (lv' := [(1, .int (nI (1))), (0, .ref (fa_B G + (397)))]) hx hb dX7_readsOrder_228 rfl hl (by decide) rfl (fun ls hl => ?_)
                    refine lv_goto (tgt := 259) hx hb dX7_readsOrder_229 (by decide) ?_
                    refine lv_aload_n hx hb dX7_readsOrder_259 rfl (lv_at hl 1 rfl) ?_
                    refine lv_dup hx hb dX7_readsOrder_260 rfl ?_
                    refine fa_geti (k := 397) CX HX2294 fl_X7_141 (by omega) rfl rfl dX7_readsOrder_261 ?_
                    rw [show v2293 397 11 = nI (no) from (go_x2292.trans (congrArg nI ho_x2292.e))]
                    refine lv_iload_n hx hb dX7_readsOrder_264 rfl (lv_at hl 0 rfl) ?_
                    refine lv_if_eq (tgt := 272) hx hb dX7_readsOrder_265 (by decide) (fun c_265 => ?_) (fun c_265 => ?_)
                    · exact absurd c_265 (by try decide)
                    · refine lv_iconst (v := nI (1)) hx hb dX7_readsOrder_268 (by decide) ?_
                      refine lv_goto (tgt := 273) hx hb dX7_readsOrder_269 (by decide) ?_
                      refine fa_iaddN hx hb dX7_readsOrder_273 ?_
                      refine fa_puti (k := 397) CX HX2294 fl_X7_141 (by omega) rfl rfl rfl rfl dX7_readsOrder_274 (fun H locs v2298 e2299 HX2300 => ?_)
                      refine lv_iload_n hx hb dX7_readsOrder_277 rfl (lv_at hl 0 rfl) ?_
                      exact RET _ _ _ _ _ _ _ HX2300 dX7_readsOrder_278 (by decide) (⟨rfl, ⟨⟨(by rw [((fa_ord_f hS102).trans (fa_two_y hn1 hmn1.e hcm hn2))]; exact rfl), m_x2292, no + 1, ⟨by omega, by omega, (by have hfx := (show na + 2 ≤ m_x2292 from by have z := (fa_ord_le (t := t) hna).2.2; rw [((fa_ord_f hS102).trans (fa_two_y hn1 hmn1.e hcm hn2))] at z; rw [hmn2.e]; exact z rfl); omega), fa_is.mk (by rw [((fa_ord_f hS102).trans (fa_two_y hn1 hmn1.e hcm hn2))]; exact hmn2.e), fa_is.mk (by rw [((fa_ord_f hS102).trans (fa_two_y hn1 hmn1.e hcm hn2))]; exact (show no + 1 = no + 1 by omega))⟩, (show v2298 397 12 = nI (m_x2292) from (by rw [e2299, fa_u_n _ _ (by omega)]; exact gm_x2292)), (show v2298 397 11 = nI (no + 1) from (by rw [e2299, fa_u_s])), (show fa_f3 v v2298 from (by rw [e2299]; exact fa_f3.w (fa_f3.tr (fa_f3.tr (fa_f3.tr (fa_f3.tr (fa_f3.tr (fa_f3.tr (fa_f3.tr (fa_f3.tr (by rw [e2214]; exact fa_f3.u (by rw [e2211]; exact fa_f3.u fa_f3.rf)) hf_x2217) hf_x2221) hf_x2225) hf_x2253) hf_x2257) hf_x2278) hf_x2285) hf_x2292) (by decide))), (by rw [((fa_ord_f hS102).trans (fa_two_y hn1 hmn1.e hcm hn2))]; exact ⟨(fun i hi => (by show v2298 403 i = _; rw [e2299, fa_u_k _ _ (by decide), hr_x2292.2 i (by omega), hr_x2285, hr_x2278.2 i (by omega), hr_x2257, hr_x2253, hr_x2225, hr_x2221, hr_x2217]; exact hA i hi)), (by show v2298 403 (4 * no) = _; rw [e2299, fa_u_k _ _ (by decide), hr_x2292.2 (4 * no) (by omega), hr_x2285, hr_x2278.2 (4 * no) (by omega), hr_x2257, hr_x2253, hr_x2225, hr_x2221, hr_x2217]; exact hB), (by show v2298 403 (4 * no + 1) = _; rw [e2299, fa_u_k _ _ (by decide), hr_x2292.2 (4 * no + 1) (by omega), hr_x2285, hr_x2278.2 (4 * no + 1) (by omega), hr_x2257, hr_x2253, hr_x2225, hr_x2221, hr_x2217]; exact hC), (fun _ => ⟨(by show v2298 403 (4 * no + 2) = _; rw [e2299, fa_u_k _ _ (by decide), hr_x2292.2 (4 * no + 2) (by omega), hr_x2285]; exact hr_x2278.1 hn1), (fun _ _ => (by show v2298 403 (4 * no + 3) = _; rw [e2299, fa_u_k _ _ (by decide)]; exact hr_x2292.1 hn2))⟩)⟩)⟩, (by rw [e2299]; exact fa_fr.u (fa_fr.tr (fa_fr.tr (fa_fr.tr (fa_fr.tr (fa_fr.tr (fa_fr.tr (fa_fr.tr (fa_fr.tr (by rw [e2214]; exact fa_fr.u (by rw [e2211]; exact fa_fr.u fa_fr.rf (by omega)) (by omega)) (fa_fr.wide h2216.2 (by omega) (by omega))) (fa_fr.wide h2220.2 (by omega) (by omega))) (fa_fr.wide h2224.2 (by omega) (by omega))) (fa_fr.wide h2252.2 (by omega) (by omega))) (fa_fr.wide h2256.2 (by omega) (by omega))) (fa_fr.wide h2277.2 (by omega) (by omega))) (fa_fr.wide h2284.2 (by omega) (by omega))) (fa_fr.wide h2291.2 (by omega) (by omega))) (by omega))⟩⟩)
          · have hS108 : fa_sg t n9 na = (108 : Int32) := fa_ift hxa c_137
            have hp108 := hma.e.trans (fa_acc_t hS108)
            have hlt : na < n9 := fa_sg_nz hS108 (by decide)
            clear ha_x2253 hc_x2253 hd_x2253
            refine lv_aload_n hx hb dX7_readsOrder_140 rfl (lv_at hl 0 rfl) ?_
            refine lv_iconst (v := nI (2)) hx hb dX7_readsOrder_141 (by decide) ?_
            refine lv_iconst (v := nI (0)) hx hb dX7_readsOrder_142 (by decide) ?_
            refine lv_bipush (v := nI (7)) hx hb dX7_readsOrder_143 (by decide) ?_
            refine fa_callViu (As := [.int (nI (2)), .int (nI (0)), .int (nI (7))]) (rest := []) CX HX2255 (r_number l G n hn v2254 r hM (n9) (na + 1) (no) (by omega) (by omega) (by omega) ((hf_x2253.2 9 (by decide) (by decide)).trans ((hf_x2225.2 9 (by decide) (by decide)).trans ((hf_x2221.2 9 (by decide) (by decide)).trans ((hf_x2217.2 9 (by decide) (by decide)).trans (by rw [e2214, fa_u_n _ _ (by omega)]; exact (by rw [e2211, fa_u_n _ _ (by omega)]; exact g9)))))) ((gm_x2253).trans (congrArg nI hp108)) (go_x2253.trans (congrArg nI ho_x2253.e)) t ((h2252.2 405 (by omega)).trans ((h2224.2 405 (by omega)).trans ((h2220.2 405 (by omega)).trans ((h2216.2 405 (by omega)).trans (((congrFun e2214 405).trans (fa_u_k _ _ (by decide))).trans (((congrFun e2211 405).trans (fa_u_k _ _ (by decide))).trans h5)))))) (2) (nI (0)) (nI (7)) (by omega) ⟨0, by decide, rfl⟩ ⟨7, by decide, rfl⟩) ln_X7_148 (by omega) rfl rfl rfl rfl (Nat.le_of_ble_eq_true rfl) hl.1 ⟨Nat.le_of_ble_eq_true rfl, Nat.le_of_ble_eq_true rfl⟩ ⟨Nat.le_refl _, Nat.le_refl _⟩ dX7_readsOrder_145 (fun x2302 v2303 H locs h2301 HX2304 => ?_)
            obtain ⟨hx_x2302, m_x2302, o_x2302, ⟨ha_x2302, hc_x2302, hd_x2302, hm_x2302, ho_x2302⟩, gm_x2302, go_x2302, hf_x2302, hr_x2302⟩ := h2301.1
            have hxn1 := hx_x2302
            have hmn1 := hm_x2302
            refine lv_if_eq (tgt := 176) hx hb dX7_readsOrder_148 (by decide) (fun c_148 => ?_) (fun c_148 => ?_)
            · have hn1 := fa_ifn hxn1 c_148
              refine lv_iconst (v := nI (0)) hx hb dX7_readsOrder_176 (by decide) ?_
              refine lv_istore_n (lv' := [(1, .int (nI (0))), (0, .ref (fa_B G + (397)))]) hx hb dX7_readsOrder_177 rfl hl (by decide) rfl (fun ls hl => ?_)
              refine lv_goto (tgt := 259) hx hb dX7_readsOrder_178 (by decide) ?_
              refine lv_aload_n hx hb dX7_readsOrder_259 rfl (lv_at hl 1 rfl) ?_
              refine lv_dup hx hb dX7_readsOrder_260 rfl ?_
              refine fa_geti (k := 397) CX HX2304 fl_X7_141 (by omega) rfl rfl dX7_readsOrder_261 ?_
              rw [show v2303 397 11 = nI (no) from (go_x2302.trans (congrArg nI ho_x2302.e))]
              refine lv_iload_n hx hb dX7_readsOrder_264 rfl (lv_at hl 0 rfl) ?_
              refine lv_if_eq (tgt := 272) hx hb dX7_readsOrder_265 (by decide) (fun c_265 => ?_) (fun c_265 => ?_)
              · refine lv_iconst (v := nI (0)) hx hb dX7_readsOrder_272 (by decide) ?_
                refine fa_iaddN hx hb dX7_readsOrder_273 ?_
                refine fa_puti (k := 397) CX HX2304 fl_X7_141 (by omega) rfl rfl rfl rfl dX7_readsOrder_274 (fun H locs v2305 e2306 HX2307 => ?_)
                refine lv_iload_n hx hb dX7_readsOrder_277 rfl (lv_at hl 0 rfl) ?_
                exact RET _ _ _ _ _ _ _ HX2307 dX7_readsOrder_278 (by decide) (⟨rfl, ⟨⟨(by rw [((fa_ord_s (Or.inr hS108)).trans (fa_two_f hn1))]; exact rfl), m_x2302, no + 0, ⟨by omega, by omega, by omega, fa_is.mk (by rw [((fa_ord_s (Or.inr hS108)).trans (fa_two_f hn1))]; exact hmn1.e), fa_is.mk (by rw [((fa_ord_s (Or.inr hS108)).trans (fa_two_f hn1))]; exact (show no + 0 = no by omega))⟩, (show v2305 397 12 = nI (m_x2302) from (by rw [e2306, fa_u_n _ _ (by omega)]; exact gm_x2302)), (show v2305 397 11 = nI (no + 0) from (by rw [e2306, fa_u_s])), (show fa_f3 v v2305 from (by rw [e2306]; exact fa_f3.w (fa_f3.tr (fa_f3.tr (fa_f3.tr (fa_f3.tr (fa_f3.tr (by rw [e2214]; exact fa_f3.u (by rw [e2211]; exact fa_f3.u fa_f3.rf)) hf_x2217) hf_x2221) hf_x2225) hf_x2253) hf_x2302) (by decide))), (by rw [((fa_ord_s (Or.inr hS108)).trans (fa_two_f hn1))]; exact ⟨(fun i hi => (by show v2305 403 i = _; rw [e2306, fa_u_k _ _ (by decide), hr_x2302.2 i (by omega), hr_x2253, hr_x2225, hr_x2221, hr_x2217]; exact hA i hi)), (by show v2305 403 (4 * no) = _; rw [e2306, fa_u_k _ _ (by decide), hr_x2302.2 (4 * no) (by omega), hr_x2253, hr_x2225, hr_x2221, hr_x2217]; exact hB), (by show v2305 403 (4 * no + 1) = _; rw [e2306, fa_u_k _ _ (by decide), hr_x2302.2 (4 * no + 1) (by omega), hr_x2253, hr_x2225, hr_x2221, hr_x2217]; exact hC), (fun z => absurd (show false = true from z) (by decide))⟩)⟩, (by rw [e2306]; exact fa_fr.u (fa_fr.tr (fa_fr.tr (fa_fr.tr (fa_fr.tr (fa_fr.tr (by rw [e2214]; exact fa_fr.u (by rw [e2211]; exact fa_fr.u fa_fr.rf (by omega)) (by omega)) (fa_fr.wide h2216.2 (by omega) (by omega))) (fa_fr.wide h2220.2 (by omega) (by omega))) (fa_fr.wide h2224.2 (by omega) (by omega))) (fa_fr.wide h2252.2 (by omega) (by omega))) (fa_fr.wide h2301.2 (by omega) (by omega))) (by omega))⟩⟩)
              · exact absurd (by try decide) c_265
            · have hn1 := fa_ift hxn1 c_148
              refine lv_aload_n hx hb dX7_readsOrder_151 rfl (lv_at hl 0 rfl) ?_
              refine lv_bipush (v := nI (44)) hx hb dX7_readsOrder_152 (by decide) ?_
              refine fa_callViu (As := [.int (nI (44))]) (rest := []) CX HX2304 (r_accepts l G n hn v2303 r hM (n9) (m_x2302) (no) (by omega) (by omega) (by omega) ((hf_x2302.2 9 (by decide) (by decide)).trans ((hf_x2253.2 9 (by decide) (by decide)).trans ((hf_x2225.2 9 (by decide) (by decide)).trans ((hf_x2221.2 9 (by decide) (by decide)).trans ((hf_x2217.2 9 (by decide) (by decide)).trans (by rw [e2214, fa_u_n _ _ (by omega)]; exact (by rw [e2211, fa_u_n _ _ (by omega)]; exact g9))))))) gm_x2302 (go_x2302.trans (congrArg nI ho_x2302.e)) t ((h2301.2 405 (by omega)).trans ((h2252.2 405 (by omega)).trans ((h2224.2 405 (by omega)).trans ((h2220.2 405 (by omega)).trans ((h2216.2 405 (by omega)).trans (((congrFun e2214 405).trans (fa_u_k _ _ (by decide))).trans (((congrFun e2211 405).trans (fa_u_k _ _ (by decide))).trans h5))))))) (nI (44)) (by decide)) ln_X7_144 (by omega) rfl rfl rfl rfl (Nat.le_of_ble_eq_true rfl) hl.1 ⟨Nat.le_of_ble_eq_true rfl, Nat.le_of_ble_eq_true rfl⟩ ⟨Nat.le_refl _, Nat.le_refl _⟩ dX7_readsOrder_154 (fun x2309 v2310 H locs h2308 HX2311 => ?_)
              obtain ⟨hx_x2309, m_x2309, o_x2309, ⟨ha_x2309, hc_x2309, hd_x2309, hm_x2309, ho_x2309⟩, gm_x2309, go_x2309, hf_x2309, hr_x2309⟩ := h2308.1
              have hxc := hx_x2309
              have hmc := hm_x2309
              refine lv_if_eq (tgt := 176) hx hb dX7_readsOrder_157 (by decide) (fun c_157 => ?_) (fun c_157 => ?_)
              · have hcm := fa_ifn hxc c_157
                have hpc := hmc.e.trans (fa_acc_f hcm)
                refine lv_iconst (v := nI (0)) hx hb dX7_readsOrder_176 (by decide) ?_
                refine lv_istore_n (lv' := [(1, .int (nI (0))), (0, .ref (fa_B G + (397)))]) hx hb dX7_readsOrder_177 rfl hl (by decide) rfl (fun ls hl => ?_)
                refine lv_goto (tgt := 259) hx hb dX7_readsOrder_178 (by decide) ?_
                refine lv_aload_n hx hb dX7_readsOrder_259 rfl (lv_at hl 1 rfl) ?_
                refine lv_dup hx hb dX7_readsOrder_260 rfl ?_
                refine fa_geti (k := 397) CX HX2311 fl_X7_141 (by omega) rfl rfl dX7_readsOrder_261 ?_
                rw [show v2310 397 11 = nI (no) from (go_x2309.trans (congrArg nI ho_x2309.e))]
                refine lv_iload_n hx hb dX7_readsOrder_264 rfl (lv_at hl 0 rfl) ?_
                refine lv_if_eq (tgt := 272) hx hb dX7_readsOrder_265 (by decide) (fun c_265 => ?_) (fun c_265 => ?_)
                · refine lv_iconst (v := nI (0)) hx hb dX7_readsOrder_272 (by decide) ?_
                  refine fa_iaddN hx hb dX7_readsOrder_273 ?_
                  refine fa_puti (k := 397) CX HX2311 fl_X7_141 (by omega) rfl rfl rfl rfl dX7_readsOrder_274 (fun H locs v2312 e2313 HX2314 => ?_)
                  refine lv_iload_n hx hb dX7_readsOrder_277 rfl (lv_at hl 0 rfl) ?_
                  exact RET _ _ _ _ _ _ _ HX2314 dX7_readsOrder_278 (by decide) (⟨rfl, ⟨⟨(by rw [((fa_ord_s (Or.inr hS108)).trans (fa_two_c hn1 hmn1.e hcm))]; exact rfl), m_x2302, no + 0, ⟨by omega, by omega, by omega, fa_is.mk (by rw [((fa_ord_s (Or.inr hS108)).trans (fa_two_c hn1 hmn1.e hcm))]), fa_is.mk (by rw [((fa_ord_s (Or.inr hS108)).trans (fa_two_c hn1 hmn1.e hcm))]; exact (show no + 0 = no by omega))⟩, (show v2312 397 12 = nI (m_x2302) from (by rw [e2313, fa_u_n _ _ (by omega)]; exact ((gm_x2309).trans (congrArg nI hpc)))), (show v2312 397 11 = nI (no + 0) from (by rw [e2313, fa_u_s])), (show fa_f3 v v2312 from (by rw [e2313]; exact fa_f3.w (fa_f3.tr (fa_f3.tr (fa_f3.tr (fa_f3.tr (fa_f3.tr (fa_f3.tr (by rw [e2214]; exact fa_f3.u (by rw [e2211]; exact fa_f3.u fa_f3.rf)) hf_x2217) hf_x2221) hf_x2225) hf_x2253) hf_x2302) hf_x2309) (by decide))), (by rw [((fa_ord_s (Or.inr hS108)).trans (fa_two_c hn1 hmn1.e hcm))]; exact ⟨(fun i hi => (by show v2312 403 i = _; rw [e2313, fa_u_k _ _ (by decide), hr_x2309, hr_x2302.2 i (by omega), hr_x2253, hr_x2225, hr_x2221, hr_x2217]; exact hA i hi)), (by show v2312 403 (4 * no) = _; rw [e2313, fa_u_k _ _ (by decide), hr_x2309, hr_x2302.2 (4 * no) (by omega), hr_x2253, hr_x2225, hr_x2221, hr_x2217]; exact hB), (by show v2312 403 (4 * no + 1) = _; rw [e2313, fa_u_k _ _ (by decide), hr_x2309, hr_x2302.2 (4 * no + 1) (by omega), hr_x2253, hr_x2225, hr_x2221, hr_x2217]; exact hC), (fun z => absurd (show false = true from z) (by decide))⟩)⟩, (by rw [e2313]; exact fa_fr.u (fa_fr.tr (fa_fr.tr (fa_fr.tr (fa_fr.tr (fa_fr.tr (fa_fr.tr (by rw [e2214]; exact fa_fr.u (by rw [e2211]; exact fa_fr.u fa_fr.rf (by omega)) (by omega)) (fa_fr.wide h2216.2 (by omega) (by omega))) (fa_fr.wide h2220.2 (by omega) (by omega))) (fa_fr.wide h2224.2 (by omega) (by omega))) (fa_fr.wide h2252.2 (by omega) (by omega))) (fa_fr.wide h2301.2 (by omega) (by omega))) (fa_fr.wide h2308.2 (by omega) (by omega))) (by omega))⟩⟩)
                · exact absurd (by try decide) c_265
              · have hcm := fa_ift hxc c_157
                have hpc := hmc.e.trans (fa_acc_t hcm)
                refine lv_aload_n hx hb dX7_readsOrder_160 rfl (lv_at hl 0 rfl) ?_
                refine lv_iconst (v := nI (3)) hx hb dX7_readsOrder_161 (by decide) ?_
                refine lv_iconst (v := nI (0)) hx hb dX7_readsOrder_162 (by decide) ?_
                refine lv_sipush (v := nI (199)) hx hb dX7_readsOrder_163 (by decide) ?_
                refine fa_callViu (As := [.int (nI (3)), .int (nI (0)), .int (nI (199))]) (rest := []) CX HX2311 (r_number l G n hn v2310 r hM (n9) (m_x2302 + 1) (no) (by omega) (by omega) (by omega) ((hf_x2309.2 9 (by decide) (by decide)).trans ((hf_x2302.2 9 (by decide) (by decide)).trans ((hf_x2253.2 9 (by decide) (by decide)).trans ((hf_x2225.2 9 (by decide) (by decide)).trans ((hf_x2221.2 9 (by decide) (by decide)).trans ((hf_x2217.2 9 (by decide) (by decide)).trans (by rw [e2214, fa_u_n _ _ (by omega)]; exact (by rw [e2211, fa_u_n _ _ (by omega)]; exact g9)))))))) ((gm_x2309).trans (congrArg nI hpc)) (go_x2309.trans (congrArg nI ho_x2309.e)) t ((h2308.2 405 (by omega)).trans ((h2301.2 405 (by omega)).trans ((h2252.2 405 (by omega)).trans ((h2224.2 405 (by omega)).trans ((h2220.2 405 (by omega)).trans ((h2216.2 405 (by omega)).trans (((congrFun e2214 405).trans (fa_u_k _ _ (by decide))).trans (((congrFun e2211 405).trans (fa_u_k _ _ (by decide))).trans h5)))))))) (3) (nI (0)) (nI (199)) (by omega) ⟨0, by decide, rfl⟩ ⟨199, by decide, rfl⟩) ln_X7_148 (by omega) rfl rfl rfl rfl (Nat.le_of_ble_eq_true rfl) hl.1 ⟨Nat.le_of_ble_eq_true rfl, Nat.le_of_ble_eq_true rfl⟩ ⟨Nat.le_refl _, Nat.le_refl _⟩ dX7_readsOrder_166 (fun x2316 v2317 H locs h2315 HX2318 => ?_)
                obtain ⟨hx_x2316, m_x2316, o_x2316, ⟨ha_x2316, hc_x2316, hd_x2316, hm_x2316, ho_x2316⟩, gm_x2316, go_x2316, hf_x2316, hr_x2316⟩ := h2315.1
                have hxn2 := hx_x2316
                have hmn2 := hm_x2316
                refine lv_if_eq (tgt := 176) hx hb dX7_readsOrder_169 (by decide) (fun c_169 => ?_) (fun c_169 => ?_)
                · have hn2 := fa_ifn hxn2 c_169
                  refine lv_iconst (v := nI (0)) hx hb dX7_readsOrder_176 (by decide) ?_
                  refine lv_istore_n (lv' := [(1, .int (nI (0))), (0, .ref (fa_B G + (397)))]) hx hb dX7_readsOrder_177 rfl hl (by decide) rfl (fun ls hl => ?_)
                  refine lv_goto (tgt := 259) hx hb dX7_readsOrder_178 (by decide) ?_
                  refine lv_aload_n hx hb dX7_readsOrder_259 rfl (lv_at hl 1 rfl) ?_
                  refine lv_dup hx hb dX7_readsOrder_260 rfl ?_
                  refine fa_geti (k := 397) CX HX2318 fl_X7_141 (by omega) rfl rfl dX7_readsOrder_261 ?_
                  rw [show v2317 397 11 = nI (no) from (go_x2316.trans (congrArg nI ho_x2316.e))]
                  refine lv_iload_n hx hb dX7_readsOrder_264 rfl (lv_at hl 0 rfl) ?_
                  refine lv_if_eq (tgt := 272) hx hb dX7_readsOrder_265 (by decide) (fun c_265 => ?_) (fun c_265 => ?_)
                  · refine lv_iconst (v := nI (0)) hx hb dX7_readsOrder_272 (by decide) ?_
                    refine fa_iaddN hx hb dX7_readsOrder_273 ?_
                    refine fa_puti (k := 397) CX HX2318 fl_X7_141 (by omega) rfl rfl rfl rfl dX7_readsOrder_274 (fun H locs v2319 e2320 HX2321 => ?_)
                    refine lv_iload_n hx hb dX7_readsOrder_277 rfl (lv_at hl 0 rfl) ?_
                    exact RET _ _ _ _ _ _ _ HX2321 dX7_readsOrder_278 (by decide) (⟨rfl, ⟨⟨(by rw [((fa_ord_s (Or.inr hS108)).trans (fa_two_n hn1 hmn1.e hcm hn2))]; exact rfl), m_x2316, no + 0, ⟨by omega, by omega, by omega, fa_is.mk (by rw [((fa_ord_s (Or.inr hS108)).trans (fa_two_n hn1 hmn1.e hcm hn2))]; exact hmn2.e), fa_is.mk (by rw [((fa_ord_s (Or.inr hS108)).trans (fa_two_n hn1 hmn1.e hcm hn2))]; exact (show no + 0 = no by omega))⟩, (show v2319 397 12 = nI (m_x2316) from (by rw [e2320, fa_u_n _ _ (by omega)]; exact gm_x2316)), (show v2319 397 11 = nI (no + 0) from (by rw [e2320, fa_u_s])), (show fa_f3 v v2319 from (by rw [e2320]; exact fa_f3.w (fa_f3.tr (fa_f3.tr (fa_f3.tr (fa_f3.tr (fa_f3.tr (fa_f3.tr (fa_f3.tr (by rw [e2214]; exact fa_f3.u (by rw [e2211]; exact fa_f3.u fa_f3.rf)) hf_x2217) hf_x2221) hf_x2225) hf_x2253) hf_x2302) hf_x2309) hf_x2316) (by decide))), (by rw [((fa_ord_s (Or.inr hS108)).trans (fa_two_n hn1 hmn1.e hcm hn2))]; exact ⟨(fun i hi => (by show v2319 403 i = _; rw [e2320, fa_u_k _ _ (by decide), hr_x2316.2 i (by omega), hr_x2309, hr_x2302.2 i (by omega), hr_x2253, hr_x2225, hr_x2221, hr_x2217]; exact hA i hi)), (by show v2319 403 (4 * no) = _; rw [e2320, fa_u_k _ _ (by decide), hr_x2316.2 (4 * no) (by omega), hr_x2309, hr_x2302.2 (4 * no) (by omega), hr_x2253, hr_x2225, hr_x2221, hr_x2217]; exact hB), (by show v2319 403 (4 * no + 1) = _; rw [e2320, fa_u_k _ _ (by decide), hr_x2316.2 (4 * no + 1) (by omega), hr_x2309, hr_x2302.2 (4 * no + 1) (by omega), hr_x2253, hr_x2225, hr_x2221, hr_x2217]; exact hC), (fun z => absurd (show false = true from z) (by decide))⟩)⟩, (by rw [e2320]; exact fa_fr.u (fa_fr.tr (fa_fr.tr (fa_fr.tr (fa_fr.tr (fa_fr.tr (fa_fr.tr (fa_fr.tr (by rw [e2214]; exact fa_fr.u (by rw [e2211]; exact fa_fr.u fa_fr.rf (by omega)) (by omega)) (fa_fr.wide h2216.2 (by omega) (by omega))) (fa_fr.wide h2220.2 (by omega) (by omega))) (fa_fr.wide h2224.2 (by omega) (by omega))) (fa_fr.wide h2252.2 (by omega) (by omega))) (fa_fr.wide h2301.2 (by omega) (by omega))) (fa_fr.wide h2308.2 (by omega) (by omega))) (fa_fr.wide h2315.2 (by omega) (by omega))) (by omega))⟩⟩)
                  · exact absurd (by try decide) c_265
                · have hn2 := fa_ift hxn2 c_169
                  refine lv_iconst (v := nI (1)) hx hb dX7_readsOrder_172 (by decide) ?_
                  refine lv_goto (tgt := 177) hx hb dX7_readsOrder_173 (by decide) ?_
                  refine lv_istore_n (lv' := [(1, .int (nI (1))), (0, .ref (fa_B G + (397)))]) hx hb dX7_readsOrder_177 rfl hl (by decide) rfl (fun ls hl => ?_)
                  refine lv_goto (tgt := 259) hx hb dX7_readsOrder_178 (by decide) ?_
                  refine lv_aload_n hx hb dX7_readsOrder_259 rfl (lv_at hl 1 rfl) ?_
                  refine lv_dup hx hb dX7_readsOrder_260 rfl ?_
                  refine fa_geti (k := 397) CX HX2318 fl_X7_141 (by omega) rfl rfl dX7_readsOrder_261 ?_
                  rw [show v2317 397 11 = nI (no) from (go_x2316.trans (congrArg nI ho_x2316.e))]
                  refine lv_iload_n hx hb dX7_readsOrder_264 rfl (lv_at hl 0 rfl) ?_
                  refine lv_if_eq (tgt := 272) hx hb dX7_readsOrder_265 (by decide) (fun c_265 => ?_) (fun c_265 => ?_)
                  · exact absurd c_265 (by try decide)
                  · refine lv_iconst (v := nI (1)) hx hb dX7_readsOrder_268 (by decide) ?_
                    refine lv_goto (tgt := 273) hx hb dX7_readsOrder_269 (by decide) ?_
                    refine fa_iaddN hx hb dX7_readsOrder_273 ?_
                    refine fa_puti (k := 397) CX HX2318 fl_X7_141 (by omega) rfl rfl rfl rfl dX7_readsOrder_274 (fun H locs v2322 e2323 HX2324 => ?_)
                    refine lv_iload_n hx hb dX7_readsOrder_277 rfl (lv_at hl 0 rfl) ?_
                    exact RET _ _ _ _ _ _ _ HX2324 dX7_readsOrder_278 (by decide) (⟨rfl, ⟨⟨(by rw [((fa_ord_s (Or.inr hS108)).trans (fa_two_y hn1 hmn1.e hcm hn2))]; exact rfl), m_x2316, no + 1, ⟨by omega, by omega, (by have hfx := (show na + 2 ≤ m_x2316 from by have z := (fa_ord_le (t := t) hna).2.2; rw [((fa_ord_s (Or.inr hS108)).trans (fa_two_y hn1 hmn1.e hcm hn2))] at z; rw [hmn2.e]; exact z rfl); omega), fa_is.mk (by rw [((fa_ord_s (Or.inr hS108)).trans (fa_two_y hn1 hmn1.e hcm hn2))]; exact hmn2.e), fa_is.mk (by rw [((fa_ord_s (Or.inr hS108)).trans (fa_two_y hn1 hmn1.e hcm hn2))]; exact (show no + 1 = no + 1 by omega))⟩, (show v2322 397 12 = nI (m_x2316) from (by rw [e2323, fa_u_n _ _ (by omega)]; exact gm_x2316)), (show v2322 397 11 = nI (no + 1) from (by rw [e2323, fa_u_s])), (show fa_f3 v v2322 from (by rw [e2323]; exact fa_f3.w (fa_f3.tr (fa_f3.tr (fa_f3.tr (fa_f3.tr (fa_f3.tr (fa_f3.tr (fa_f3.tr (by rw [e2214]; exact fa_f3.u (by rw [e2211]; exact fa_f3.u fa_f3.rf)) hf_x2217) hf_x2221) hf_x2225) hf_x2253) hf_x2302) hf_x2309) hf_x2316) (by decide))), (by rw [((fa_ord_s (Or.inr hS108)).trans (fa_two_y hn1 hmn1.e hcm hn2))]; exact ⟨(fun i hi => (by show v2322 403 i = _; rw [e2323, fa_u_k _ _ (by decide), hr_x2316.2 i (by omega), hr_x2309, hr_x2302.2 i (by omega), hr_x2253, hr_x2225, hr_x2221, hr_x2217]; exact hA i hi)), (by show v2322 403 (4 * no) = _; rw [e2323, fa_u_k _ _ (by decide), hr_x2316.2 (4 * no) (by omega), hr_x2309, hr_x2302.2 (4 * no) (by omega), hr_x2253, hr_x2225, hr_x2221, hr_x2217]; exact hB), (by show v2322 403 (4 * no + 1) = _; rw [e2323, fa_u_k _ _ (by decide), hr_x2316.2 (4 * no + 1) (by omega), hr_x2309, hr_x2302.2 (4 * no + 1) (by omega), hr_x2253, hr_x2225, hr_x2221, hr_x2217]; exact hC), (fun _ => ⟨(by show v2322 403 (4 * no + 2) = _; rw [e2323, fa_u_k _ _ (by decide), hr_x2316.2 (4 * no + 2) (by omega), hr_x2309]; exact hr_x2302.1 hn1), (fun _ _ => (by show v2322 403 (4 * no + 3) = _; rw [e2323, fa_u_k _ _ (by decide)]; exact hr_x2316.1 hn2))⟩)⟩)⟩, (by rw [e2323]; exact fa_fr.u (fa_fr.tr (fa_fr.tr (fa_fr.tr (fa_fr.tr (fa_fr.tr (fa_fr.tr (fa_fr.tr (by rw [e2214]; exact fa_fr.u (by rw [e2211]; exact fa_fr.u fa_fr.rf (by omega)) (by omega)) (fa_fr.wide h2216.2 (by omega) (by omega))) (fa_fr.wide h2220.2 (by omega) (by omega))) (fa_fr.wide h2224.2 (by omega) (by omega))) (fa_fr.wide h2252.2 (by omega) (by omega))) (fa_fr.wide h2301.2 (by omega) (by omega))) (fa_fr.wide h2308.2 (by omega) (by omega))) (fa_fr.wide h2315.2 (by omega) (by omega))) (by omega))⟩⟩)
      · have hS97 : fa_sg t n9 na = (97 : Int32) := fa_ift hxa c_106
        have hp97 := hma.e.trans (fa_acc_t hS97)
        have hlt : na < n9 := fa_sg_nz hS97 (by decide)
        clear ha_x2221 hc_x2221 hd_x2221
        refine lv_aload_n hx hb dX7_readsOrder_109 rfl (lv_at hl 0 rfl) ?_
        refine lv_iconst (v := nI (2)) hx hb dX7_readsOrder_110 (by decide) ?_
        refine lv_iconst (v := nI (0)) hx hb dX7_readsOrder_111 (by decide) ?_
        refine lv_sipush (v := nI (199)) hx hb dX7_readsOrder_112 (by decide) ?_
        refine fa_callViu (As := [.int (nI (2)), .int (nI (0)), .int (nI (199))]) (rest := []) CX HX2223 (r_number l G n hn v2222 r hM (n9) (na + 1) (no) (by omega) (by omega) (by omega) ((hf_x2221.2 9 (by decide) (by decide)).trans ((hf_x2217.2 9 (by decide) (by decide)).trans (by rw [e2214, fa_u_n _ _ (by omega)]; exact (by rw [e2211, fa_u_n _ _ (by omega)]; exact g9)))) ((gm_x2221).trans (congrArg nI hp97)) (go_x2221.trans (congrArg nI ho_x2221.e)) t ((h2220.2 405 (by omega)).trans ((h2216.2 405 (by omega)).trans (((congrFun e2214 405).trans (fa_u_k _ _ (by decide))).trans (((congrFun e2211 405).trans (fa_u_k _ _ (by decide))).trans h5)))) (2) (nI (0)) (nI (199)) (by omega) ⟨0, by decide, rfl⟩ ⟨199, by decide, rfl⟩) ln_X7_148 (by omega) rfl rfl rfl rfl (Nat.le_of_ble_eq_true rfl) hl.1 ⟨Nat.le_of_ble_eq_true rfl, Nat.le_of_ble_eq_true rfl⟩ ⟨Nat.le_refl _, Nat.le_refl _⟩ dX7_readsOrder_115 (fun x2326 v2327 H locs h2325 HX2328 => ?_)
        obtain ⟨hx_x2326, m_x2326, o_x2326, ⟨ha_x2326, hc_x2326, hd_x2326, hm_x2326, ho_x2326⟩, gm_x2326, go_x2326, hf_x2326, hr_x2326⟩ := h2325.1
        have hxn1 := hx_x2326
        have hmn1 := hm_x2326
        refine lv_istore_n (lv' := [(1, .int (x2326)), (0, .ref (fa_B G + (397)))]) hx hb dX7_readsOrder_118 rfl hl (by decide) rfl (fun ls hl => ?_)
        refine lv_goto (tgt := 259) hx hb dX7_readsOrder_119 (by decide) ?_
        refine lv_aload_n hx hb dX7_readsOrder_259 rfl (lv_at hl 1 rfl) ?_
        refine lv_dup hx hb dX7_readsOrder_260 rfl ?_
        refine fa_geti (k := 397) CX HX2328 fl_X7_141 (by omega) rfl rfl dX7_readsOrder_261 ?_
        rw [show v2327 397 11 = nI (no) from (go_x2326.trans (congrArg nI ho_x2326.e))]
        refine lv_iload_n hx hb dX7_readsOrder_264 rfl (lv_at hl 0 rfl) ?_
        refine lv_if_eq (tgt := 272) hx hb dX7_readsOrder_265 (by decide) (fun c_265 => ?_) (fun c_265 => ?_)
        · have hn1 := fa_ifn hxn1 c_265
          refine lv_iconst (v := nI (0)) hx hb dX7_readsOrder_272 (by decide) ?_
          refine fa_iaddN hx hb dX7_readsOrder_273 ?_
          refine fa_puti (k := 397) CX HX2328 fl_X7_141 (by omega) rfl rfl rfl rfl dX7_readsOrder_274 (fun H locs v2329 e2330 HX2331 => ?_)
          refine lv_iload_n hx hb dX7_readsOrder_277 rfl (lv_at hl 0 rfl) ?_
          exact RET _ _ _ _ _ _ _ HX2331 dX7_readsOrder_278 (fa_if_nar hxn1) (⟨rfl, ⟨⟨(by rw [((fa_ord_a hS97).trans (fa_one_f hn1))]; exact (hxn1.trans (if_neg hn1))), m_x2326, no + 0, ⟨by omega, by omega, by omega, fa_is.mk (by rw [((fa_ord_a hS97).trans (fa_one_f hn1))]; exact hmn1.e), fa_is.mk (by rw [((fa_ord_a hS97).trans (fa_one_f hn1))]; exact (show no + 0 = no by omega))⟩, (show v2329 397 12 = nI (m_x2326) from (by rw [e2330, fa_u_n _ _ (by omega)]; exact gm_x2326)), (show v2329 397 11 = nI (no + 0) from (by rw [e2330, fa_u_s])), (show fa_f3 v v2329 from (by rw [e2330]; exact fa_f3.w (fa_f3.tr (fa_f3.tr (fa_f3.tr (by rw [e2214]; exact fa_f3.u (by rw [e2211]; exact fa_f3.u fa_f3.rf)) hf_x2217) hf_x2221) hf_x2326) (by decide))), (by rw [((fa_ord_a hS97).trans (fa_one_f hn1))]; exact ⟨(fun i hi => (by show v2329 403 i = _; rw [e2330, fa_u_k _ _ (by decide), hr_x2326.2 i (by omega), hr_x2221, hr_x2217]; exact hA i hi)), (by show v2329 403 (4 * no) = _; rw [e2330, fa_u_k _ _ (by decide), hr_x2326.2 (4 * no) (by omega), hr_x2221, hr_x2217]; exact hB), (by show v2329 403 (4 * no + 1) = _; rw [e2330, fa_u_k _ _ (by decide), hr_x2326.2 (4 * no + 1) (by omega), hr_x2221, hr_x2217]; exact hC), (fun z => absurd (show false = true from z) (by decide))⟩)⟩, (by rw [e2330]; exact fa_fr.u (fa_fr.tr (fa_fr.tr (fa_fr.tr (by rw [e2214]; exact fa_fr.u (by rw [e2211]; exact fa_fr.u fa_fr.rf (by omega)) (by omega)) (fa_fr.wide h2216.2 (by omega) (by omega))) (fa_fr.wide h2220.2 (by omega) (by omega))) (fa_fr.wide h2325.2 (by omega) (by omega))) (by omega))⟩⟩)
        · have hn1 := fa_ift hxn1 c_265
          refine lv_iconst (v := nI (1)) hx hb dX7_readsOrder_268 (by decide) ?_
          refine lv_goto (tgt := 273) hx hb dX7_readsOrder_269 (by decide) ?_
          refine fa_iaddN hx hb dX7_readsOrder_273 ?_
          refine fa_puti (k := 397) CX HX2328 fl_X7_141 (by omega) rfl rfl rfl rfl dX7_readsOrder_274 (fun H locs v2332 e2333 HX2334 => ?_)
          refine lv_iload_n hx hb dX7_readsOrder_277 rfl (lv_at hl 0 rfl) ?_
          exact RET _ _ _ _ _ _ _ HX2334 dX7_readsOrder_278 (fa_if_nar hxn1) (⟨rfl, ⟨⟨(by rw [((fa_ord_a hS97).trans (fa_one_t hn1))]; exact (hxn1.trans (if_pos hn1))), m_x2326, no + 1, ⟨by omega, by omega, (by have hfx := (show na + 2 ≤ m_x2326 from by have z := (fa_ord_le (t := t) hna).2.2; rw [((fa_ord_a hS97).trans (fa_one_t hn1))] at z; rw [hmn1.e]; exact z rfl); omega), fa_is.mk (by rw [((fa_ord_a hS97).trans (fa_one_t hn1))]; exact hmn1.e), fa_is.mk (by rw [((fa_ord_a hS97).trans (fa_one_t hn1))]; exact (show no + 1 = no + 1 by omega))⟩, (show v2332 397 12 = nI (m_x2326) from (by rw [e2333, fa_u_n _ _ (by omega)]; exact gm_x2326)), (show v2332 397 11 = nI (no + 1) from (by rw [e2333, fa_u_s])), (show fa_f3 v v2332 from (by rw [e2333]; exact fa_f3.w (fa_f3.tr (fa_f3.tr (fa_f3.tr (by rw [e2214]; exact fa_f3.u (by rw [e2211]; exact fa_f3.u fa_f3.rf)) hf_x2217) hf_x2221) hf_x2326) (by decide))), (by rw [((fa_ord_a hS97).trans (fa_one_t hn1))]; exact ⟨(fun i hi => (by show v2332 403 i = _; rw [e2333, fa_u_k _ _ (by decide), hr_x2326.2 i (by omega), hr_x2221, hr_x2217]; exact hA i hi)), (by show v2332 403 (4 * no) = _; rw [e2333, fa_u_k _ _ (by decide), hr_x2326.2 (4 * no) (by omega), hr_x2221, hr_x2217]; exact hB), (by show v2332 403 (4 * no + 1) = _; rw [e2333, fa_u_k _ _ (by decide), hr_x2326.2 (4 * no + 1) (by omega), hr_x2221, hr_x2217]; exact hC), (fun _ => ⟨(by show v2332 403 (4 * no + 2) = _; rw [e2333, fa_u_k _ _ (by decide)]; exact hr_x2326.1 hn1), (fun y1 y2 => by first | exact absurd hS97 y1 | exact absurd hS100 y2)⟩)⟩)⟩, (by rw [e2333]; exact fa_fr.u (fa_fr.tr (fa_fr.tr (fa_fr.tr (by rw [e2214]; exact fa_fr.u (by rw [e2211]; exact fa_fr.u fa_fr.rf (by omega)) (by omega)) (fa_fr.wide h2216.2 (by omega) (by omega))) (fa_fr.wide h2220.2 (by omega) (by omega))) (fa_fr.wide h2325.2 (by omega) (by omega))) (by omega))⟩⟩)
    · have hS110 : fa_sg t n9 na = (110 : Int32) := fa_ift hxa c_58
      have hp110 := hma.e.trans (fa_acc_t hS110)
      have hlt : na < n9 := fa_sg_nz hS110 (by decide)
      clear ha_x2217 hc_x2217 hd_x2217
      refine lv_aload_n hx hb dX7_readsOrder_61 rfl (lv_at hl 0 rfl) ?_
      refine lv_iconst (v := nI (2)) hx hb dX7_readsOrder_62 (by decide) ?_
      refine lv_iconst (v := nI (0)) hx hb dX7_readsOrder_63 (by decide) ?_
      refine lv_iconst (v := nI (4)) hx hb dX7_readsOrder_64 (by decide) ?_
      refine fa_callViu (As := [.int (nI (2)), .int (nI (0)), .int (nI (4))]) (rest := []) CX HX2219 (r_number l G n hn v2218 r hM (n9) (na + 1) (no) (by omega) (by omega) (by omega) ((hf_x2217.2 9 (by decide) (by decide)).trans (by rw [e2214, fa_u_n _ _ (by omega)]; exact (by rw [e2211, fa_u_n _ _ (by omega)]; exact g9))) ((gm_x2217).trans (congrArg nI hp110)) (go_x2217.trans (congrArg nI ho_x2217.e)) t ((h2216.2 405 (by omega)).trans (((congrFun e2214 405).trans (fa_u_k _ _ (by decide))).trans (((congrFun e2211 405).trans (fa_u_k _ _ (by decide))).trans h5))) (2) (nI (0)) (nI (4)) (by omega) ⟨0, by decide, rfl⟩ ⟨4, by decide, rfl⟩) ln_X7_148 (by omega) rfl rfl rfl rfl (Nat.le_of_ble_eq_true rfl) hl.1 ⟨Nat.le_of_ble_eq_true rfl, Nat.le_of_ble_eq_true rfl⟩ ⟨Nat.le_refl _, Nat.le_refl _⟩ dX7_readsOrder_65 (fun x2336 v2337 H locs h2335 HX2338 => ?_)
      obtain ⟨hx_x2336, m_x2336, o_x2336, ⟨ha_x2336, hc_x2336, hd_x2336, hm_x2336, ho_x2336⟩, gm_x2336, go_x2336, hf_x2336, hr_x2336⟩ := h2335.1
      have hxn1 := hx_x2336
      have hmn1 := hm_x2336
      refine lv_if_eq (tgt := 95) hx hb dX7_readsOrder_68 (by decide) (fun c_68 => ?_) (fun c_68 => ?_)
      · have hn1 := fa_ifn hxn1 c_68
        refine lv_iconst (v := nI (0)) hx hb dX7_readsOrder_95 (by decide) ?_
        refine lv_istore_n (lv' := [(1, .int (nI (0))), (0, .ref (fa_B G + (397)))]) hx hb dX7_readsOrder_96 rfl hl (by decide) rfl (fun ls hl => ?_)
        refine lv_goto (tgt := 259) hx hb dX7_readsOrder_97 (by decide) ?_
        refine lv_aload_n hx hb dX7_readsOrder_259 rfl (lv_at hl 1 rfl) ?_
        refine lv_dup hx hb dX7_readsOrder_260 rfl ?_
        refine fa_geti (k := 397) CX HX2338 fl_X7_141 (by omega) rfl rfl dX7_readsOrder_261 ?_
        rw [show v2337 397 11 = nI (no) from (go_x2336.trans (congrArg nI ho_x2336.e))]
        refine lv_iload_n hx hb dX7_readsOrder_264 rfl (lv_at hl 0 rfl) ?_
        refine lv_if_eq (tgt := 272) hx hb dX7_readsOrder_265 (by decide) (fun c_265 => ?_) (fun c_265 => ?_)
        · refine lv_iconst (v := nI (0)) hx hb dX7_readsOrder_272 (by decide) ?_
          refine fa_iaddN hx hb dX7_readsOrder_273 ?_
          refine fa_puti (k := 397) CX HX2338 fl_X7_141 (by omega) rfl rfl rfl rfl dX7_readsOrder_274 (fun H locs v2339 e2340 HX2341 => ?_)
          refine lv_iload_n hx hb dX7_readsOrder_277 rfl (lv_at hl 0 rfl) ?_
          exact RET _ _ _ _ _ _ _ HX2341 dX7_readsOrder_278 (by decide) (⟨rfl, ⟨⟨(by rw [((fa_ord_n hS110).trans (fa_two_f hn1))]; exact rfl), m_x2336, no + 0, ⟨by omega, by omega, by omega, fa_is.mk (by rw [((fa_ord_n hS110).trans (fa_two_f hn1))]; exact hmn1.e), fa_is.mk (by rw [((fa_ord_n hS110).trans (fa_two_f hn1))]; exact (show no + 0 = no by omega))⟩, (show v2339 397 12 = nI (m_x2336) from (by rw [e2340, fa_u_n _ _ (by omega)]; exact gm_x2336)), (show v2339 397 11 = nI (no + 0) from (by rw [e2340, fa_u_s])), (show fa_f3 v v2339 from (by rw [e2340]; exact fa_f3.w (fa_f3.tr (fa_f3.tr (by rw [e2214]; exact fa_f3.u (by rw [e2211]; exact fa_f3.u fa_f3.rf)) hf_x2217) hf_x2336) (by decide))), (by rw [((fa_ord_n hS110).trans (fa_two_f hn1))]; exact ⟨(fun i hi => (by show v2339 403 i = _; rw [e2340, fa_u_k _ _ (by decide), hr_x2336.2 i (by omega), hr_x2217]; exact hA i hi)), (by show v2339 403 (4 * no) = _; rw [e2340, fa_u_k _ _ (by decide), hr_x2336.2 (4 * no) (by omega), hr_x2217]; exact hB), (by show v2339 403 (4 * no + 1) = _; rw [e2340, fa_u_k _ _ (by decide), hr_x2336.2 (4 * no + 1) (by omega), hr_x2217]; exact hC), (fun z => absurd (show false = true from z) (by decide))⟩)⟩, (by rw [e2340]; exact fa_fr.u (fa_fr.tr (fa_fr.tr (by rw [e2214]; exact fa_fr.u (by rw [e2211]; exact fa_fr.u fa_fr.rf (by omega)) (by omega)) (fa_fr.wide h2216.2 (by omega) (by omega))) (fa_fr.wide h2335.2 (by omega) (by omega))) (by omega))⟩⟩)
        · exact absurd (by try decide) c_265
      · have hn1 := fa_ift hxn1 c_68
        refine lv_aload_n hx hb dX7_readsOrder_71 rfl (lv_at hl 0 rfl) ?_
        refine lv_bipush (v := nI (44)) hx hb dX7_readsOrder_72 (by decide) ?_
        refine fa_callViu (As := [.int (nI (44))]) (rest := []) CX HX2338 (r_accepts l G n hn v2337 r hM (n9) (m_x2336) (no) (by omega) (by omega) (by omega) ((hf_x2336.2 9 (by decide) (by decide)).trans ((hf_x2217.2 9 (by decide) (by decide)).trans (by rw [e2214, fa_u_n _ _ (by omega)]; exact (by rw [e2211, fa_u_n _ _ (by omega)]; exact g9)))) gm_x2336 (go_x2336.trans (congrArg nI ho_x2336.e)) t ((h2335.2 405 (by omega)).trans ((h2216.2 405 (by omega)).trans (((congrFun e2214 405).trans (fa_u_k _ _ (by decide))).trans (((congrFun e2211 405).trans (fa_u_k _ _ (by decide))).trans h5)))) (nI (44)) (by decide)) ln_X7_144 (by omega) rfl rfl rfl rfl (Nat.le_of_ble_eq_true rfl) hl.1 ⟨Nat.le_of_ble_eq_true rfl, Nat.le_of_ble_eq_true rfl⟩ ⟨Nat.le_refl _, Nat.le_refl _⟩ dX7_readsOrder_74 (fun x2343 v2344 H locs h2342 HX2345 => ?_)
        obtain ⟨hx_x2343, m_x2343, o_x2343, ⟨ha_x2343, hc_x2343, hd_x2343, hm_x2343, ho_x2343⟩, gm_x2343, go_x2343, hf_x2343, hr_x2343⟩ := h2342.1
        have hxc := hx_x2343
        have hmc := hm_x2343
        refine lv_if_eq (tgt := 95) hx hb dX7_readsOrder_77 (by decide) (fun c_77 => ?_) (fun c_77 => ?_)
        · have hcm := fa_ifn hxc c_77
          have hpc := hmc.e.trans (fa_acc_f hcm)
          refine lv_iconst (v := nI (0)) hx hb dX7_readsOrder_95 (by decide) ?_
          refine lv_istore_n (lv' := [(1, .int (nI (0))), (0, .ref (fa_B G + (397)))]) hx hb dX7_readsOrder_96 rfl hl (by decide) rfl (fun ls hl => ?_)
          refine lv_goto (tgt := 259) hx hb dX7_readsOrder_97 (by decide) ?_
          refine lv_aload_n hx hb dX7_readsOrder_259 rfl (lv_at hl 1 rfl) ?_
          refine lv_dup hx hb dX7_readsOrder_260 rfl ?_
          refine fa_geti (k := 397) CX HX2345 fl_X7_141 (by omega) rfl rfl dX7_readsOrder_261 ?_
          rw [show v2344 397 11 = nI (no) from (go_x2343.trans (congrArg nI ho_x2343.e))]
          refine lv_iload_n hx hb dX7_readsOrder_264 rfl (lv_at hl 0 rfl) ?_
          refine lv_if_eq (tgt := 272) hx hb dX7_readsOrder_265 (by decide) (fun c_265 => ?_) (fun c_265 => ?_)
          · refine lv_iconst (v := nI (0)) hx hb dX7_readsOrder_272 (by decide) ?_
            refine fa_iaddN hx hb dX7_readsOrder_273 ?_
            refine fa_puti (k := 397) CX HX2345 fl_X7_141 (by omega) rfl rfl rfl rfl dX7_readsOrder_274 (fun H locs v2346 e2347 HX2348 => ?_)
            refine lv_iload_n hx hb dX7_readsOrder_277 rfl (lv_at hl 0 rfl) ?_
            exact RET _ _ _ _ _ _ _ HX2348 dX7_readsOrder_278 (by decide) (⟨rfl, ⟨⟨(by rw [((fa_ord_n hS110).trans (fa_two_c hn1 hmn1.e hcm))]; exact rfl), m_x2336, no + 0, ⟨by omega, by omega, by omega, fa_is.mk (by rw [((fa_ord_n hS110).trans (fa_two_c hn1 hmn1.e hcm))]), fa_is.mk (by rw [((fa_ord_n hS110).trans (fa_two_c hn1 hmn1.e hcm))]; exact (show no + 0 = no by omega))⟩, (show v2346 397 12 = nI (m_x2336) from (by rw [e2347, fa_u_n _ _ (by omega)]; exact ((gm_x2343).trans (congrArg nI hpc)))), (show v2346 397 11 = nI (no + 0) from (by rw [e2347, fa_u_s])), (show fa_f3 v v2346 from (by rw [e2347]; exact fa_f3.w (fa_f3.tr (fa_f3.tr (fa_f3.tr (by rw [e2214]; exact fa_f3.u (by rw [e2211]; exact fa_f3.u fa_f3.rf)) hf_x2217) hf_x2336) hf_x2343) (by decide))), (by rw [((fa_ord_n hS110).trans (fa_two_c hn1 hmn1.e hcm))]; exact ⟨(fun i hi => (by show v2346 403 i = _; rw [e2347, fa_u_k _ _ (by decide), hr_x2343, hr_x2336.2 i (by omega), hr_x2217]; exact hA i hi)), (by show v2346 403 (4 * no) = _; rw [e2347, fa_u_k _ _ (by decide), hr_x2343, hr_x2336.2 (4 * no) (by omega), hr_x2217]; exact hB), (by show v2346 403 (4 * no + 1) = _; rw [e2347, fa_u_k _ _ (by decide), hr_x2343, hr_x2336.2 (4 * no + 1) (by omega), hr_x2217]; exact hC), (fun z => absurd (show false = true from z) (by decide))⟩)⟩, (by rw [e2347]; exact fa_fr.u (fa_fr.tr (fa_fr.tr (fa_fr.tr (by rw [e2214]; exact fa_fr.u (by rw [e2211]; exact fa_fr.u fa_fr.rf (by omega)) (by omega)) (fa_fr.wide h2216.2 (by omega) (by omega))) (fa_fr.wide h2335.2 (by omega) (by omega))) (fa_fr.wide h2342.2 (by omega) (by omega))) (by omega))⟩⟩)
          · exact absurd (by try decide) c_265
        · have hcm := fa_ift hxc c_77
          have hpc := hmc.e.trans (fa_acc_t hcm)
          refine lv_aload_n hx hb dX7_readsOrder_80 rfl (lv_at hl 0 rfl) ?_
          refine lv_iconst (v := nI (3)) hx hb dX7_readsOrder_81 (by decide) ?_
          refine lv_iconst (v := nI (1)) hx hb dX7_readsOrder_82 (by decide) ?_
          refine lv_bipush (v := nI (50)) hx hb dX7_readsOrder_83 (by decide) ?_
          refine fa_callViu (As := [.int (nI (3)), .int (nI (1)), .int (nI (50))]) (rest := []) CX HX2345 (r_number l G n hn v2344 r hM (n9) (m_x2336 + 1) (no) (by omega) (by omega) (by omega) ((hf_x2343.2 9 (by decide) (by decide)).trans ((hf_x2336.2 9 (by decide) (by decide)).trans ((hf_x2217.2 9 (by decide) (by decide)).trans (by rw [e2214, fa_u_n _ _ (by omega)]; exact (by rw [e2211, fa_u_n _ _ (by omega)]; exact g9))))) ((gm_x2343).trans (congrArg nI hpc)) (go_x2343.trans (congrArg nI ho_x2343.e)) t ((h2342.2 405 (by omega)).trans ((h2335.2 405 (by omega)).trans ((h2216.2 405 (by omega)).trans (((congrFun e2214 405).trans (fa_u_k _ _ (by decide))).trans (((congrFun e2211 405).trans (fa_u_k _ _ (by decide))).trans h5))))) (3) (nI (1)) (nI (50)) (by omega) ⟨1, by decide, rfl⟩ ⟨50, by decide, rfl⟩) ln_X7_148 (by omega) rfl rfl rfl rfl (Nat.le_of_ble_eq_true rfl) hl.1 ⟨Nat.le_of_ble_eq_true rfl, Nat.le_of_ble_eq_true rfl⟩ ⟨Nat.le_refl _, Nat.le_refl _⟩ dX7_readsOrder_85 (fun x2350 v2351 H locs h2349 HX2352 => ?_)
          obtain ⟨hx_x2350, m_x2350, o_x2350, ⟨ha_x2350, hc_x2350, hd_x2350, hm_x2350, ho_x2350⟩, gm_x2350, go_x2350, hf_x2350, hr_x2350⟩ := h2349.1
          have hxn2 := hx_x2350
          have hmn2 := hm_x2350
          refine lv_if_eq (tgt := 95) hx hb dX7_readsOrder_88 (by decide) (fun c_88 => ?_) (fun c_88 => ?_)
          · have hn2 := fa_ifn hxn2 c_88
            refine lv_iconst (v := nI (0)) hx hb dX7_readsOrder_95 (by decide) ?_
            refine lv_istore_n (lv' := [(1, .int (nI (0))), (0, .ref (fa_B G + (397)))]) hx hb dX7_readsOrder_96 rfl hl (by decide) rfl (fun ls hl => ?_)
            refine lv_goto (tgt := 259) hx hb dX7_readsOrder_97 (by decide) ?_
            refine lv_aload_n hx hb dX7_readsOrder_259 rfl (lv_at hl 1 rfl) ?_
            refine lv_dup hx hb dX7_readsOrder_260 rfl ?_
            refine fa_geti (k := 397) CX HX2352 fl_X7_141 (by omega) rfl rfl dX7_readsOrder_261 ?_
            rw [show v2351 397 11 = nI (no) from (go_x2350.trans (congrArg nI ho_x2350.e))]
            refine lv_iload_n hx hb dX7_readsOrder_264 rfl (lv_at hl 0 rfl) ?_
            refine lv_if_eq (tgt := 272) hx hb dX7_readsOrder_265 (by decide) (fun c_265 => ?_) (fun c_265 => ?_)
            · refine lv_iconst (v := nI (0)) hx hb dX7_readsOrder_272 (by decide) ?_
              refine fa_iaddN hx hb dX7_readsOrder_273 ?_
              refine fa_puti (k := 397) CX HX2352 fl_X7_141 (by omega) rfl rfl rfl rfl dX7_readsOrder_274 (fun H locs v2353 e2354 HX2355 => ?_)
              refine lv_iload_n hx hb dX7_readsOrder_277 rfl (lv_at hl 0 rfl) ?_
              exact RET _ _ _ _ _ _ _ HX2355 dX7_readsOrder_278 (by decide) (⟨rfl, ⟨⟨(by rw [((fa_ord_n hS110).trans (fa_two_n hn1 hmn1.e hcm hn2))]; exact rfl), m_x2350, no + 0, ⟨by omega, by omega, by omega, fa_is.mk (by rw [((fa_ord_n hS110).trans (fa_two_n hn1 hmn1.e hcm hn2))]; exact hmn2.e), fa_is.mk (by rw [((fa_ord_n hS110).trans (fa_two_n hn1 hmn1.e hcm hn2))]; exact (show no + 0 = no by omega))⟩, (show v2353 397 12 = nI (m_x2350) from (by rw [e2354, fa_u_n _ _ (by omega)]; exact gm_x2350)), (show v2353 397 11 = nI (no + 0) from (by rw [e2354, fa_u_s])), (show fa_f3 v v2353 from (by rw [e2354]; exact fa_f3.w (fa_f3.tr (fa_f3.tr (fa_f3.tr (fa_f3.tr (by rw [e2214]; exact fa_f3.u (by rw [e2211]; exact fa_f3.u fa_f3.rf)) hf_x2217) hf_x2336) hf_x2343) hf_x2350) (by decide))), (by rw [((fa_ord_n hS110).trans (fa_two_n hn1 hmn1.e hcm hn2))]; exact ⟨(fun i hi => (by show v2353 403 i = _; rw [e2354, fa_u_k _ _ (by decide), hr_x2350.2 i (by omega), hr_x2343, hr_x2336.2 i (by omega), hr_x2217]; exact hA i hi)), (by show v2353 403 (4 * no) = _; rw [e2354, fa_u_k _ _ (by decide), hr_x2350.2 (4 * no) (by omega), hr_x2343, hr_x2336.2 (4 * no) (by omega), hr_x2217]; exact hB), (by show v2353 403 (4 * no + 1) = _; rw [e2354, fa_u_k _ _ (by decide), hr_x2350.2 (4 * no + 1) (by omega), hr_x2343, hr_x2336.2 (4 * no + 1) (by omega), hr_x2217]; exact hC), (fun z => absurd (show false = true from z) (by decide))⟩)⟩, (by rw [e2354]; exact fa_fr.u (fa_fr.tr (fa_fr.tr (fa_fr.tr (fa_fr.tr (by rw [e2214]; exact fa_fr.u (by rw [e2211]; exact fa_fr.u fa_fr.rf (by omega)) (by omega)) (fa_fr.wide h2216.2 (by omega) (by omega))) (fa_fr.wide h2335.2 (by omega) (by omega))) (fa_fr.wide h2342.2 (by omega) (by omega))) (fa_fr.wide h2349.2 (by omega) (by omega))) (by omega))⟩⟩)
            · exact absurd (by try decide) c_265
          · have hn2 := fa_ift hxn2 c_88
            refine lv_iconst (v := nI (1)) hx hb dX7_readsOrder_91 (by decide) ?_
            refine lv_goto (tgt := 96) hx hb dX7_readsOrder_92 (by decide) ?_
            refine lv_istore_n (lv' := [(1, .int (nI (1))), (0, .ref (fa_B G + (397)))]) hx hb dX7_readsOrder_96 rfl hl (by decide) rfl (fun ls hl => ?_)
            refine lv_goto (tgt := 259) hx hb dX7_readsOrder_97 (by decide) ?_
            refine lv_aload_n hx hb dX7_readsOrder_259 rfl (lv_at hl 1 rfl) ?_
            refine lv_dup hx hb dX7_readsOrder_260 rfl ?_
            refine fa_geti (k := 397) CX HX2352 fl_X7_141 (by omega) rfl rfl dX7_readsOrder_261 ?_
            rw [show v2351 397 11 = nI (no) from (go_x2350.trans (congrArg nI ho_x2350.e))]
            refine lv_iload_n hx hb dX7_readsOrder_264 rfl (lv_at hl 0 rfl) ?_
            refine lv_if_eq (tgt := 272) hx hb dX7_readsOrder_265 (by decide) (fun c_265 => ?_) (fun c_265 => ?_)
            · exact absurd c_265 (by try decide)
            · refine lv_iconst (v := nI (1)) hx hb dX7_readsOrder_268 (by decide) ?_
              refine lv_goto (tgt := 273) hx hb dX7_readsOrder_269 (by decide) ?_
              refine fa_iaddN hx hb dX7_readsOrder_273 ?_
              refine fa_puti (k := 397) CX HX2352 fl_X7_141 (by omega) rfl rfl rfl rfl dX7_readsOrder_274 (fun H locs v2356 e2357 HX2358 => ?_)
              refine lv_iload_n hx hb dX7_readsOrder_277 rfl (lv_at hl 0 rfl) ?_
              exact RET _ _ _ _ _ _ _ HX2358 dX7_readsOrder_278 (by decide) (⟨rfl, ⟨⟨(by rw [((fa_ord_n hS110).trans (fa_two_y hn1 hmn1.e hcm hn2))]; exact rfl), m_x2350, no + 1, ⟨by omega, by omega, (by have hfx := (show na + 2 ≤ m_x2350 from by have z := (fa_ord_le (t := t) hna).2.2; rw [((fa_ord_n hS110).trans (fa_two_y hn1 hmn1.e hcm hn2))] at z; rw [hmn2.e]; exact z rfl); omega), fa_is.mk (by rw [((fa_ord_n hS110).trans (fa_two_y hn1 hmn1.e hcm hn2))]; exact hmn2.e), fa_is.mk (by rw [((fa_ord_n hS110).trans (fa_two_y hn1 hmn1.e hcm hn2))]; exact (show no + 1 = no + 1 by omega))⟩, (show v2356 397 12 = nI (m_x2350) from (by rw [e2357, fa_u_n _ _ (by omega)]; exact gm_x2350)), (show v2356 397 11 = nI (no + 1) from (by rw [e2357, fa_u_s])), (show fa_f3 v v2356 from (by rw [e2357]; exact fa_f3.w (fa_f3.tr (fa_f3.tr (fa_f3.tr (fa_f3.tr (by rw [e2214]; exact fa_f3.u (by rw [e2211]; exact fa_f3.u fa_f3.rf)) hf_x2217) hf_x2336) hf_x2343) hf_x2350) (by decide))), (by rw [((fa_ord_n hS110).trans (fa_two_y hn1 hmn1.e hcm hn2))]; exact ⟨(fun i hi => (by show v2356 403 i = _; rw [e2357, fa_u_k _ _ (by decide), hr_x2350.2 i (by omega), hr_x2343, hr_x2336.2 i (by omega), hr_x2217]; exact hA i hi)), (by show v2356 403 (4 * no) = _; rw [e2357, fa_u_k _ _ (by decide), hr_x2350.2 (4 * no) (by omega), hr_x2343, hr_x2336.2 (4 * no) (by omega), hr_x2217]; exact hB), (by show v2356 403 (4 * no + 1) = _; rw [e2357, fa_u_k _ _ (by decide), hr_x2350.2 (4 * no + 1) (by omega), hr_x2343, hr_x2336.2 (4 * no + 1) (by omega), hr_x2217]; exact hC), (fun _ => ⟨(by show v2356 403 (4 * no + 2) = _; rw [e2357, fa_u_k _ _ (by decide), hr_x2350.2 (4 * no + 2) (by omega), hr_x2343]; exact hr_x2336.1 hn1), (fun _ _ => (by show v2356 403 (4 * no + 3) = _; rw [e2357, fa_u_k _ _ (by decide)]; exact hr_x2350.1 hn2))⟩)⟩)⟩, (by rw [e2357]; exact fa_fr.u (fa_fr.tr (fa_fr.tr (fa_fr.tr (fa_fr.tr (by rw [e2214]; exact fa_fr.u (by rw [e2211]; exact fa_fr.u fa_fr.rf (by omega)) (by omega)) (fa_fr.wide h2216.2 (by omega) (by omega))) (fa_fr.wide h2335.2 (by omega) (by omega))) (fa_fr.wide h2342.2 (by omega) (by omega))) (fa_fr.wide h2349.2 (by omega) (by omega))) (by omega))⟩⟩)
  · have hlt0 := fa_ltN (by omega) (by omega) c_35
    refine lv_aload_n hx hb dX7_readsOrder_38 rfl (lv_at hl 0 rfl) ?_
    refine fa_getr (k := 397) (j := 405) CX HX2212 fl_X7_32 (by omega) rfl rfl hM.2.2.2.2.2.2.2 dX7_readsOrder_39 ?_
    refine lv_aload_n hx hb dX7_readsOrder_42 rfl (lv_at hl 0 rfl) ?_
    refine fa_geti (k := 397) CX HX2212 fl_X7_134 (by omega) rfl rfl dX7_readsOrder_43 ?_
    rw [show v2210 397 12 = nI (na) from (by rw [e2211, fa_u_n _ _ (by omega)]; exact gA)]
    refine fa_cald (k := 405) (j := na) CX HX2212 (by omega) rfl (by omega) (by first | decide | assumption) dX7_readsOrder_46 ?_
    refine lv_goto (tgt := 51) hx hb dX7_readsOrder_47 (by decide) ?_
    refine fa_iast (k := 403) (j := 4 * no + 1) CX HX2212 (by omega) rfl (by omega) (by first | decide | assumption) dX7_readsOrder_51 (fun H locs v2359 e2360 HX2361 => ?_)
    have hA : ∀ i, i < 4 * no → v2359 403 i = v 403 i := fun i hi => by rw [e2360, fa_u_n _ _ (by omega), e2211, fa_u_n _ _ (by omega)]
    have hB : v2359 403 (4 * no) = nI na := by rw [e2360, fa_u_n _ _ (by omega), e2211, fa_u_s]
    have hC : v2359 403 (4 * no + 1) = fa_sg t n9 na := by rw [e2360, fa_u_s]; exact (congrFun (((congrFun e2211 405).trans (fa_u_k _ _ (by decide))).trans h5) na).trans (fa_sg_in hlt0).symm
    refine lv_aload_n hx hb dX7_readsOrder_52 rfl (lv_at hl 0 rfl) ?_
    refine lv_bipush (v := nI (110)) hx hb dX7_readsOrder_53 (by decide) ?_
    refine fa_callViu (As := [.int (nI (110))]) (rest := []) CX HX2361 (r_accepts l G n hn v2359 r hM (n9) (na) (no) (by omega) (by omega) (by omega) (by rw [e2360, fa_u_n _ _ (by omega)]; exact (by rw [e2211, fa_u_n _ _ (by omega)]; exact g9)) (by rw [e2360, fa_u_n _ _ (by omega)]; exact (by rw [e2211, fa_u_n _ _ (by omega)]; exact gA)) (by rw [e2360, fa_u_n _ _ (by omega)]; exact (by rw [e2211, fa_u_n _ _ (by omega)]; exact gO)) t (((congrFun e2360 405).trans (fa_u_k _ _ (by decide))).trans (((congrFun e2211 405).trans (fa_u_k _ _ (by decide))).trans h5)) (nI (110)) (by decide)) ln_X7_144 (by omega) rfl rfl rfl rfl (Nat.le_of_ble_eq_true rfl) hl.1 ⟨Nat.le_of_ble_eq_true rfl, Nat.le_of_ble_eq_true rfl⟩ ⟨Nat.le_refl _, Nat.le_refl _⟩ dX7_readsOrder_55 (fun x2363 v2364 H locs h2362 HX2365 => ?_)
    obtain ⟨hx_x2363, m_x2363, o_x2363, ⟨ha_x2363, hc_x2363, hd_x2363, hm_x2363, ho_x2363⟩, gm_x2363, go_x2363, hf_x2363, hr_x2363⟩ := h2362.1
    have hxa := hx_x2363
    have hma := hm_x2363
    refine lv_if_eq (tgt := 100) hx hb dX7_readsOrder_58 (by decide) (fun c_58 => ?_) (fun c_58 => ?_)
    · have hS110 : ¬ fa_sg t n9 na = (110 : Int32) := fa_ifn hxa (by first | exact c_58 | exact Decidable.not_not.mp c_58)
      have hp110 := hma.e.trans (fa_acc_f hS110)
      clear ha_x2363 hc_x2363 hd_x2363 hxa hma
      refine lv_aload_n hx hb dX7_readsOrder_100 rfl (lv_at hl 0 rfl) ?_
      refine lv_bipush (v := nI (97)) hx hb dX7_readsOrder_101 (by decide) ?_
      refine fa_callViu (As := [.int (nI (97))]) (rest := []) CX HX2365 (r_accepts l G n hn v2364 r hM (n9) (na) (no) (by omega) (by omega) (by omega) ((hf_x2363.2 9 (by decide) (by decide)).trans (by rw [e2360, fa_u_n _ _ (by omega)]; exact (by rw [e2211, fa_u_n _ _ (by omega)]; exact g9))) ((gm_x2363).trans (congrArg nI hp110)) (go_x2363.trans (congrArg nI ho_x2363.e)) t ((h2362.2 405 (by omega)).trans (((congrFun e2360 405).trans (fa_u_k _ _ (by decide))).trans (((congrFun e2211 405).trans (fa_u_k _ _ (by decide))).trans h5))) (nI (97)) (by decide)) ln_X7_144 (by omega) rfl rfl rfl rfl (Nat.le_of_ble_eq_true rfl) hl.1 ⟨Nat.le_of_ble_eq_true rfl, Nat.le_of_ble_eq_true rfl⟩ ⟨Nat.le_refl _, Nat.le_refl _⟩ dX7_readsOrder_103 (fun x2367 v2368 H locs h2366 HX2369 => ?_)
      obtain ⟨hx_x2367, m_x2367, o_x2367, ⟨ha_x2367, hc_x2367, hd_x2367, hm_x2367, ho_x2367⟩, gm_x2367, go_x2367, hf_x2367, hr_x2367⟩ := h2366.1
      have hxa := hx_x2367
      have hma := hm_x2367
      refine lv_if_eq (tgt := 122) hx hb dX7_readsOrder_106 (by decide) (fun c_106 => ?_) (fun c_106 => ?_)
      · have hS97 : ¬ fa_sg t n9 na = (97 : Int32) := fa_ifn hxa (by first | exact c_106 | exact Decidable.not_not.mp c_106)
        have hp97 := hma.e.trans (fa_acc_f hS97)
        clear ha_x2367 hc_x2367 hd_x2367 hxa hma
        refine lv_aload_n hx hb dX7_readsOrder_122 rfl (lv_at hl 0 rfl) ?_
        refine lv_bipush (v := nI (115)) hx hb dX7_readsOrder_123 (by decide) ?_
        refine fa_callViu (As := [.int (nI (115))]) (rest := []) CX HX2369 (r_accepts l G n hn v2368 r hM (n9) (na) (no) (by omega) (by omega) (by omega) ((hf_x2367.2 9 (by decide) (by decide)).trans ((hf_x2363.2 9 (by decide) (by decide)).trans (by rw [e2360, fa_u_n _ _ (by omega)]; exact (by rw [e2211, fa_u_n _ _ (by omega)]; exact g9)))) ((gm_x2367).trans (congrArg nI hp97)) (go_x2367.trans (congrArg nI ho_x2367.e)) t ((h2366.2 405 (by omega)).trans ((h2362.2 405 (by omega)).trans (((congrFun e2360 405).trans (fa_u_k _ _ (by decide))).trans (((congrFun e2211 405).trans (fa_u_k _ _ (by decide))).trans h5)))) (nI (115)) (by decide)) ln_X7_144 (by omega) rfl rfl rfl rfl (Nat.le_of_ble_eq_true rfl) hl.1 ⟨Nat.le_of_ble_eq_true rfl, Nat.le_of_ble_eq_true rfl⟩ ⟨Nat.le_refl _, Nat.le_refl _⟩ dX7_readsOrder_125 (fun x2371 v2372 H locs h2370 HX2373 => ?_)
        obtain ⟨hx_x2371, m_x2371, o_x2371, ⟨ha_x2371, hc_x2371, hd_x2371, hm_x2371, ho_x2371⟩, gm_x2371, go_x2371, hf_x2371, hr_x2371⟩ := h2370.1
        have hxa := hx_x2371
        have hma := hm_x2371
        refine lv_if_ne (tgt := 140) hx hb dX7_readsOrder_128 (by decide) (fun c_128 => ?_) (fun c_128 => ?_)
        · have hS115 : fa_sg t n9 na = (115 : Int32) := fa_ift hxa c_128
          have hp115 := hma.e.trans (fa_acc_t hS115)
          have hlt : na < n9 := fa_sg_nz hS115 (by decide)
          clear ha_x2371 hc_x2371 hd_x2371
          refine lv_aload_n hx hb dX7_readsOrder_140 rfl (lv_at hl 0 rfl) ?_
          refine lv_iconst (v := nI (2)) hx hb dX7_readsOrder_141 (by decide) ?_
          refine lv_iconst (v := nI (0)) hx hb dX7_readsOrder_142 (by decide) ?_
          refine lv_bipush (v := nI (7)) hx hb dX7_readsOrder_143 (by decide) ?_
          refine fa_callViu (As := [.int (nI (2)), .int (nI (0)), .int (nI (7))]) (rest := []) CX HX2373 (r_number l G n hn v2372 r hM (n9) (na + 1) (no) (by omega) (by omega) (by omega) ((hf_x2371.2 9 (by decide) (by decide)).trans ((hf_x2367.2 9 (by decide) (by decide)).trans ((hf_x2363.2 9 (by decide) (by decide)).trans (by rw [e2360, fa_u_n _ _ (by omega)]; exact (by rw [e2211, fa_u_n _ _ (by omega)]; exact g9))))) ((gm_x2371).trans (congrArg nI hp115)) (go_x2371.trans (congrArg nI ho_x2371.e)) t ((h2370.2 405 (by omega)).trans ((h2366.2 405 (by omega)).trans ((h2362.2 405 (by omega)).trans (((congrFun e2360 405).trans (fa_u_k _ _ (by decide))).trans (((congrFun e2211 405).trans (fa_u_k _ _ (by decide))).trans h5))))) (2) (nI (0)) (nI (7)) (by omega) ⟨0, by decide, rfl⟩ ⟨7, by decide, rfl⟩) ln_X7_148 (by omega) rfl rfl rfl rfl (Nat.le_of_ble_eq_true rfl) hl.1 ⟨Nat.le_of_ble_eq_true rfl, Nat.le_of_ble_eq_true rfl⟩ ⟨Nat.le_refl _, Nat.le_refl _⟩ dX7_readsOrder_145 (fun x2375 v2376 H locs h2374 HX2377 => ?_)
          obtain ⟨hx_x2375, m_x2375, o_x2375, ⟨ha_x2375, hc_x2375, hd_x2375, hm_x2375, ho_x2375⟩, gm_x2375, go_x2375, hf_x2375, hr_x2375⟩ := h2374.1
          have hxn1 := hx_x2375
          have hmn1 := hm_x2375
          refine lv_if_eq (tgt := 176) hx hb dX7_readsOrder_148 (by decide) (fun c_148 => ?_) (fun c_148 => ?_)
          · have hn1 := fa_ifn hxn1 c_148
            refine lv_iconst (v := nI (0)) hx hb dX7_readsOrder_176 (by decide) ?_
            refine lv_istore_n (lv' := [(1, .int (nI (0))), (0, .ref (fa_B G + (397)))]) hx hb dX7_readsOrder_177 rfl hl (by decide) rfl (fun ls hl => ?_)
            refine lv_goto (tgt := 259) hx hb dX7_readsOrder_178 (by decide) ?_
            refine lv_aload_n hx hb dX7_readsOrder_259 rfl (lv_at hl 1 rfl) ?_
            refine lv_dup hx hb dX7_readsOrder_260 rfl ?_
            refine fa_geti (k := 397) CX HX2377 fl_X7_141 (by omega) rfl rfl dX7_readsOrder_261 ?_
            rw [show v2376 397 11 = nI (no) from (go_x2375.trans (congrArg nI ho_x2375.e))]
            refine lv_iload_n hx hb dX7_readsOrder_264 rfl (lv_at hl 0 rfl) ?_
            refine lv_if_eq (tgt := 272) hx hb dX7_readsOrder_265 (by decide) (fun c_265 => ?_) (fun c_265 => ?_)
            · refine lv_iconst (v := nI (0)) hx hb dX7_readsOrder_272 (by decide) ?_
              refine fa_iaddN hx hb dX7_readsOrder_273 ?_
              refine fa_puti (k := 397) CX HX2377 fl_X7_141 (by omega) rfl rfl rfl rfl dX7_readsOrder_274 (fun H locs v2378 e2379 HX2380 => ?_)
              refine lv_iload_n hx hb dX7_readsOrder_277 rfl (lv_at hl 0 rfl) ?_
              exact RET _ _ _ _ _ _ _ HX2380 dX7_readsOrder_278 (by decide) (⟨rfl, ⟨⟨(by rw [((fa_ord_s (Or.inl hS115)).trans (fa_two_f hn1))]; exact rfl), m_x2375, no + 0, ⟨by omega, by omega, by omega, fa_is.mk (by rw [((fa_ord_s (Or.inl hS115)).trans (fa_two_f hn1))]; exact hmn1.e), fa_is.mk (by rw [((fa_ord_s (Or.inl hS115)).trans (fa_two_f hn1))]; exact (show no + 0 = no by omega))⟩, (show v2378 397 12 = nI (m_x2375) from (by rw [e2379, fa_u_n _ _ (by omega)]; exact gm_x2375)), (show v2378 397 11 = nI (no + 0) from (by rw [e2379, fa_u_s])), (show fa_f3 v v2378 from (by rw [e2379]; exact fa_f3.w (fa_f3.tr (fa_f3.tr (fa_f3.tr (fa_f3.tr (by rw [e2360]; exact fa_f3.u (by rw [e2211]; exact fa_f3.u fa_f3.rf)) hf_x2363) hf_x2367) hf_x2371) hf_x2375) (by decide))), (by rw [((fa_ord_s (Or.inl hS115)).trans (fa_two_f hn1))]; exact ⟨(fun i hi => (by show v2378 403 i = _; rw [e2379, fa_u_k _ _ (by decide), hr_x2375.2 i (by omega), hr_x2371, hr_x2367, hr_x2363]; exact hA i hi)), (by show v2378 403 (4 * no) = _; rw [e2379, fa_u_k _ _ (by decide), hr_x2375.2 (4 * no) (by omega), hr_x2371, hr_x2367, hr_x2363]; exact hB), (by show v2378 403 (4 * no + 1) = _; rw [e2379, fa_u_k _ _ (by decide), hr_x2375.2 (4 * no + 1) (by omega), hr_x2371, hr_x2367, hr_x2363]; exact hC), (fun z => absurd (show false = true from z) (by decide))⟩)⟩, (by rw [e2379]; exact fa_fr.u (fa_fr.tr (fa_fr.tr (fa_fr.tr (fa_fr.tr (by rw [e2360]; exact fa_fr.u (by rw [e2211]; exact fa_fr.u fa_fr.rf (by omega)) (by omega)) (fa_fr.wide h2362.2 (by omega) (by omega))) (fa_fr.wide h2366.2 (by omega) (by omega))) (fa_fr.wide h2370.2 (by omega) (by omega))) (fa_fr.wide h2374.2 (by omega) (by omega))) (by omega))⟩⟩)
            · exact absurd (by try decide) c_265
          · have hn1 := fa_ift hxn1 c_148
            refine lv_aload_n hx hb dX7_readsOrder_151 rfl (lv_at hl 0 rfl) ?_
            refine lv_bipush (v := nI (44)) hx hb dX7_readsOrder_152 (by decide) ?_
            refine fa_callViu (As := [.int (nI (44))]) (rest := []) CX HX2377 (r_accepts l G n hn v2376 r hM (n9) (m_x2375) (no) (by omega) (by omega) (by omega) ((hf_x2375.2 9 (by decide) (by decide)).trans ((hf_x2371.2 9 (by decide) (by decide)).trans ((hf_x2367.2 9 (by decide) (by decide)).trans ((hf_x2363.2 9 (by decide) (by decide)).trans (by rw [e2360, fa_u_n _ _ (by omega)]; exact (by rw [e2211, fa_u_n _ _ (by omega)]; exact g9)))))) gm_x2375 (go_x2375.trans (congrArg nI ho_x2375.e)) t ((h2374.2 405 (by omega)).trans ((h2370.2 405 (by omega)).trans ((h2366.2 405 (by omega)).trans ((h2362.2 405 (by omega)).trans (((congrFun e2360 405).trans (fa_u_k _ _ (by decide))).trans (((congrFun e2211 405).trans (fa_u_k _ _ (by decide))).trans h5)))))) (nI (44)) (by decide)) ln_X7_144 (by omega) rfl rfl rfl rfl (Nat.le_of_ble_eq_true rfl) hl.1 ⟨Nat.le_of_ble_eq_true rfl, Nat.le_of_ble_eq_true rfl⟩ ⟨Nat.le_refl _, Nat.le_refl _⟩ dX7_readsOrder_154 (fun x2382 v2383 H locs h2381 HX2384 => ?_)
            obtain ⟨hx_x2382, m_x2382, o_x2382, ⟨ha_x2382, hc_x2382, hd_x2382, hm_x2382, ho_x2382⟩, gm_x2382, go_x2382, hf_x2382, hr_x2382⟩ := h2381.1
            have hxc := hx_x2382
            have hmc := hm_x2382
            refine lv_if_eq (tgt := 176) hx hb dX7_readsOrder_157 (by decide) (fun c_157 => ?_) (fun c_157 => ?_)
            · have hcm := fa_ifn hxc c_157
              have hpc := hmc.e.trans (fa_acc_f hcm)
              refine lv_iconst (v := nI (0)) hx hb dX7_readsOrder_176 (by decide) ?_
              refine lv_istore_n (lv' := [(1, .int (nI (0))), (0, .ref (fa_B G + (397)))]) hx hb dX7_readsOrder_177 rfl hl (by decide) rfl (fun ls hl => ?_)
              refine lv_goto (tgt := 259) hx hb dX7_readsOrder_178 (by decide) ?_
              refine lv_aload_n hx hb dX7_readsOrder_259 rfl (lv_at hl 1 rfl) ?_
              refine lv_dup hx hb dX7_readsOrder_260 rfl ?_
              refine fa_geti (k := 397) CX HX2384 fl_X7_141 (by omega) rfl rfl dX7_readsOrder_261 ?_
              rw [show v2383 397 11 = nI (no) from (go_x2382.trans (congrArg nI ho_x2382.e))]
              refine lv_iload_n hx hb dX7_readsOrder_264 rfl (lv_at hl 0 rfl) ?_
              refine lv_if_eq (tgt := 272) hx hb dX7_readsOrder_265 (by decide) (fun c_265 => ?_) (fun c_265 => ?_)
              · refine lv_iconst (v := nI (0)) hx hb dX7_readsOrder_272 (by decide) ?_
                refine fa_iaddN hx hb dX7_readsOrder_273 ?_
                refine fa_puti (k := 397) CX HX2384 fl_X7_141 (by omega) rfl rfl rfl rfl dX7_readsOrder_274 (fun H locs v2385 e2386 HX2387 => ?_)
                refine lv_iload_n hx hb dX7_readsOrder_277 rfl (lv_at hl 0 rfl) ?_
                exact RET _ _ _ _ _ _ _ HX2387 dX7_readsOrder_278 (by decide) (⟨rfl, ⟨⟨(by rw [((fa_ord_s (Or.inl hS115)).trans (fa_two_c hn1 hmn1.e hcm))]; exact rfl), m_x2375, no + 0, ⟨by omega, by omega, by omega, fa_is.mk (by rw [((fa_ord_s (Or.inl hS115)).trans (fa_two_c hn1 hmn1.e hcm))]), fa_is.mk (by rw [((fa_ord_s (Or.inl hS115)).trans (fa_two_c hn1 hmn1.e hcm))]; exact (show no + 0 = no by omega))⟩, (show v2385 397 12 = nI (m_x2375) from (by rw [e2386, fa_u_n _ _ (by omega)]; exact ((gm_x2382).trans (congrArg nI hpc)))), (show v2385 397 11 = nI (no + 0) from (by rw [e2386, fa_u_s])), (show fa_f3 v v2385 from (by rw [e2386]; exact fa_f3.w (fa_f3.tr (fa_f3.tr (fa_f3.tr (fa_f3.tr (fa_f3.tr (by rw [e2360]; exact fa_f3.u (by rw [e2211]; exact fa_f3.u fa_f3.rf)) hf_x2363) hf_x2367) hf_x2371) hf_x2375) hf_x2382) (by decide))), (by rw [((fa_ord_s (Or.inl hS115)).trans (fa_two_c hn1 hmn1.e hcm))]; exact ⟨(fun i hi => (by show v2385 403 i = _; rw [e2386, fa_u_k _ _ (by decide), hr_x2382, hr_x2375.2 i (by omega), hr_x2371, hr_x2367, hr_x2363]; exact hA i hi)), (by show v2385 403 (4 * no) = _; rw [e2386, fa_u_k _ _ (by decide), hr_x2382, hr_x2375.2 (4 * no) (by omega), hr_x2371, hr_x2367, hr_x2363]; exact hB), (by show v2385 403 (4 * no + 1) = _; rw [e2386, fa_u_k _ _ (by decide), hr_x2382, hr_x2375.2 (4 * no + 1) (by omega), hr_x2371, hr_x2367, hr_x2363]; exact hC), (fun z => absurd (show false = true from z) (by decide))⟩)⟩, (by rw [e2386]; exact fa_fr.u (fa_fr.tr (fa_fr.tr (fa_fr.tr (fa_fr.tr (fa_fr.tr (by rw [e2360]; exact fa_fr.u (by rw [e2211]; exact fa_fr.u fa_fr.rf (by omega)) (by omega)) (fa_fr.wide h2362.2 (by omega) (by omega))) (fa_fr.wide h2366.2 (by omega) (by omega))) (fa_fr.wide h2370.2 (by omega) (by omega))) (fa_fr.wide h2374.2 (by omega) (by omega))) (fa_fr.wide h2381.2 (by omega) (by omega))) (by omega))⟩⟩)
              · exact absurd (by try decide) c_265
            · have hcm := fa_ift hxc c_157
              have hpc := hmc.e.trans (fa_acc_t hcm)
              refine lv_aload_n hx hb dX7_readsOrder_160 rfl (lv_at hl 0 rfl) ?_
              refine lv_iconst (v := nI (3)) hx hb dX7_readsOrder_161 (by decide) ?_
              refine lv_iconst (v := nI (0)) hx hb dX7_readsOrder_162 (by decide) ?_
              refine lv_sipush (v := nI (199)) hx hb dX7_readsOrder_163 (by decide) ?_
              refine fa_callViu (As := [.int (nI (3)), .int (nI (0)), .int (nI (199))]) (rest := []) CX HX2384 (r_number l G n hn v2383 r hM (n9) (m_x2375 + 1) (no) (by omega) (by omega) (by omega) ((hf_x2382.2 9 (by decide) (by decide)).trans ((hf_x2375.2 9 (by decide) (by decide)).trans ((hf_x2371.2 9 (by decide) (by decide)).trans ((hf_x2367.2 9 (by decide) (by decide)).trans ((hf_x2363.2 9 (by decide) (by decide)).trans (by rw [e2360, fa_u_n _ _ (by omega)]; exact (by rw [e2211, fa_u_n _ _ (by omega)]; exact g9))))))) ((gm_x2382).trans (congrArg nI hpc)) (go_x2382.trans (congrArg nI ho_x2382.e)) t ((h2381.2 405 (by omega)).trans ((h2374.2 405 (by omega)).trans ((h2370.2 405 (by omega)).trans ((h2366.2 405 (by omega)).trans ((h2362.2 405 (by omega)).trans (((congrFun e2360 405).trans (fa_u_k _ _ (by decide))).trans (((congrFun e2211 405).trans (fa_u_k _ _ (by decide))).trans h5))))))) (3) (nI (0)) (nI (199)) (by omega) ⟨0, by decide, rfl⟩ ⟨199, by decide, rfl⟩) ln_X7_148 (by omega) rfl rfl rfl rfl (Nat.le_of_ble_eq_true rfl) hl.1 ⟨Nat.le_of_ble_eq_true rfl, Nat.le_of_ble_eq_true rfl⟩ ⟨Nat.le_refl _, Nat.le_refl _⟩ dX7_readsOrder_166 (fun x2389 v2390 H locs h2388 HX2391 => ?_)
              obtain ⟨hx_x2389, m_x2389, o_x2389, ⟨ha_x2389, hc_x2389, hd_x2389, hm_x2389, ho_x2389⟩, gm_x2389, go_x2389, hf_x2389, hr_x2389⟩ := h2388.1
              have hxn2 := hx_x2389
              have hmn2 := hm_x2389
              refine lv_if_eq (tgt := 176) hx hb dX7_readsOrder_169 (by decide) (fun c_169 => ?_) (fun c_169 => ?_)
              · have hn2 := fa_ifn hxn2 c_169
                refine lv_iconst (v := nI (0)) hx hb dX7_readsOrder_176 (by decide) ?_
                refine lv_istore_n (lv' := [(1, .int (nI (0))), (0, .ref (fa_B G + (397)))]) hx hb dX7_readsOrder_177 rfl hl (by decide) rfl (fun ls hl => ?_)
                refine lv_goto (tgt := 259) hx hb dX7_readsOrder_178 (by decide) ?_
                refine lv_aload_n hx hb dX7_readsOrder_259 rfl (lv_at hl 1 rfl) ?_
                refine lv_dup hx hb dX7_readsOrder_260 rfl ?_
                refine fa_geti (k := 397) CX HX2391 fl_X7_141 (by omega) rfl rfl dX7_readsOrder_261 ?_
                rw [show v2390 397 11 = nI (no) from (go_x2389.trans (congrArg nI ho_x2389.e))]
                refine lv_iload_n hx hb dX7_readsOrder_264 rfl (lv_at hl 0 rfl) ?_
                refine lv_if_eq (tgt := 272) hx hb dX7_readsOrder_265 (by decide) (fun c_265 => ?_) (fun c_265 => ?_)
                · refine lv_iconst (v := nI (0)) hx hb dX7_readsOrder_272 (by decide) ?_
                  refine fa_iaddN hx hb dX7_readsOrder_273 ?_
                  refine fa_puti (k := 397) CX HX2391 fl_X7_141 (by omega) rfl rfl rfl rfl dX7_readsOrder_274 (fun H locs v2392 e2393 HX2394 => ?_)
                  refine lv_iload_n hx hb dX7_readsOrder_277 rfl (lv_at hl 0 rfl) ?_
                  exact RET _ _ _ _ _ _ _ HX2394 dX7_readsOrder_278 (by decide) (⟨rfl, ⟨⟨(by rw [((fa_ord_s (Or.inl hS115)).trans (fa_two_n hn1 hmn1.e hcm hn2))]; exact rfl), m_x2389, no + 0, ⟨by omega, by omega, by omega, fa_is.mk (by rw [((fa_ord_s (Or.inl hS115)).trans (fa_two_n hn1 hmn1.e hcm hn2))]; exact hmn2.e), fa_is.mk (by rw [((fa_ord_s (Or.inl hS115)).trans (fa_two_n hn1 hmn1.e hcm hn2))]; exact (show no + 0 = no by omega))⟩, (show v2392 397 12 = nI (m_x2389) from (by rw [e2393, fa_u_n _ _ (by omega)]; exact gm_x2389)), (show v2392 397 11 = nI (no + 0) from (by rw [e2393, fa_u_s])), (show fa_f3 v v2392 from (by rw [e2393]; exact fa_f3.w (fa_f3.tr (fa_f3.tr (fa_f3.tr (fa_f3.tr (fa_f3.tr (fa_f3.tr (by rw [e2360]; exact fa_f3.u (by rw [e2211]; exact fa_f3.u fa_f3.rf)) hf_x2363) hf_x2367) hf_x2371) hf_x2375) hf_x2382) hf_x2389) (by decide))), (by rw [((fa_ord_s (Or.inl hS115)).trans (fa_two_n hn1 hmn1.e hcm hn2))]; exact ⟨(fun i hi => (by show v2392 403 i = _; rw [e2393, fa_u_k _ _ (by decide), hr_x2389.2 i (by omega), hr_x2382, hr_x2375.2 i (by omega), hr_x2371, hr_x2367, hr_x2363]; exact hA i hi)), (by show v2392 403 (4 * no) = _; rw [e2393, fa_u_k _ _ (by decide), hr_x2389.2 (4 * no) (by omega), hr_x2382, hr_x2375.2 (4 * no) (by omega), hr_x2371, hr_x2367, hr_x2363]; exact hB), (by show v2392 403 (4 * no + 1) = _; rw [e2393, fa_u_k _ _ (by decide), hr_x2389.2 (4 * no + 1) (by omega), hr_x2382, hr_x2375.2 (4 * no + 1) (by omega), hr_x2371, hr_x2367, hr_x2363]; exact hC), (fun z => absurd (show false = true from z) (by decide))⟩)⟩, (by rw [e2393]; exact fa_fr.u (fa_fr.tr (fa_fr.tr (fa_fr.tr (fa_fr.tr (fa_fr.tr (fa_fr.tr (by rw [e2360]; exact fa_fr.u (by rw [e2211]; exact fa_fr.u fa_fr.rf (by omega)) (by omega)) (fa_fr.wide h2362.2 (by omega) (by omega))) (fa_fr.wide h2366.2 (by omega) (by omega))) (fa_fr.wide h2370.2 (by omega) (by omega))) (fa_fr.wide h2374.2 (by omega) (by omega))) (fa_fr.wide h2381.2 (by omega) (by omega))) (fa_fr.wide h2388.2 (by omega) (by omega))) (by omega))⟩⟩)
                · exact absurd (by try decide) c_265
              · have hn2 := fa_ift hxn2 c_169
                refine lv_iconst (v := nI (1)) hx hb dX7_readsOrder_172 (by decide) ?_
                refine lv_goto (tgt := 177) hx hb dX7_readsOrder_173 (by decide) ?_
                refine lv_istore_n (lv' := [(1, .int (nI (1))), (0, .ref (fa_B G + (397)))]) hx hb dX7_readsOrder_177 rfl hl (by decide) rfl (fun ls hl => ?_)
                refine lv_goto (tgt := 259) hx hb dX7_readsOrder_178 (by decide) ?_
                refine lv_aload_n hx hb dX7_readsOrder_259 rfl (lv_at hl 1 rfl) ?_
                refine lv_dup hx hb dX7_readsOrder_260 rfl ?_
                refine fa_geti (k := 397) CX HX2391 fl_X7_141 (by omega) rfl rfl dX7_readsOrder_261 ?_
                rw [show v2390 397 11 = nI (no) from (go_x2389.trans (congrArg nI ho_x2389.e))]
                refine lv_iload_n hx hb dX7_readsOrder_264 rfl (lv_at hl 0 rfl) ?_
                refine lv_if_eq (tgt := 272) hx hb dX7_readsOrder_265 (by decide) (fun c_265 => ?_) (fun c_265 => ?_)
                · exact absurd c_265 (by try decide)
                · refine lv_iconst (v := nI (1)) hx hb dX7_readsOrder_268 (by decide) ?_
                  refine lv_goto (tgt := 273) hx hb dX7_readsOrder_269 (by decide) ?_
                  refine fa_iaddN hx hb dX7_readsOrder_273 ?_
                  refine fa_puti (k := 397) CX HX2391 fl_X7_141 (by omega) rfl rfl rfl rfl dX7_readsOrder_274 (fun H locs v2395 e2396 HX2397 => ?_)
                  refine lv_iload_n hx hb dX7_readsOrder_277 rfl (lv_at hl 0 rfl) ?_
                  exact RET _ _ _ _ _ _ _ HX2397 dX7_readsOrder_278 (by decide) (⟨rfl, ⟨⟨(by rw [((fa_ord_s (Or.inl hS115)).trans (fa_two_y hn1 hmn1.e hcm hn2))]; exact rfl), m_x2389, no + 1, ⟨by omega, by omega, (by have hfx := (show na + 2 ≤ m_x2389 from by have z := (fa_ord_le (t := t) hna).2.2; rw [((fa_ord_s (Or.inl hS115)).trans (fa_two_y hn1 hmn1.e hcm hn2))] at z; rw [hmn2.e]; exact z rfl); omega), fa_is.mk (by rw [((fa_ord_s (Or.inl hS115)).trans (fa_two_y hn1 hmn1.e hcm hn2))]; exact hmn2.e), fa_is.mk (by rw [((fa_ord_s (Or.inl hS115)).trans (fa_two_y hn1 hmn1.e hcm hn2))]; exact (show no + 1 = no + 1 by omega))⟩, (show v2395 397 12 = nI (m_x2389) from (by rw [e2396, fa_u_n _ _ (by omega)]; exact gm_x2389)), (show v2395 397 11 = nI (no + 1) from (by rw [e2396, fa_u_s])), (show fa_f3 v v2395 from (by rw [e2396]; exact fa_f3.w (fa_f3.tr (fa_f3.tr (fa_f3.tr (fa_f3.tr (fa_f3.tr (fa_f3.tr (by rw [e2360]; exact fa_f3.u (by rw [e2211]; exact fa_f3.u fa_f3.rf)) hf_x2363) hf_x2367) hf_x2371) hf_x2375) hf_x2382) hf_x2389) (by decide))), (by rw [((fa_ord_s (Or.inl hS115)).trans (fa_two_y hn1 hmn1.e hcm hn2))]; exact ⟨(fun i hi => (by show v2395 403 i = _; rw [e2396, fa_u_k _ _ (by decide), hr_x2389.2 i (by omega), hr_x2382, hr_x2375.2 i (by omega), hr_x2371, hr_x2367, hr_x2363]; exact hA i hi)), (by show v2395 403 (4 * no) = _; rw [e2396, fa_u_k _ _ (by decide), hr_x2389.2 (4 * no) (by omega), hr_x2382, hr_x2375.2 (4 * no) (by omega), hr_x2371, hr_x2367, hr_x2363]; exact hB), (by show v2395 403 (4 * no + 1) = _; rw [e2396, fa_u_k _ _ (by decide), hr_x2389.2 (4 * no + 1) (by omega), hr_x2382, hr_x2375.2 (4 * no + 1) (by omega), hr_x2371, hr_x2367, hr_x2363]; exact hC), (fun _ => ⟨(by show v2395 403 (4 * no + 2) = _; rw [e2396, fa_u_k _ _ (by decide), hr_x2389.2 (4 * no + 2) (by omega), hr_x2382]; exact hr_x2375.1 hn1), (fun _ _ => (by show v2395 403 (4 * no + 3) = _; rw [e2396, fa_u_k _ _ (by decide)]; exact hr_x2389.1 hn2))⟩)⟩)⟩, (by rw [e2396]; exact fa_fr.u (fa_fr.tr (fa_fr.tr (fa_fr.tr (fa_fr.tr (fa_fr.tr (fa_fr.tr (by rw [e2360]; exact fa_fr.u (by rw [e2211]; exact fa_fr.u fa_fr.rf (by omega)) (by omega)) (fa_fr.wide h2362.2 (by omega) (by omega))) (fa_fr.wide h2366.2 (by omega) (by omega))) (fa_fr.wide h2370.2 (by omega) (by omega))) (fa_fr.wide h2374.2 (by omega) (by omega))) (fa_fr.wide h2381.2 (by omega) (by omega))) (fa_fr.wide h2388.2 (by omega) (by omega))) (by omega))⟩⟩)
        · have hS115 : ¬ fa_sg t n9 na = (115 : Int32) := fa_ifn hxa (by first | exact c_128 | exact Decidable.not_not.mp c_128)
          have hp115 := hma.e.trans (fa_acc_f hS115)
          clear ha_x2371 hc_x2371 hd_x2371 hxa hma
          refine lv_aload_n hx hb dX7_readsOrder_131 rfl (lv_at hl 0 rfl) ?_
          refine lv_bipush (v := nI (108)) hx hb dX7_readsOrder_132 (by decide) ?_
          refine fa_callViu (As := [.int (nI (108))]) (rest := []) CX HX2373 (r_accepts l G n hn v2372 r hM (n9) (na) (no) (by omega) (by omega) (by omega) ((hf_x2371.2 9 (by decide) (by decide)).trans ((hf_x2367.2 9 (by decide) (by decide)).trans ((hf_x2363.2 9 (by decide) (by decide)).trans (by rw [e2360, fa_u_n _ _ (by omega)]; exact (by rw [e2211, fa_u_n _ _ (by omega)]; exact g9))))) ((gm_x2371).trans (congrArg nI hp115)) (go_x2371.trans (congrArg nI ho_x2371.e)) t ((h2370.2 405 (by omega)).trans ((h2366.2 405 (by omega)).trans ((h2362.2 405 (by omega)).trans (((congrFun e2360 405).trans (fa_u_k _ _ (by decide))).trans (((congrFun e2211 405).trans (fa_u_k _ _ (by decide))).trans h5))))) (nI (108)) (by decide)) ln_X7_144 (by omega) rfl rfl rfl rfl (Nat.le_of_ble_eq_true rfl) hl.1 ⟨Nat.le_of_ble_eq_true rfl, Nat.le_of_ble_eq_true rfl⟩ ⟨Nat.le_refl _, Nat.le_refl _⟩ dX7_readsOrder_134 (fun x2399 v2400 H locs h2398 HX2401 => ?_)
          obtain ⟨hx_x2399, m_x2399, o_x2399, ⟨ha_x2399, hc_x2399, hd_x2399, hm_x2399, ho_x2399⟩, gm_x2399, go_x2399, hf_x2399, hr_x2399⟩ := h2398.1
          have hxa := hx_x2399
          have hma := hm_x2399
          refine lv_if_eq (tgt := 181) hx hb dX7_readsOrder_137 (by decide) (fun c_137 => ?_) (fun c_137 => ?_)
          · have hS108 : ¬ fa_sg t n9 na = (108 : Int32) := fa_ifn hxa (by first | exact c_137 | exact Decidable.not_not.mp c_137)
            have hp108 := hma.e.trans (fa_acc_f hS108)
            clear ha_x2399 hc_x2399 hd_x2399 hxa hma
            refine lv_aload_n hx hb dX7_readsOrder_181 rfl (lv_at hl 0 rfl) ?_
            refine lv_bipush (v := nI (102)) hx hb dX7_readsOrder_182 (by decide) ?_
            refine fa_callViu (As := [.int (nI (102))]) (rest := []) CX HX2401 (r_accepts l G n hn v2400 r hM (n9) (na) (no) (by omega) (by omega) (by omega) ((hf_x2399.2 9 (by decide) (by decide)).trans ((hf_x2371.2 9 (by decide) (by decide)).trans ((hf_x2367.2 9 (by decide) (by decide)).trans ((hf_x2363.2 9 (by decide) (by decide)).trans (by rw [e2360, fa_u_n _ _ (by omega)]; exact (by rw [e2211, fa_u_n _ _ (by omega)]; exact g9)))))) ((gm_x2399).trans (congrArg nI hp108)) (go_x2399.trans (congrArg nI ho_x2399.e)) t ((h2398.2 405 (by omega)).trans ((h2370.2 405 (by omega)).trans ((h2366.2 405 (by omega)).trans ((h2362.2 405 (by omega)).trans (((congrFun e2360 405).trans (fa_u_k _ _ (by decide))).trans (((congrFun e2211 405).trans (fa_u_k _ _ (by decide))).trans h5)))))) (nI (102)) (by decide)) ln_X7_144 (by omega) rfl rfl rfl rfl (Nat.le_of_ble_eq_true rfl) hl.1 ⟨Nat.le_of_ble_eq_true rfl, Nat.le_of_ble_eq_true rfl⟩ ⟨Nat.le_refl _, Nat.le_refl _⟩ dX7_readsOrder_184 (fun x2403 v2404 H locs h2402 HX2405 => ?_)
            obtain ⟨hx_x2403, m_x2403, o_x2403, ⟨ha_x2403, hc_x2403, hd_x2403, hm_x2403, ho_x2403⟩, gm_x2403, go_x2403, hf_x2403, hr_x2403⟩ := h2402.1
            have hxa := hx_x2403
            have hma := hm_x2403
            refine lv_if_eq (tgt := 232) hx hb dX7_readsOrder_187 (by decide) (fun c_187 => ?_) (fun c_187 => ?_)
            · have hS102 : ¬ fa_sg t n9 na = (102 : Int32) := fa_ifn hxa (by first | exact c_187 | exact Decidable.not_not.mp c_187)
              have hp102 := hma.e.trans (fa_acc_f hS102)
              clear ha_x2403 hc_x2403 hd_x2403 hxa hma
              refine lv_aload_n hx hb dX7_readsOrder_232 rfl (lv_at hl 0 rfl) ?_
              refine lv_bipush (v := nI (100)) hx hb dX7_readsOrder_233 (by decide) ?_
              refine fa_callViu (As := [.int (nI (100))]) (rest := []) CX HX2405 (r_accepts l G n hn v2404 r hM (n9) (na) (no) (by omega) (by omega) (by omega) ((hf_x2403.2 9 (by decide) (by decide)).trans ((hf_x2399.2 9 (by decide) (by decide)).trans ((hf_x2371.2 9 (by decide) (by decide)).trans ((hf_x2367.2 9 (by decide) (by decide)).trans ((hf_x2363.2 9 (by decide) (by decide)).trans (by rw [e2360, fa_u_n _ _ (by omega)]; exact (by rw [e2211, fa_u_n _ _ (by omega)]; exact g9))))))) ((gm_x2403).trans (congrArg nI hp102)) (go_x2403.trans (congrArg nI ho_x2403.e)) t ((h2402.2 405 (by omega)).trans ((h2398.2 405 (by omega)).trans ((h2370.2 405 (by omega)).trans ((h2366.2 405 (by omega)).trans ((h2362.2 405 (by omega)).trans (((congrFun e2360 405).trans (fa_u_k _ _ (by decide))).trans (((congrFun e2211 405).trans (fa_u_k _ _ (by decide))).trans h5))))))) (nI (100)) (by decide)) ln_X7_144 (by omega) rfl rfl rfl rfl (Nat.le_of_ble_eq_true rfl) hl.1 ⟨Nat.le_of_ble_eq_true rfl, Nat.le_of_ble_eq_true rfl⟩ ⟨Nat.le_refl _, Nat.le_refl _⟩ dX7_readsOrder_235 (fun x2407 v2408 H locs h2406 HX2409 => ?_)
              obtain ⟨hx_x2407, m_x2407, o_x2407, ⟨ha_x2407, hc_x2407, hd_x2407, hm_x2407, ho_x2407⟩, gm_x2407, go_x2407, hf_x2407, hr_x2407⟩ := h2406.1
              have hxa := hx_x2407
              have hma := hm_x2407
              refine lv_if_eq (tgt := 257) hx hb dX7_readsOrder_238 (by decide) (fun c_238 => ?_) (fun c_238 => ?_)
              · have hS100 : ¬ fa_sg t n9 na = (100 : Int32) := fa_ifn hxa (by first | exact c_238 | exact Decidable.not_not.mp c_238)
                have hp100 := hma.e.trans (fa_acc_f hS100)
                clear ha_x2407 hc_x2407 hd_x2407 hxa hma
                refine lv_iconst (v := nI (0)) hx hb dX7_readsOrder_257 (by decide) ?_
                refine lv_istore_n (lv' := [(1, .int (nI (0))), (0, .ref (fa_B G + (397)))]) hx hb dX7_readsOrder_258 rfl hl (by decide) rfl (fun ls hl => ?_)
                refine lv_aload_n hx hb dX7_readsOrder_259 rfl (lv_at hl 1 rfl) ?_
                refine lv_dup hx hb dX7_readsOrder_260 rfl ?_
                refine fa_geti (k := 397) CX HX2409 fl_X7_141 (by omega) rfl rfl dX7_readsOrder_261 ?_
                rw [show v2408 397 11 = nI (no) from (go_x2407.trans (congrArg nI ho_x2407.e))]
                refine lv_iload_n hx hb dX7_readsOrder_264 rfl (lv_at hl 0 rfl) ?_
                refine lv_if_eq (tgt := 272) hx hb dX7_readsOrder_265 (by decide) (fun c_265 => ?_) (fun c_265 => ?_)
                · refine lv_iconst (v := nI (0)) hx hb dX7_readsOrder_272 (by decide) ?_
                  refine fa_iaddN hx hb dX7_readsOrder_273 ?_
                  refine fa_puti (k := 397) CX HX2409 fl_X7_141 (by omega) rfl rfl rfl rfl dX7_readsOrder_274 (fun H locs v2410 e2411 HX2412 => ?_)
                  refine lv_iload_n hx hb dX7_readsOrder_277 rfl (lv_at hl 0 rfl) ?_
                  exact RET _ _ _ _ _ _ _ HX2412 dX7_readsOrder_278 (by decide) (⟨rfl, ⟨⟨(by rw [(fa_ord_no hS110 hS97 hS115 hS108 hS102 hS100)]; exact rfl), na, no + 0, ⟨by omega, by omega, by omega, fa_is.mk (by rw [(fa_ord_no hS110 hS97 hS115 hS108 hS102 hS100)]), fa_is.mk (by rw [(fa_ord_no hS110 hS97 hS115 hS108 hS102 hS100)]; exact (show no + 0 = no by omega))⟩, (show v2410 397 12 = nI (na) from (by rw [e2411, fa_u_n _ _ (by omega)]; exact ((gm_x2407).trans (congrArg nI hp100)))), (show v2410 397 11 = nI (no + 0) from (by rw [e2411, fa_u_s])), (show fa_f3 v v2410 from (by rw [e2411]; exact fa_f3.w (fa_f3.tr (fa_f3.tr (fa_f3.tr (fa_f3.tr (fa_f3.tr (fa_f3.tr (by rw [e2360]; exact fa_f3.u (by rw [e2211]; exact fa_f3.u fa_f3.rf)) hf_x2363) hf_x2367) hf_x2371) hf_x2399) hf_x2403) hf_x2407) (by decide))), (by rw [(fa_ord_no hS110 hS97 hS115 hS108 hS102 hS100)]; exact ⟨(fun i hi => (by show v2410 403 i = _; rw [e2411, fa_u_k _ _ (by decide), hr_x2407, hr_x2403, hr_x2399, hr_x2371, hr_x2367, hr_x2363]; exact hA i hi)), (by show v2410 403 (4 * no) = _; rw [e2411, fa_u_k _ _ (by decide), hr_x2407, hr_x2403, hr_x2399, hr_x2371, hr_x2367, hr_x2363]; exact hB), (by show v2410 403 (4 * no + 1) = _; rw [e2411, fa_u_k _ _ (by decide), hr_x2407, hr_x2403, hr_x2399, hr_x2371, hr_x2367, hr_x2363]; exact hC), (fun z => absurd (show false = true from z) (by decide))⟩)⟩, (by rw [e2411]; exact fa_fr.u (fa_fr.tr (fa_fr.tr (fa_fr.tr (fa_fr.tr (fa_fr.tr (fa_fr.tr (by rw [e2360]; exact fa_fr.u (by rw [e2211]; exact fa_fr.u fa_fr.rf (by omega)) (by omega)) (fa_fr.wide h2362.2 (by omega) (by omega))) (fa_fr.wide h2366.2 (by omega) (by omega))) (fa_fr.wide h2370.2 (by omega) (by omega))) (fa_fr.wide h2398.2 (by omega) (by omega))) (fa_fr.wide h2402.2 (by omega) (by omega))) (fa_fr.wide h2406.2 (by omega) (by omega))) (by omega))⟩⟩)
                · exact absurd (by try decide) c_265
              · have hS100 : fa_sg t n9 na = (100 : Int32) := fa_ift hxa c_238
                have hp100 := hma.e.trans (fa_acc_t hS100)
                have hlt : na < n9 := fa_sg_nz hS100 (by decide)
                clear ha_x2407 hc_x2407 hd_x2407
                refine lv_aload_n hx hb dX7_readsOrder_241 rfl (lv_at hl 0 rfl) ?_
                refine lv_iconst (v := nI (2)) hx hb dX7_readsOrder_242 (by decide) ?_
                refine lv_iconst (v := nI (1)) hx hb dX7_readsOrder_243 (by decide) ?_
                refine lv_sipush (v := nI (400)) hx hb dX7_readsOrder_244 (by decide) ?_
                refine fa_callViu (As := [.int (nI (2)), .int (nI (1)), .int (nI (400))]) (rest := []) CX HX2409 (r_number l G n hn v2408 r hM (n9) (na + 1) (no) (by omega) (by omega) (by omega) ((hf_x2407.2 9 (by decide) (by decide)).trans ((hf_x2403.2 9 (by decide) (by decide)).trans ((hf_x2399.2 9 (by decide) (by decide)).trans ((hf_x2371.2 9 (by decide) (by decide)).trans ((hf_x2367.2 9 (by decide) (by decide)).trans ((hf_x2363.2 9 (by decide) (by decide)).trans (by rw [e2360, fa_u_n _ _ (by omega)]; exact (by rw [e2211, fa_u_n _ _ (by omega)]; exact g9)))))))) ((gm_x2407).trans (congrArg nI hp100)) (go_x2407.trans (congrArg nI ho_x2407.e)) t ((h2406.2 405 (by omega)).trans ((h2402.2 405 (by omega)).trans ((h2398.2 405 (by omega)).trans ((h2370.2 405 (by omega)).trans ((h2366.2 405 (by omega)).trans ((h2362.2 405 (by omega)).trans (((congrFun e2360 405).trans (fa_u_k _ _ (by decide))).trans (((congrFun e2211 405).trans (fa_u_k _ _ (by decide))).trans h5)))))))) (2) (nI (1)) (nI (400)) (by omega) ⟨1, by decide, rfl⟩ ⟨400, by decide, rfl⟩) ln_X7_148 (by omega) rfl rfl rfl rfl (Nat.le_of_ble_eq_true rfl) hl.1 ⟨Nat.le_of_ble_eq_true rfl, Nat.le_of_ble_eq_true rfl⟩ ⟨Nat.le_refl _, Nat.le_refl _⟩ dX7_readsOrder_247 (fun x2414 v2415 H locs h2413 HX2416 => ?_)
                obtain ⟨hx_x2414, m_x2414, o_x2414, ⟨ha_x2414, hc_x2414, hd_x2414, hm_x2414, ho_x2414⟩, gm_x2414, go_x2414, hf_x2414, hr_x2414⟩ := h2413.1
                have hxn1 := hx_x2414
                have hmn1 := hm_x2414
                refine lv_if_eq (tgt := 257) hx hb dX7_readsOrder_250 (by decide) (fun c_250 => ?_) (fun c_250 => ?_)
                · have hn1 := fa_ifn hxn1 c_250
                  refine lv_iconst (v := nI (0)) hx hb dX7_readsOrder_257 (by decide) ?_
                  refine lv_istore_n (lv' := [(1, .int (nI (0))), (0, .ref (fa_B G + (397)))]) hx hb dX7_readsOrder_258 rfl hl (by decide) rfl (fun ls hl => ?_)
                  refine lv_aload_n hx hb dX7_readsOrder_259 rfl (lv_at hl 1 rfl) ?_
                  refine lv_dup hx hb dX7_readsOrder_260 rfl ?_
                  refine fa_geti (k := 397) CX HX2416 fl_X7_141 (by omega) rfl rfl dX7_readsOrder_261 ?_
                  rw [show v2415 397 11 = nI (no) from (go_x2414.trans (congrArg nI ho_x2414.e))]
                  refine lv_iload_n hx hb dX7_readsOrder_264 rfl (lv_at hl 0 rfl) ?_
                  refine lv_if_eq (tgt := 272) hx hb dX7_readsOrder_265 (by decide) (fun c_265 => ?_) (fun c_265 => ?_)
                  · refine lv_iconst (v := nI (0)) hx hb dX7_readsOrder_272 (by decide) ?_
                    refine fa_iaddN hx hb dX7_readsOrder_273 ?_
                    refine fa_puti (k := 397) CX HX2416 fl_X7_141 (by omega) rfl rfl rfl rfl dX7_readsOrder_274 (fun H locs v2417 e2418 HX2419 => ?_)
                    refine lv_iload_n hx hb dX7_readsOrder_277 rfl (lv_at hl 0 rfl) ?_
                    exact RET _ _ _ _ _ _ _ HX2419 dX7_readsOrder_278 (by decide) (⟨rfl, ⟨⟨(by rw [((fa_ord_d hS100).trans (fa_one_f hn1))]; exact rfl), m_x2414, no + 0, ⟨by omega, by omega, by omega, fa_is.mk (by rw [((fa_ord_d hS100).trans (fa_one_f hn1))]; exact hmn1.e), fa_is.mk (by rw [((fa_ord_d hS100).trans (fa_one_f hn1))]; exact (show no + 0 = no by omega))⟩, (show v2417 397 12 = nI (m_x2414) from (by rw [e2418, fa_u_n _ _ (by omega)]; exact gm_x2414)), (show v2417 397 11 = nI (no + 0) from (by rw [e2418, fa_u_s])), (show fa_f3 v v2417 from (by rw [e2418]; exact fa_f3.w (fa_f3.tr (fa_f3.tr (fa_f3.tr (fa_f3.tr (fa_f3.tr (fa_f3.tr (fa_f3.tr (by rw [e2360]; exact fa_f3.u (by rw [e2211]; exact fa_f3.u fa_f3.rf)) hf_x2363) hf_x2367) hf_x2371) hf_x2399) hf_x2403) hf_x2407) hf_x2414) (by decide))), (by rw [((fa_ord_d hS100).trans (fa_one_f hn1))]; exact ⟨(fun i hi => (by show v2417 403 i = _; rw [e2418, fa_u_k _ _ (by decide), hr_x2414.2 i (by omega), hr_x2407, hr_x2403, hr_x2399, hr_x2371, hr_x2367, hr_x2363]; exact hA i hi)), (by show v2417 403 (4 * no) = _; rw [e2418, fa_u_k _ _ (by decide), hr_x2414.2 (4 * no) (by omega), hr_x2407, hr_x2403, hr_x2399, hr_x2371, hr_x2367, hr_x2363]; exact hB), (by show v2417 403 (4 * no + 1) = _; rw [e2418, fa_u_k _ _ (by decide), hr_x2414.2 (4 * no + 1) (by omega), hr_x2407, hr_x2403, hr_x2399, hr_x2371, hr_x2367, hr_x2363]; exact hC), (fun z => absurd (show false = true from z) (by decide))⟩)⟩, (by rw [e2418]; exact fa_fr.u (fa_fr.tr (fa_fr.tr (fa_fr.tr (fa_fr.tr (fa_fr.tr (fa_fr.tr (fa_fr.tr (by rw [e2360]; exact fa_fr.u (by rw [e2211]; exact fa_fr.u fa_fr.rf (by omega)) (by omega)) (fa_fr.wide h2362.2 (by omega) (by omega))) (fa_fr.wide h2366.2 (by omega) (by omega))) (fa_fr.wide h2370.2 (by omega) (by omega))) (fa_fr.wide h2398.2 (by omega) (by omega))) (fa_fr.wide h2402.2 (by omega) (by omega))) (fa_fr.wide h2406.2 (by omega) (by omega))) (fa_fr.wide h2413.2 (by omega) (by omega))) (by omega))⟩⟩)
                  · exact absurd (by try decide) c_265
                · have hn1 := fa_ift hxn1 c_250
                  refine lv_iconst (v := nI (1)) hx hb dX7_readsOrder_253 (by decide) ?_
                  refine lv_goto (tgt := 258) hx hb dX7_readsOrder_254 (by decide) ?_
                  refine lv_istore_n (lv' := [(1, .int (nI (1))), (0, .ref (fa_B G + (397)))]) hx hb dX7_readsOrder_258 rfl hl (by decide) rfl (fun ls hl => ?_)
                  refine lv_aload_n hx hb dX7_readsOrder_259 rfl (lv_at hl 1 rfl) ?_
                  refine lv_dup hx hb dX7_readsOrder_260 rfl ?_
                  refine fa_geti (k := 397) CX HX2416 fl_X7_141 (by omega) rfl rfl dX7_readsOrder_261 ?_
                  rw [show v2415 397 11 = nI (no) from (go_x2414.trans (congrArg nI ho_x2414.e))]
                  refine lv_iload_n hx hb dX7_readsOrder_264 rfl (lv_at hl 0 rfl) ?_
                  refine lv_if_eq (tgt := 272) hx hb dX7_readsOrder_265 (by decide) (fun c_265 => ?_) (fun c_265 => ?_)
                  · exact absurd c_265 (by try decide)
                  · refine lv_iconst (v := nI (1)) hx hb dX7_readsOrder_268 (by decide) ?_
                    refine lv_goto (tgt := 273) hx hb dX7_readsOrder_269 (by decide) ?_
                    refine fa_iaddN hx hb dX7_readsOrder_273 ?_
                    refine fa_puti (k := 397) CX HX2416 fl_X7_141 (by omega) rfl rfl rfl rfl dX7_readsOrder_274 (fun H locs v2420 e2421 HX2422 => ?_)
                    refine lv_iload_n hx hb dX7_readsOrder_277 rfl (lv_at hl 0 rfl) ?_
                    exact RET _ _ _ _ _ _ _ HX2422 dX7_readsOrder_278 (by decide) (⟨rfl, ⟨⟨(by rw [((fa_ord_d hS100).trans (fa_one_t hn1))]; exact rfl), m_x2414, no + 1, ⟨by omega, by omega, (by have hfx := (show na + 2 ≤ m_x2414 from by have z := (fa_ord_le (t := t) hna).2.2; rw [((fa_ord_d hS100).trans (fa_one_t hn1))] at z; rw [hmn1.e]; exact z rfl); omega), fa_is.mk (by rw [((fa_ord_d hS100).trans (fa_one_t hn1))]; exact hmn1.e), fa_is.mk (by rw [((fa_ord_d hS100).trans (fa_one_t hn1))]; exact (show no + 1 = no + 1 by omega))⟩, (show v2420 397 12 = nI (m_x2414) from (by rw [e2421, fa_u_n _ _ (by omega)]; exact gm_x2414)), (show v2420 397 11 = nI (no + 1) from (by rw [e2421, fa_u_s])), (show fa_f3 v v2420 from (by rw [e2421]; exact fa_f3.w (fa_f3.tr (fa_f3.tr (fa_f3.tr (fa_f3.tr (fa_f3.tr (fa_f3.tr (fa_f3.tr (by rw [e2360]; exact fa_f3.u (by rw [e2211]; exact fa_f3.u fa_f3.rf)) hf_x2363) hf_x2367) hf_x2371) hf_x2399) hf_x2403) hf_x2407) hf_x2414) (by decide))), (by rw [((fa_ord_d hS100).trans (fa_one_t hn1))]; exact ⟨(fun i hi => (by show v2420 403 i = _; rw [e2421, fa_u_k _ _ (by decide), hr_x2414.2 i (by omega), hr_x2407, hr_x2403, hr_x2399, hr_x2371, hr_x2367, hr_x2363]; exact hA i hi)), (by show v2420 403 (4 * no) = _; rw [e2421, fa_u_k _ _ (by decide), hr_x2414.2 (4 * no) (by omega), hr_x2407, hr_x2403, hr_x2399, hr_x2371, hr_x2367, hr_x2363]; exact hB), (by show v2420 403 (4 * no + 1) = _; rw [e2421, fa_u_k _ _ (by decide), hr_x2414.2 (4 * no + 1) (by omega), hr_x2407, hr_x2403, hr_x2399, hr_x2371, hr_x2367, hr_x2363]; exact hC), (fun _ => ⟨(by show v2420 403 (4 * no + 2) = _; rw [e2421, fa_u_k _ _ (by decide)]; exact hr_x2414.1 hn1), (fun y1 y2 => by first | exact absurd hS97 y1 | exact absurd hS100 y2)⟩)⟩)⟩, (by rw [e2421]; exact fa_fr.u (fa_fr.tr (fa_fr.tr (fa_fr.tr (fa_fr.tr (fa_fr.tr (fa_fr.tr (fa_fr.tr (by rw [e2360]; exact fa_fr.u (by rw [e2211]; exact fa_fr.u fa_fr.rf (by omega)) (by omega)) (fa_fr.wide h2362.2 (by omega) (by omega))) (fa_fr.wide h2366.2 (by omega) (by omega))) (fa_fr.wide h2370.2 (by omega) (by omega))) (fa_fr.wide h2398.2 (by omega) (by omega))) (fa_fr.wide h2402.2 (by omega) (by omega))) (fa_fr.wide h2406.2 (by omega) (by omega))) (fa_fr.wide h2413.2 (by omega) (by omega))) (by omega))⟩⟩)
            · have hS102 : fa_sg t n9 na = (102 : Int32) := fa_ift hxa c_187
              have hp102 := hma.e.trans (fa_acc_t hS102)
              have hlt : na < n9 := fa_sg_nz hS102 (by decide)
              clear ha_x2403 hc_x2403 hd_x2403
              refine lv_aload_n hx hb dX7_readsOrder_190 rfl (lv_at hl 0 rfl) ?_
              refine lv_iconst (v := nI (2)) hx hb dX7_readsOrder_191 (by decide) ?_
              refine lv_iconst (v := nI (0)) hx hb dX7_readsOrder_192 (by decide) ?_
              refine lv_sipush (v := nI (199)) hx hb dX7_readsOrder_193 (by decide) ?_
              refine fa_callViu (As := [.int (nI (2)), .int (nI (0)), .int (nI (199))]) (rest := []) CX HX2405 (r_number l G n hn v2404 r hM (n9) (na + 1) (no) (by omega) (by omega) (by omega) ((hf_x2403.2 9 (by decide) (by decide)).trans ((hf_x2399.2 9 (by decide) (by decide)).trans ((hf_x2371.2 9 (by decide) (by decide)).trans ((hf_x2367.2 9 (by decide) (by decide)).trans ((hf_x2363.2 9 (by decide) (by decide)).trans (by rw [e2360, fa_u_n _ _ (by omega)]; exact (by rw [e2211, fa_u_n _ _ (by omega)]; exact g9))))))) ((gm_x2403).trans (congrArg nI hp102)) (go_x2403.trans (congrArg nI ho_x2403.e)) t ((h2402.2 405 (by omega)).trans ((h2398.2 405 (by omega)).trans ((h2370.2 405 (by omega)).trans ((h2366.2 405 (by omega)).trans ((h2362.2 405 (by omega)).trans (((congrFun e2360 405).trans (fa_u_k _ _ (by decide))).trans (((congrFun e2211 405).trans (fa_u_k _ _ (by decide))).trans h5))))))) (2) (nI (0)) (nI (199)) (by omega) ⟨0, by decide, rfl⟩ ⟨199, by decide, rfl⟩) ln_X7_148 (by omega) rfl rfl rfl rfl (Nat.le_of_ble_eq_true rfl) hl.1 ⟨Nat.le_of_ble_eq_true rfl, Nat.le_of_ble_eq_true rfl⟩ ⟨Nat.le_refl _, Nat.le_refl _⟩ dX7_readsOrder_196 (fun x2424 v2425 H locs h2423 HX2426 => ?_)
              obtain ⟨hx_x2424, m_x2424, o_x2424, ⟨ha_x2424, hc_x2424, hd_x2424, hm_x2424, ho_x2424⟩, gm_x2424, go_x2424, hf_x2424, hr_x2424⟩ := h2423.1
              have hxn1 := hx_x2424
              have hmn1 := hm_x2424
              refine lv_if_eq (tgt := 227) hx hb dX7_readsOrder_199 (by decide) (fun c_199 => ?_) (fun c_199 => ?_)
              · have hn1 := fa_ifn hxn1 c_199
                refine lv_iconst (v := nI (0)) hx hb dX7_readsOrder_227 (by decide) ?_
                refine lv_istore_n (lv' := [(1, .int (nI (0))), (0, .ref (fa_B G + (397)))]) hx hb dX7_readsOrder_228 rfl hl (by decide) rfl (fun ls hl => ?_)
                refine lv_goto (tgt := 259) hx hb dX7_readsOrder_229 (by decide) ?_
                refine lv_aload_n hx hb dX7_readsOrder_259 rfl (lv_at hl 1 rfl) ?_
                refine lv_dup hx hb dX7_readsOrder_260 rfl ?_
                refine fa_geti (k := 397) CX HX2426 fl_X7_141 (by omega) rfl rfl dX7_readsOrder_261 ?_
                rw [show v2425 397 11 = nI (no) from (go_x2424.trans (congrArg nI ho_x2424.e))]
                refine lv_iload_n hx hb dX7_readsOrder_264 rfl (lv_at hl 0 rfl) ?_
                refine lv_if_eq (tgt := 272) hx hb dX7_readsOrder_265 (by decide) (fun c_265 => ?_) (fun c_265 => ?_)
                · refine lv_iconst (v := nI (0)) hx hb dX7_readsOrder_272 (by decide) ?_
                  refine fa_iaddN hx hb dX7_readsOrder_273 ?_
                  refine fa_puti (k := 397) CX HX2426 fl_X7_141 (by omega) rfl rfl rfl rfl dX7_readsOrder_274 (fun H locs v2427 e2428 HX2429 => ?_)
                  refine lv_iload_n hx hb dX7_readsOrder_277 rfl (lv_at hl 0 rfl) ?_
                  exact RET _ _ _ _ _ _ _ HX2429 dX7_readsOrder_278 (by decide) (⟨rfl, ⟨⟨(by rw [((fa_ord_f hS102).trans (fa_two_f hn1))]; exact rfl), m_x2424, no + 0, ⟨by omega, by omega, by omega, fa_is.mk (by rw [((fa_ord_f hS102).trans (fa_two_f hn1))]; exact hmn1.e), fa_is.mk (by rw [((fa_ord_f hS102).trans (fa_two_f hn1))]; exact (show no + 0 = no by omega))⟩, (show v2427 397 12 = nI (m_x2424) from (by rw [e2428, fa_u_n _ _ (by omega)]; exact gm_x2424)), (show v2427 397 11 = nI (no + 0) from (by rw [e2428, fa_u_s])), (show fa_f3 v v2427 from (by rw [e2428]; exact fa_f3.w (fa_f3.tr (fa_f3.tr (fa_f3.tr (fa_f3.tr (fa_f3.tr (fa_f3.tr (by rw [e2360]; exact fa_f3.u (by rw [e2211]; exact fa_f3.u fa_f3.rf)) hf_x2363) hf_x2367) hf_x2371) hf_x2399) hf_x2403) hf_x2424) (by decide))), (by rw [((fa_ord_f hS102).trans (fa_two_f hn1))]; exact ⟨(fun i hi => (by show v2427 403 i = _; rw [e2428, fa_u_k _ _ (by decide), hr_x2424.2 i (by omega), hr_x2403, hr_x2399, hr_x2371, hr_x2367, hr_x2363]; exact hA i hi)), (by show v2427 403 (4 * no) = _; rw [e2428, fa_u_k _ _ (by decide), hr_x2424.2 (4 * no) (by omega), hr_x2403, hr_x2399, hr_x2371, hr_x2367, hr_x2363]; exact hB), (by show v2427 403 (4 * no + 1) = _; rw [e2428, fa_u_k _ _ (by decide), hr_x2424.2 (4 * no + 1) (by omega), hr_x2403, hr_x2399, hr_x2371, hr_x2367, hr_x2363]; exact hC), (fun z => absurd (show false = true from z) (by decide))⟩)⟩, (by rw [e2428]; exact fa_fr.u (fa_fr.tr (fa_fr.tr (fa_fr.tr (fa_fr.tr (fa_fr.tr (fa_fr.tr (by rw [e2360]; exact fa_fr.u (by rw [e2211]; exact fa_fr.u fa_fr.rf (by omega)) (by omega)) (fa_fr.wide h2362.2 (by omega) (by omega))) (fa_fr.wide h2366.2 (by omega) (by omega))) (fa_fr.wide h2370.2 (by omega) (by omega))) (fa_fr.wide h2398.2 (by omega) (by omega))) (fa_fr.wide h2402.2 (by omega) (by omega))) (fa_fr.wide h2423.2 (by omega) (by omega))) (by omega))⟩⟩)
                · exact absurd (by try decide) c_265
              · have hn1 := fa_ift hxn1 c_199
                refine lv_aload_n hx hb dX7_readsOrder_202 rfl (lv_at hl 0 rfl) ?_
                refine lv_bipush (v := nI (44)) hx hb dX7_readsOrder_203 (by decide) ?_
                refine fa_callViu (As := [.int (nI (44))]) (rest := []) CX HX2426 (r_accepts l G n hn v2425 r hM (n9) (m_x2424) (no) (by omega) (by omega) (by omega) ((hf_x2424.2 9 (by decide) (by decide)).trans ((hf_x2403.2 9 (by decide) (by decide)).trans ((hf_x2399.2 9 (by decide) (by decide)).trans ((hf_x2371.2 9 (by decide) (by decide)).trans ((hf_x2367.2 9 (by decide) (by decide)).trans ((hf_x2363.2 9 (by decide) (by decide)).trans (by rw [e2360, fa_u_n _ _ (by omega)]; exact (by rw [e2211, fa_u_n _ _ (by omega)]; exact g9)))))))) gm_x2424 (go_x2424.trans (congrArg nI ho_x2424.e)) t ((h2423.2 405 (by omega)).trans ((h2402.2 405 (by omega)).trans ((h2398.2 405 (by omega)).trans ((h2370.2 405 (by omega)).trans ((h2366.2 405 (by omega)).trans ((h2362.2 405 (by omega)).trans (((congrFun e2360 405).trans (fa_u_k _ _ (by decide))).trans (((congrFun e2211 405).trans (fa_u_k _ _ (by decide))).trans h5)))))))) (nI (44)) (by decide)) ln_X7_144 (by omega) rfl rfl rfl rfl (Nat.le_of_ble_eq_true rfl) hl.1 ⟨Nat.le_of_ble_eq_true rfl, Nat.le_of_ble_eq_true rfl⟩ ⟨Nat.le_refl _, Nat.le_refl _⟩ dX7_readsOrder_205 (fun x2431 v2432 H locs h2430 HX2433 => ?_)
                obtain ⟨hx_x2431, m_x2431, o_x2431, ⟨ha_x2431, hc_x2431, hd_x2431, hm_x2431, ho_x2431⟩, gm_x2431, go_x2431, hf_x2431, hr_x2431⟩ := h2430.1
                have hxc := hx_x2431
                have hmc := hm_x2431
                refine lv_if_eq (tgt := 227) hx hb dX7_readsOrder_208 (by decide) (fun c_208 => ?_) (fun c_208 => ?_)
                · have hcm := fa_ifn hxc c_208
                  have hpc := hmc.e.trans (fa_acc_f hcm)
                  refine lv_iconst (v := nI (0)) hx hb dX7_readsOrder_227 (by decide) ?_
                  refine lv_istore_n (lv' := [(1, .int (nI (0))), (0, .ref (fa_B G + (397)))]) hx hb dX7_readsOrder_228 rfl hl (by decide) rfl (fun ls hl => ?_)
                  refine lv_goto (tgt := 259) hx hb dX7_readsOrder_229 (by decide) ?_
                  refine lv_aload_n hx hb dX7_readsOrder_259 rfl (lv_at hl 1 rfl) ?_
                  refine lv_dup hx hb dX7_readsOrder_260 rfl ?_
                  refine fa_geti (k := 397) CX HX2433 fl_X7_141 (by omega) rfl rfl dX7_readsOrder_261 ?_
                  rw [show v2432 397 11 = nI (no) from (go_x2431.trans (congrArg nI ho_x2431.e))]
                  refine lv_iload_n hx hb dX7_readsOrder_264 rfl (lv_at hl 0 rfl) ?_
                  refine lv_if_eq (tgt := 272) hx hb dX7_readsOrder_265 (by decide) (fun c_265 => ?_) (fun c_265 => ?_)
                  · refine lv_iconst (v := nI (0)) hx hb dX7_readsOrder_272 (by decide) ?_
                    refine fa_iaddN hx hb dX7_readsOrder_273 ?_
                    refine fa_puti (k := 397) CX HX2433 fl_X7_141 (by omega) rfl rfl rfl rfl dX7_readsOrder_274 (fun H locs v2434 e2435 HX2436 => ?_)
                    refine lv_iload_n hx hb dX7_readsOrder_277 rfl (lv_at hl 0 rfl) ?_
                    exact RET _ _ _ _ _ _ _ HX2436 dX7_readsOrder_278 (by decide) (⟨rfl, ⟨⟨(by rw [((fa_ord_f hS102).trans (fa_two_c hn1 hmn1.e hcm))]; exact rfl), m_x2424, no + 0, ⟨by omega, by omega, by omega, fa_is.mk (by rw [((fa_ord_f hS102).trans (fa_two_c hn1 hmn1.e hcm))]), fa_is.mk (by rw [((fa_ord_f hS102).trans (fa_two_c hn1 hmn1.e hcm))]; exact (show no + 0 = no by omega))⟩, (show v2434 397 12 = nI (m_x2424) from (by rw [e2435, fa_u_n _ _ (by omega)]; exact ((gm_x2431).trans (congrArg nI hpc)))), (show v2434 397 11 = nI (no + 0) from (by rw [e2435, fa_u_s])), (show fa_f3 v v2434 from (by rw [e2435]; exact fa_f3.w (fa_f3.tr (fa_f3.tr (fa_f3.tr (fa_f3.tr (fa_f3.tr (fa_f3.tr (fa_f3.tr (by rw [e2360]; exact fa_f3.u (by rw [e2211]; exact fa_f3.u fa_f3.rf)) hf_x2363) hf_x2367) hf_x2371) hf_x2399) hf_x2403) hf_x2424) hf_x2431) (by decide))), (by rw [((fa_ord_f hS102).trans (fa_two_c hn1 hmn1.e hcm))]; exact ⟨(fun i hi => (by show v2434 403 i = _; rw [e2435, fa_u_k _ _ (by decide), hr_x2431, hr_x2424.2 i (by omega), hr_x2403, hr_x2399, hr_x2371, hr_x2367, hr_x2363]; exact hA i hi)), (by show v2434 403 (4 * no) = _; rw [e2435, fa_u_k _ _ (by decide), hr_x2431, hr_x2424.2 (4 * no) (by omega), hr_x2403, hr_x2399, hr_x2371, hr_x2367, hr_x2363]; exact hB), (by show v2434 403 (4 * no + 1) = _; rw [e2435, fa_u_k _ _ (by decide), hr_x2431, hr_x2424.2 (4 * no + 1) (by omega), hr_x2403, hr_x2399, hr_x2371, hr_x2367, hr_x2363]; exact hC), (fun z => absurd (show false = true from z) (by decide))⟩)⟩, (by rw [e2435]; exact fa_fr.u (fa_fr.tr (fa_fr.tr (fa_fr.tr (fa_fr.tr (fa_fr.tr (fa_fr.tr (fa_fr.tr (by rw [e2360]; exact fa_fr.u (by rw [e2211]; exact fa_fr.u fa_fr.rf (by omega)) (by omega)) (fa_fr.wide h2362.2 (by omega) (by omega))) (fa_fr.wide h2366.2 (by omega) (by omega))) (fa_fr.wide h2370.2 (by omega) (by omega))) (fa_fr.wide h2398.2 (by omega) (by omega))) (fa_fr.wide h2402.2 (by omega) (by omega))) (fa_fr.wide h2423.2 (by omega) (by omega))) (fa_fr.wide h2430.2 (by omega) (by omega))) (by omega))⟩⟩)
                  · exact absurd (by try decide) c_265
                · have hcm := fa_ift hxc c_208
                  have hpc := hmc.e.trans (fa_acc_t hcm)
                  refine lv_aload_n hx hb dX7_readsOrder_211 rfl (lv_at hl 0 rfl) ?_
                  refine lv_iconst (v := nI (3)) hx hb dX7_readsOrder_212 (by decide) ?_
                  refine lv_iconst (v := nI (0)) hx hb dX7_readsOrder_213 (by decide) ?_
                  refine lv_sipush (v := nI (199)) hx hb dX7_readsOrder_214 (by decide) ?_
                  refine fa_callViu (As := [.int (nI (3)), .int (nI (0)), .int (nI (199))]) (rest := []) CX HX2433 (r_number l G n hn v2432 r hM (n9) (m_x2424 + 1) (no) (by omega) (by omega) (by omega) ((hf_x2431.2 9 (by decide) (by decide)).trans ((hf_x2424.2 9 (by decide) (by decide)).trans ((hf_x2403.2 9 (by decide) (by decide)).trans ((hf_x2399.2 9 (by decide) (by decide)).trans ((hf_x2371.2 9 (by decide) (by decide)).trans ((hf_x2367.2 9 (by decide) (by decide)).trans ((hf_x2363.2 9 (by decide) (by decide)).trans (by rw [e2360, fa_u_n _ _ (by omega)]; exact (by rw [e2211, fa_u_n _ _ (by omega)]; exact g9))))))))) ((gm_x2431).trans (congrArg nI hpc)) (go_x2431.trans (congrArg nI ho_x2431.e)) t ((h2430.2 405 (by omega)).trans ((h2423.2 405 (by omega)).trans ((h2402.2 405 (by omega)).trans ((h2398.2 405 (by omega)).trans ((h2370.2 405 (by omega)).trans ((h2366.2 405 (by omega)).trans ((h2362.2 405 (by omega)).trans (((congrFun e2360 405).trans (fa_u_k _ _ (by decide))).trans (((congrFun e2211 405).trans (fa_u_k _ _ (by decide))).trans h5))))))))) (3) (nI (0)) (nI (199)) (by omega) ⟨0, by decide, rfl⟩ ⟨199, by decide, rfl⟩) ln_X7_148 (by omega) rfl rfl rfl rfl (Nat.le_of_ble_eq_true rfl) hl.1 ⟨Nat.le_of_ble_eq_true rfl, Nat.le_of_ble_eq_true rfl⟩ ⟨Nat.le_refl _, Nat.le_refl _⟩ dX7_readsOrder_217 (fun x2438 v2439 H locs h2437 HX2440 => ?_)
                  obtain ⟨hx_x2438, m_x2438, o_x2438, ⟨ha_x2438, hc_x2438, hd_x2438, hm_x2438, ho_x2438⟩, gm_x2438, go_x2438, hf_x2438, hr_x2438⟩ := h2437.1
                  have hxn2 := hx_x2438
                  have hmn2 := hm_x2438
                  refine lv_if_eq (tgt := 227) hx hb dX7_readsOrder_220 (by decide) (fun c_220 => ?_) (fun c_220 => ?_)
                  · have hn2 := fa_ifn hxn2 c_220
                    refine lv_iconst (v := nI (0)) hx hb dX7_readsOrder_227 (by decide) ?_
                    refine lv_istore_n (lv' := [(1, .int (nI (0))), (0, .ref (fa_B G + (397)))]) hx hb dX7_readsOrder_228 rfl hl (by decide) rfl (fun ls hl => ?_)
                    refine lv_goto (tgt := 259) hx hb dX7_readsOrder_229 (by decide) ?_
                    refine lv_aload_n hx hb dX7_readsOrder_259 rfl (lv_at hl 1 rfl) ?_
                    refine lv_dup hx hb dX7_readsOrder_260 rfl ?_
                    refine fa_geti (k := 397) CX HX2440 fl_X7_141 (by omega) rfl rfl dX7_readsOrder_261 ?_
                    rw [show v2439 397 11 = nI (no) from (go_x2438.trans (congrArg nI ho_x2438.e))]
                    refine lv_iload_n hx hb dX7_readsOrder_264 rfl (lv_at hl 0 rfl) ?_
                    refine lv_if_eq (tgt := 272) hx hb dX7_readsOrder_265 (by decide) (fun c_265 => ?_) (fun c_265 => ?_)
                    · refine lv_iconst (v := nI (0)) hx hb dX7_readsOrder_272 (by decide) ?_
                      refine fa_iaddN hx hb dX7_readsOrder_273 ?_
                      refine fa_puti (k := 397) CX HX2440 fl_X7_141 (by omega) rfl rfl rfl rfl dX7_readsOrder_274 (fun H locs v2441 e2442 HX2443 => ?_)
                      refine lv_iload_n hx hb dX7_readsOrder_277 rfl (lv_at hl 0 rfl) ?_
                      exact RET _ _ _ _ _ _ _ HX2443 dX7_readsOrder_278 (by decide) (⟨rfl, ⟨⟨(by rw [((fa_ord_f hS102).trans (fa_two_n hn1 hmn1.e hcm hn2))]; exact rfl), m_x2438, no + 0, ⟨by omega, by omega, by omega, fa_is.mk (by rw [((fa_ord_f hS102).trans (fa_two_n hn1 hmn1.e hcm hn2))]; exact hmn2.e), fa_is.mk (by rw [((fa_ord_f hS102).trans (fa_two_n hn1 hmn1.e hcm hn2))]; exact (show no + 0 = no by omega))⟩, (show v2441 397 12 = nI (m_x2438) from (by rw [e2442, fa_u_n _ _ (by omega)]; exact gm_x2438)), (show v2441 397 11 = nI (no + 0) from (by rw [e2442, fa_u_s])), (show fa_f3 v v2441 from (by rw [e2442]; exact fa_f3.w (fa_f3.tr (fa_f3.tr (fa_f3.tr (fa_f3.tr (fa_f3.tr (fa_f3.tr (fa_f3.tr (fa_f3.tr (by rw [e2360]; exact fa_f3.u (by rw [e2211]; exact fa_f3.u fa_f3.rf)) hf_x2363) hf_x2367) hf_x2371) hf_x2399) hf_x2403) hf_x2424) hf_x2431) hf_x2438) (by decide))), (by rw [((fa_ord_f hS102).trans (fa_two_n hn1 hmn1.e hcm hn2))]; exact ⟨(fun i hi => (by show v2441 403 i = _; rw [e2442, fa_u_k _ _ (by decide), hr_x2438.2 i (by omega), hr_x2431, hr_x2424.2 i (by omega), hr_x2403, hr_x2399, hr_x2371, hr_x2367, hr_x2363]; exact hA i hi)), (by show v2441 403 (4 * no) = _; rw [e2442, fa_u_k _ _ (by decide), hr_x2438.2 (4 * no) (by omega), hr_x2431, hr_x2424.2 (4 * no) (by omega), hr_x2403, hr_x2399, hr_x2371, hr_x2367, hr_x2363]; exact hB), (by show v2441 403 (4 * no + 1) = _; rw [e2442, fa_u_k _ _ (by decide), hr_x2438.2 (4 * no + 1) (by omega), hr_x2431, hr_x2424.2 (4 * no + 1) (by omega), hr_x2403, hr_x2399, hr_x2371, hr_x2367, hr_x2363]; exact hC), (fun z => absurd (show false = true from z) (by decide))⟩)⟩, (by rw [e2442]; exact fa_fr.u (fa_fr.tr (fa_fr.tr (fa_fr.tr (fa_fr.tr (fa_fr.tr (fa_fr.tr (fa_fr.tr (fa_fr.tr (by rw [e2360]; exact fa_fr.u (by rw [e2211]; exact fa_fr.u fa_fr.rf (by omega)) (by omega)) (fa_fr.wide h2362.2 (by omega) (by omega))) (fa_fr.wide h2366.2 (by omega) (by omega))) (fa_fr.wide h2370.2 (by omega) (by omega))) (fa_fr.wide h2398.2 (by omega) (by omega))) (fa_fr.wide h2402.2 (by omega) (by omega))) (fa_fr.wide h2423.2 (by omega) (by omega))) (fa_fr.wide h2430.2 (by omega) (by omega))) (fa_fr.wide h2437.2 (by omega) (by omega))) (by omega))⟩⟩)
                    · exact absurd (by try decide) c_265
                  · have hn2 := fa_ift hxn2 c_220
                    refine lv_iconst (v := nI (1)) hx hb dX7_readsOrder_223 (by decide) ?_
                    refine lv_goto (tgt := 228) hx hb dX7_readsOrder_224 (by decide) ?_
                    refine lv_istore_n (lv' := [(1, .int (nI (1))), (0, .ref (fa_B G + (397)))]) hx hb dX7_readsOrder_228 rfl hl (by decide) rfl (fun ls hl => ?_)
                    refine lv_goto (tgt := 259) hx hb dX7_readsOrder_229 (by decide) ?_
                    refine lv_aload_n hx hb dX7_readsOrder_259 rfl (lv_at hl 1 rfl) ?_
                    refine lv_dup hx hb dX7_readsOrder_260 rfl ?_
                    refine fa_geti (k := 397) CX HX2440 fl_X7_141 (by omega) rfl rfl dX7_readsOrder_261 ?_
                    rw [show v2439 397 11 = nI (no) from (go_x2438.trans (congrArg nI ho_x2438.e))]
                    refine lv_iload_n hx hb dX7_readsOrder_264 rfl (lv_at hl 0 rfl) ?_
                    refine lv_if_eq (tgt := 272) hx hb dX7_readsOrder_265 (by decide) (fun c_265 => ?_) (fun c_265 => ?_)
                    · exact absurd c_265 (by try decide)
                    · refine lv_iconst (v := nI (1)) hx hb dX7_readsOrder_268 (by decide) ?_
                      refine lv_goto (tgt := 273) hx hb dX7_readsOrder_269 (by decide) ?_
                      refine fa_iaddN hx hb dX7_readsOrder_273 ?_
                      refine fa_puti (k := 397) CX HX2440 fl_X7_141 (by omega) rfl rfl rfl rfl dX7_readsOrder_274 (fun H locs v2444 e2445 HX2446 => ?_)
                      refine lv_iload_n hx hb dX7_readsOrder_277 rfl (lv_at hl 0 rfl) ?_
                      exact RET _ _ _ _ _ _ _ HX2446 dX7_readsOrder_278 (by decide) (⟨rfl, ⟨⟨(by rw [((fa_ord_f hS102).trans (fa_two_y hn1 hmn1.e hcm hn2))]; exact rfl), m_x2438, no + 1, ⟨by omega, by omega, (by have hfx := (show na + 2 ≤ m_x2438 from by have z := (fa_ord_le (t := t) hna).2.2; rw [((fa_ord_f hS102).trans (fa_two_y hn1 hmn1.e hcm hn2))] at z; rw [hmn2.e]; exact z rfl); omega), fa_is.mk (by rw [((fa_ord_f hS102).trans (fa_two_y hn1 hmn1.e hcm hn2))]; exact hmn2.e), fa_is.mk (by rw [((fa_ord_f hS102).trans (fa_two_y hn1 hmn1.e hcm hn2))]; exact (show no + 1 = no + 1 by omega))⟩, (show v2444 397 12 = nI (m_x2438) from (by rw [e2445, fa_u_n _ _ (by omega)]; exact gm_x2438)), (show v2444 397 11 = nI (no + 1) from (by rw [e2445, fa_u_s])), (show fa_f3 v v2444 from (by rw [e2445]; exact fa_f3.w (fa_f3.tr (fa_f3.tr (fa_f3.tr (fa_f3.tr (fa_f3.tr (fa_f3.tr (fa_f3.tr (fa_f3.tr (by rw [e2360]; exact fa_f3.u (by rw [e2211]; exact fa_f3.u fa_f3.rf)) hf_x2363) hf_x2367) hf_x2371) hf_x2399) hf_x2403) hf_x2424) hf_x2431) hf_x2438) (by decide))), (by rw [((fa_ord_f hS102).trans (fa_two_y hn1 hmn1.e hcm hn2))]; exact ⟨(fun i hi => (by show v2444 403 i = _; rw [e2445, fa_u_k _ _ (by decide), hr_x2438.2 i (by omega), hr_x2431, hr_x2424.2 i (by omega), hr_x2403, hr_x2399, hr_x2371, hr_x2367, hr_x2363]; exact hA i hi)), (by show v2444 403 (4 * no) = _; rw [e2445, fa_u_k _ _ (by decide), hr_x2438.2 (4 * no) (by omega), hr_x2431, hr_x2424.2 (4 * no) (by omega), hr_x2403, hr_x2399, hr_x2371, hr_x2367, hr_x2363]; exact hB), (by show v2444 403 (4 * no + 1) = _; rw [e2445, fa_u_k _ _ (by decide), hr_x2438.2 (4 * no + 1) (by omega), hr_x2431, hr_x2424.2 (4 * no + 1) (by omega), hr_x2403, hr_x2399, hr_x2371, hr_x2367, hr_x2363]; exact hC), (fun _ => ⟨(by show v2444 403 (4 * no + 2) = _; rw [e2445, fa_u_k _ _ (by decide), hr_x2438.2 (4 * no + 2) (by omega), hr_x2431]; exact hr_x2424.1 hn1), (fun _ _ => (by show v2444 403 (4 * no + 3) = _; rw [e2445, fa_u_k _ _ (by decide)]; exact hr_x2438.1 hn2))⟩)⟩)⟩, (by rw [e2445]; exact fa_fr.u (fa_fr.tr (fa_fr.tr (fa_fr.tr (fa_fr.tr (fa_fr.tr (fa_fr.tr (fa_fr.tr (fa_fr.tr (by rw [e2360]; exact fa_fr.u (by rw [e2211]; exact fa_fr.u fa_fr.rf (by omega)) (by omega)) (fa_fr.wide h2362.2 (by omega) (by omega))) (fa_fr.wide h2366.2 (by omega) (by omega))) (fa_fr.wide h2370.2 (by omega) (by omega))) (fa_fr.wide h2398.2 (by omega) (by omega))) (fa_fr.wide h2402.2 (by omega) (by omega))) (fa_fr.wide h2423.2 (by omega) (by omega))) (fa_fr.wide h2430.2 (by omega) (by omega))) (fa_fr.wide h2437.2 (by omega) (by omega))) (by omega))⟩⟩)
          · have hS108 : fa_sg t n9 na = (108 : Int32) := fa_ift hxa c_137
            have hp108 := hma.e.trans (fa_acc_t hS108)
            have hlt : na < n9 := fa_sg_nz hS108 (by decide)
            clear ha_x2399 hc_x2399 hd_x2399
            refine lv_aload_n hx hb dX7_readsOrder_140 rfl (lv_at hl 0 rfl) ?_
            refine lv_iconst (v := nI (2)) hx hb dX7_readsOrder_141 (by decide) ?_
            refine lv_iconst (v := nI (0)) hx hb dX7_readsOrder_142 (by decide) ?_
            refine lv_bipush (v := nI (7)) hx hb dX7_readsOrder_143 (by decide) ?_
            refine fa_callViu (As := [.int (nI (2)), .int (nI (0)), .int (nI (7))]) (rest := []) CX HX2401 (r_number l G n hn v2400 r hM (n9) (na + 1) (no) (by omega) (by omega) (by omega) ((hf_x2399.2 9 (by decide) (by decide)).trans ((hf_x2371.2 9 (by decide) (by decide)).trans ((hf_x2367.2 9 (by decide) (by decide)).trans ((hf_x2363.2 9 (by decide) (by decide)).trans (by rw [e2360, fa_u_n _ _ (by omega)]; exact (by rw [e2211, fa_u_n _ _ (by omega)]; exact g9)))))) ((gm_x2399).trans (congrArg nI hp108)) (go_x2399.trans (congrArg nI ho_x2399.e)) t ((h2398.2 405 (by omega)).trans ((h2370.2 405 (by omega)).trans ((h2366.2 405 (by omega)).trans ((h2362.2 405 (by omega)).trans (((congrFun e2360 405).trans (fa_u_k _ _ (by decide))).trans (((congrFun e2211 405).trans (fa_u_k _ _ (by decide))).trans h5)))))) (2) (nI (0)) (nI (7)) (by omega) ⟨0, by decide, rfl⟩ ⟨7, by decide, rfl⟩) ln_X7_148 (by omega) rfl rfl rfl rfl (Nat.le_of_ble_eq_true rfl) hl.1 ⟨Nat.le_of_ble_eq_true rfl, Nat.le_of_ble_eq_true rfl⟩ ⟨Nat.le_refl _, Nat.le_refl _⟩ dX7_readsOrder_145 (fun x2448 v2449 H locs h2447 HX2450 => ?_)
            obtain ⟨hx_x2448, m_x2448, o_x2448, ⟨ha_x2448, hc_x2448, hd_x2448, hm_x2448, ho_x2448⟩, gm_x2448, go_x2448, hf_x2448, hr_x2448⟩ := h2447.1
            have hxn1 := hx_x2448
            have hmn1 := hm_x2448
            refine lv_if_eq (tgt := 176) hx hb dX7_readsOrder_148 (by decide) (fun c_148 => ?_) (fun c_148 => ?_)
            · have hn1 := fa_ifn hxn1 c_148
              refine lv_iconst (v := nI (0)) hx hb dX7_readsOrder_176 (by decide) ?_
              refine lv_istore_n (lv' := [(1, .int (nI (0))), (0, .ref (fa_B G + (397)))]) hx hb dX7_readsOrder_177 rfl hl (by decide) rfl (fun ls hl => ?_)
              refine lv_goto (tgt := 259) hx hb dX7_readsOrder_178 (by decide) ?_
              refine lv_aload_n hx hb dX7_readsOrder_259 rfl (lv_at hl 1 rfl) ?_
              refine lv_dup hx hb dX7_readsOrder_260 rfl ?_
              refine fa_geti (k := 397) CX HX2450 fl_X7_141 (by omega) rfl rfl dX7_readsOrder_261 ?_
              rw [show v2449 397 11 = nI (no) from (go_x2448.trans (congrArg nI ho_x2448.e))]
              refine lv_iload_n hx hb dX7_readsOrder_264 rfl (lv_at hl 0 rfl) ?_
              refine lv_if_eq (tgt := 272) hx hb dX7_readsOrder_265 (by decide) (fun c_265 => ?_) (fun c_265 => ?_)
              · refine lv_iconst (v := nI (0)) hx hb dX7_readsOrder_272 (by decide) ?_
                refine fa_iaddN hx hb dX7_readsOrder_273 ?_
                refine fa_puti (k := 397) CX HX2450 fl_X7_141 (by omega) rfl rfl rfl rfl dX7_readsOrder_274 (fun H locs v2451 e2452 HX2453 => ?_)
                refine lv_iload_n hx hb dX7_readsOrder_277 rfl (lv_at hl 0 rfl) ?_
                exact RET _ _ _ _ _ _ _ HX2453 dX7_readsOrder_278 (by decide) (⟨rfl, ⟨⟨(by rw [((fa_ord_s (Or.inr hS108)).trans (fa_two_f hn1))]; exact rfl), m_x2448, no + 0, ⟨by omega, by omega, by omega, fa_is.mk (by rw [((fa_ord_s (Or.inr hS108)).trans (fa_two_f hn1))]; exact hmn1.e), fa_is.mk (by rw [((fa_ord_s (Or.inr hS108)).trans (fa_two_f hn1))]; exact (show no + 0 = no by omega))⟩, (show v2451 397 12 = nI (m_x2448) from (by rw [e2452, fa_u_n _ _ (by omega)]; exact gm_x2448)), (show v2451 397 11 = nI (no + 0) from (by rw [e2452, fa_u_s])), (show fa_f3 v v2451 from (by rw [e2452]; exact fa_f3.w (fa_f3.tr (fa_f3.tr (fa_f3.tr (fa_f3.tr (fa_f3.tr (by rw [e2360]; exact fa_f3.u (by rw [e2211]; exact fa_f3.u fa_f3.rf)) hf_x2363) hf_x2367) hf_x2371) hf_x2399) hf_x2448) (by decide))), (by rw [((fa_ord_s (Or.inr hS108)).trans (fa_two_f hn1))]; exact ⟨(fun i hi => (by show v2451 403 i = _; rw [e2452, fa_u_k _ _ (by decide), hr_x2448.2 i (by omega), hr_x2399, hr_x2371, hr_x2367, hr_x2363]; exact hA i hi)), (by show v2451 403 (4 * no) = _; rw [e2452, fa_u_k _ _ (by decide), hr_x2448.2 (4 * no) (by omega), hr_x2399, hr_x2371, hr_x2367, hr_x2363]; exact hB), (by show v2451 403 (4 * no + 1) = _; rw [e2452, fa_u_k _ _ (by decide), hr_x2448.2 (4 * no + 1) (by omega), hr_x2399, hr_x2371, hr_x2367, hr_x2363]; exact hC), (fun z => absurd (show false = true from z) (by decide))⟩)⟩, (by rw [e2452]; exact fa_fr.u (fa_fr.tr (fa_fr.tr (fa_fr.tr (fa_fr.tr (fa_fr.tr (by rw [e2360]; exact fa_fr.u (by rw [e2211]; exact fa_fr.u fa_fr.rf (by omega)) (by omega)) (fa_fr.wide h2362.2 (by omega) (by omega))) (fa_fr.wide h2366.2 (by omega) (by omega))) (fa_fr.wide h2370.2 (by omega) (by omega))) (fa_fr.wide h2398.2 (by omega) (by omega))) (fa_fr.wide h2447.2 (by omega) (by omega))) (by omega))⟩⟩)
              · exact absurd (by try decide) c_265
            · have hn1 := fa_ift hxn1 c_148
              refine lv_aload_n hx hb dX7_readsOrder_151 rfl (lv_at hl 0 rfl) ?_
              refine lv_bipush (v := nI (44)) hx hb dX7_readsOrder_152 (by decide) ?_
              refine fa_callViu (As := [.int (nI (44))]) (rest := []) CX HX2450 (r_accepts l G n hn v2449 r hM (n9) (m_x2448) (no) (by omega) (by omega) (by omega) ((hf_x2448.2 9 (by decide) (by decide)).trans ((hf_x2399.2 9 (by decide) (by decide)).trans ((hf_x2371.2 9 (by decide) (by decide)).trans ((hf_x2367.2 9 (by decide) (by decide)).trans ((hf_x2363.2 9 (by decide) (by decide)).trans (by rw [e2360, fa_u_n _ _ (by omega)]; exact (by rw [e2211, fa_u_n _ _ (by omega)]; exact g9))))))) gm_x2448 (go_x2448.trans (congrArg nI ho_x2448.e)) t ((h2447.2 405 (by omega)).trans ((h2398.2 405 (by omega)).trans ((h2370.2 405 (by omega)).trans ((h2366.2 405 (by omega)).trans ((h2362.2 405 (by omega)).trans (((congrFun e2360 405).trans (fa_u_k _ _ (by decide))).trans (((congrFun e2211 405).trans (fa_u_k _ _ (by decide))).trans h5))))))) (nI (44)) (by decide)) ln_X7_144 (by omega) rfl rfl rfl rfl (Nat.le_of_ble_eq_true rfl) hl.1 ⟨Nat.le_of_ble_eq_true rfl, Nat.le_of_ble_eq_true rfl⟩ ⟨Nat.le_refl _, Nat.le_refl _⟩ dX7_readsOrder_154 (fun x2455 v2456 H locs h2454 HX2457 => ?_)
              obtain ⟨hx_x2455, m_x2455, o_x2455, ⟨ha_x2455, hc_x2455, hd_x2455, hm_x2455, ho_x2455⟩, gm_x2455, go_x2455, hf_x2455, hr_x2455⟩ := h2454.1
              have hxc := hx_x2455
              have hmc := hm_x2455
              refine lv_if_eq (tgt := 176) hx hb dX7_readsOrder_157 (by decide) (fun c_157 => ?_) (fun c_157 => ?_)
              · have hcm := fa_ifn hxc c_157
                have hpc := hmc.e.trans (fa_acc_f hcm)
                refine lv_iconst (v := nI (0)) hx hb dX7_readsOrder_176 (by decide) ?_
                refine lv_istore_n (lv' := [(1, .int (nI (0))), (0, .ref (fa_B G + (397)))]) hx hb dX7_readsOrder_177 rfl hl (by decide) rfl (fun ls hl => ?_)
                refine lv_goto (tgt := 259) hx hb dX7_readsOrder_178 (by decide) ?_
                refine lv_aload_n hx hb dX7_readsOrder_259 rfl (lv_at hl 1 rfl) ?_
                refine lv_dup hx hb dX7_readsOrder_260 rfl ?_
                refine fa_geti (k := 397) CX HX2457 fl_X7_141 (by omega) rfl rfl dX7_readsOrder_261 ?_
                rw [show v2456 397 11 = nI (no) from (go_x2455.trans (congrArg nI ho_x2455.e))]
                refine lv_iload_n hx hb dX7_readsOrder_264 rfl (lv_at hl 0 rfl) ?_
                refine lv_if_eq (tgt := 272) hx hb dX7_readsOrder_265 (by decide) (fun c_265 => ?_) (fun c_265 => ?_)
                · refine lv_iconst (v := nI (0)) hx hb dX7_readsOrder_272 (by decide) ?_
                  refine fa_iaddN hx hb dX7_readsOrder_273 ?_
                  refine fa_puti (k := 397) CX HX2457 fl_X7_141 (by omega) rfl rfl rfl rfl dX7_readsOrder_274 (fun H locs v2458 e2459 HX2460 => ?_)
                  refine lv_iload_n hx hb dX7_readsOrder_277 rfl (lv_at hl 0 rfl) ?_
                  exact RET _ _ _ _ _ _ _ HX2460 dX7_readsOrder_278 (by decide) (⟨rfl, ⟨⟨(by rw [((fa_ord_s (Or.inr hS108)).trans (fa_two_c hn1 hmn1.e hcm))]; exact rfl), m_x2448, no + 0, ⟨by omega, by omega, by omega, fa_is.mk (by rw [((fa_ord_s (Or.inr hS108)).trans (fa_two_c hn1 hmn1.e hcm))]), fa_is.mk (by rw [((fa_ord_s (Or.inr hS108)).trans (fa_two_c hn1 hmn1.e hcm))]; exact (show no + 0 = no by omega))⟩, (show v2458 397 12 = nI (m_x2448) from (by rw [e2459, fa_u_n _ _ (by omega)]; exact ((gm_x2455).trans (congrArg nI hpc)))), (show v2458 397 11 = nI (no + 0) from (by rw [e2459, fa_u_s])), (show fa_f3 v v2458 from (by rw [e2459]; exact fa_f3.w (fa_f3.tr (fa_f3.tr (fa_f3.tr (fa_f3.tr (fa_f3.tr (fa_f3.tr (by rw [e2360]; exact fa_f3.u (by rw [e2211]; exact fa_f3.u fa_f3.rf)) hf_x2363) hf_x2367) hf_x2371) hf_x2399) hf_x2448) hf_x2455) (by decide))), (by rw [((fa_ord_s (Or.inr hS108)).trans (fa_two_c hn1 hmn1.e hcm))]; exact ⟨(fun i hi => (by show v2458 403 i = _; rw [e2459, fa_u_k _ _ (by decide), hr_x2455, hr_x2448.2 i (by omega), hr_x2399, hr_x2371, hr_x2367, hr_x2363]; exact hA i hi)), (by show v2458 403 (4 * no) = _; rw [e2459, fa_u_k _ _ (by decide), hr_x2455, hr_x2448.2 (4 * no) (by omega), hr_x2399, hr_x2371, hr_x2367, hr_x2363]; exact hB), (by show v2458 403 (4 * no + 1) = _; rw [e2459, fa_u_k _ _ (by decide), hr_x2455, hr_x2448.2 (4 * no + 1) (by omega), hr_x2399, hr_x2371, hr_x2367, hr_x2363]; exact hC), (fun z => absurd (show false = true from z) (by decide))⟩)⟩, (by rw [e2459]; exact fa_fr.u (fa_fr.tr (fa_fr.tr (fa_fr.tr (fa_fr.tr (fa_fr.tr (fa_fr.tr (by rw [e2360]; exact fa_fr.u (by rw [e2211]; exact fa_fr.u fa_fr.rf (by omega)) (by omega)) (fa_fr.wide h2362.2 (by omega) (by omega))) (fa_fr.wide h2366.2 (by omega) (by omega))) (fa_fr.wide h2370.2 (by omega) (by omega))) (fa_fr.wide h2398.2 (by omega) (by omega))) (fa_fr.wide h2447.2 (by omega) (by omega))) (fa_fr.wide h2454.2 (by omega) (by omega))) (by omega))⟩⟩)
                · exact absurd (by try decide) c_265
              · have hcm := fa_ift hxc c_157
                have hpc := hmc.e.trans (fa_acc_t hcm)
                refine lv_aload_n hx hb dX7_readsOrder_160 rfl (lv_at hl 0 rfl) ?_
                refine lv_iconst (v := nI (3)) hx hb dX7_readsOrder_161 (by decide) ?_
                refine lv_iconst (v := nI (0)) hx hb dX7_readsOrder_162 (by decide) ?_
                refine lv_sipush (v := nI (199)) hx hb dX7_readsOrder_163 (by decide) ?_
                refine fa_callViu (As := [.int (nI (3)), .int (nI (0)), .int (nI (199))]) (rest := []) CX HX2457 (r_number l G n hn v2456 r hM (n9) (m_x2448 + 1) (no) (by omega) (by omega) (by omega) ((hf_x2455.2 9 (by decide) (by decide)).trans ((hf_x2448.2 9 (by decide) (by decide)).trans ((hf_x2399.2 9 (by decide) (by decide)).trans ((hf_x2371.2 9 (by decide) (by decide)).trans ((hf_x2367.2 9 (by decide) (by decide)).trans ((hf_x2363.2 9 (by decide) (by decide)).trans (by rw [e2360, fa_u_n _ _ (by omega)]; exact (by rw [e2211, fa_u_n _ _ (by omega)]; exact g9)))))))) ((gm_x2455).trans (congrArg nI hpc)) (go_x2455.trans (congrArg nI ho_x2455.e)) t ((h2454.2 405 (by omega)).trans ((h2447.2 405 (by omega)).trans ((h2398.2 405 (by omega)).trans ((h2370.2 405 (by omega)).trans ((h2366.2 405 (by omega)).trans ((h2362.2 405 (by omega)).trans (((congrFun e2360 405).trans (fa_u_k _ _ (by decide))).trans (((congrFun e2211 405).trans (fa_u_k _ _ (by decide))).trans h5)))))))) (3) (nI (0)) (nI (199)) (by omega) ⟨0, by decide, rfl⟩ ⟨199, by decide, rfl⟩) ln_X7_148 (by omega) rfl rfl rfl rfl (Nat.le_of_ble_eq_true rfl) hl.1 ⟨Nat.le_of_ble_eq_true rfl, Nat.le_of_ble_eq_true rfl⟩ ⟨Nat.le_refl _, Nat.le_refl _⟩ dX7_readsOrder_166 (fun x2462 v2463 H locs h2461 HX2464 => ?_)
                obtain ⟨hx_x2462, m_x2462, o_x2462, ⟨ha_x2462, hc_x2462, hd_x2462, hm_x2462, ho_x2462⟩, gm_x2462, go_x2462, hf_x2462, hr_x2462⟩ := h2461.1
                have hxn2 := hx_x2462
                have hmn2 := hm_x2462
                refine lv_if_eq (tgt := 176) hx hb dX7_readsOrder_169 (by decide) (fun c_169 => ?_) (fun c_169 => ?_)
                · have hn2 := fa_ifn hxn2 c_169
                  refine lv_iconst (v := nI (0)) hx hb dX7_readsOrder_176 (by decide) ?_
                  refine lv_istore_n (lv' := [(1, .int (nI (0))), (0, .ref (fa_B G + (397)))]) hx hb dX7_readsOrder_177 rfl hl (by decide) rfl (fun ls hl => ?_)
                  refine lv_goto (tgt := 259) hx hb dX7_readsOrder_178 (by decide) ?_
                  refine lv_aload_n hx hb dX7_readsOrder_259 rfl (lv_at hl 1 rfl) ?_
                  refine lv_dup hx hb dX7_readsOrder_260 rfl ?_
                  refine fa_geti (k := 397) CX HX2464 fl_X7_141 (by omega) rfl rfl dX7_readsOrder_261 ?_
                  rw [show v2463 397 11 = nI (no) from (go_x2462.trans (congrArg nI ho_x2462.e))]
                  refine lv_iload_n hx hb dX7_readsOrder_264 rfl (lv_at hl 0 rfl) ?_
                  refine lv_if_eq (tgt := 272) hx hb dX7_readsOrder_265 (by decide) (fun c_265 => ?_) (fun c_265 => ?_)
                  · refine lv_iconst (v := nI (0)) hx hb dX7_readsOrder_272 (by decide) ?_
                    refine fa_iaddN hx hb dX7_readsOrder_273 ?_
                    refine fa_puti (k := 397) CX HX2464 fl_X7_141 (by omega) rfl rfl rfl rfl dX7_readsOrder_274 (fun H locs v2465 e2466 HX2467 => ?_)
                    refine lv_iload_n hx hb dX7_readsOrder_277 rfl (lv_at hl 0 rfl) ?_
                    exact RET _ _ _ _ _ _ _ HX2467 dX7_readsOrder_278 (by decide) (⟨rfl, ⟨⟨(by rw [((fa_ord_s (Or.inr hS108)).trans (fa_two_n hn1 hmn1.e hcm hn2))]; exact rfl), m_x2462, no + 0, ⟨by omega, by omega, by omega, fa_is.mk (by rw [((fa_ord_s (Or.inr hS108)).trans (fa_two_n hn1 hmn1.e hcm hn2))]; exact hmn2.e), fa_is.mk (by rw [((fa_ord_s (Or.inr hS108)).trans (fa_two_n hn1 hmn1.e hcm hn2))]; exact (show no + 0 = no by omega))⟩, (show v2465 397 12 = nI (m_x2462) from (by rw [e2466, fa_u_n _ _ (by omega)]; exact gm_x2462)), (show v2465 397 11 = nI (no + 0) from (by rw [e2466, fa_u_s])), (show fa_f3 v v2465 from (by rw [e2466]; exact fa_f3.w (fa_f3.tr (fa_f3.tr (fa_f3.tr (fa_f3.tr (fa_f3.tr (fa_f3.tr (fa_f3.tr (by rw [e2360]; exact fa_f3.u (by rw [e2211]; exact fa_f3.u fa_f3.rf)) hf_x2363) hf_x2367) hf_x2371) hf_x2399) hf_x2448) hf_x2455) hf_x2462) (by decide))), (by rw [((fa_ord_s (Or.inr hS108)).trans (fa_two_n hn1 hmn1.e hcm hn2))]; exact ⟨(fun i hi => (by show v2465 403 i = _; rw [e2466, fa_u_k _ _ (by decide), hr_x2462.2 i (by omega), hr_x2455, hr_x2448.2 i (by omega), hr_x2399, hr_x2371, hr_x2367, hr_x2363]; exact hA i hi)), (by show v2465 403 (4 * no) = _; rw [e2466, fa_u_k _ _ (by decide), hr_x2462.2 (4 * no) (by omega), hr_x2455, hr_x2448.2 (4 * no) (by omega), hr_x2399, hr_x2371, hr_x2367, hr_x2363]; exact hB), (by show v2465 403 (4 * no + 1) = _; rw [e2466, fa_u_k _ _ (by decide), hr_x2462.2 (4 * no + 1) (by omega), hr_x2455, hr_x2448.2 (4 * no + 1) (by omega), hr_x2399, hr_x2371, hr_x2367, hr_x2363]; exact hC), (fun z => absurd (show false = true from z) (by decide))⟩)⟩, (by rw [e2466]; exact fa_fr.u (fa_fr.tr (fa_fr.tr (fa_fr.tr (fa_fr.tr (fa_fr.tr (fa_fr.tr (fa_fr.tr (by rw [e2360]; exact fa_fr.u (by rw [e2211]; exact fa_fr.u fa_fr.rf (by omega)) (by omega)) (fa_fr.wide h2362.2 (by omega) (by omega))) (fa_fr.wide h2366.2 (by omega) (by omega))) (fa_fr.wide h2370.2 (by omega) (by omega))) (fa_fr.wide h2398.2 (by omega) (by omega))) (fa_fr.wide h2447.2 (by omega) (by omega))) (fa_fr.wide h2454.2 (by omega) (by omega))) (fa_fr.wide h2461.2 (by omega) (by omega))) (by omega))⟩⟩)
                  · exact absurd (by try decide) c_265
                · have hn2 := fa_ift hxn2 c_169
                  refine lv_iconst (v := nI (1)) hx hb dX7_readsOrder_172 (by decide) ?_
                  refine lv_goto (tgt := 177) hx hb dX7_readsOrder_173 (by decide) ?_
                  refine lv_istore_n (lv' := [(1, .int (nI (1))), (0, .ref (fa_B G + (397)))]) hx hb dX7_readsOrder_177 rfl hl (by decide) rfl (fun ls hl => ?_)
                  refine lv_goto (tgt := 259) hx hb dX7_readsOrder_178 (by decide) ?_
                  refine lv_aload_n hx hb dX7_readsOrder_259 rfl (lv_at hl 1 rfl) ?_
                  refine lv_dup hx hb dX7_readsOrder_260 rfl ?_
                  refine fa_geti (k := 397) CX HX2464 fl_X7_141 (by omega) rfl rfl dX7_readsOrder_261 ?_
                  rw [show v2463 397 11 = nI (no) from (go_x2462.trans (congrArg nI ho_x2462.e))]
                  refine lv_iload_n hx hb dX7_readsOrder_264 rfl (lv_at hl 0 rfl) ?_
                  refine lv_if_eq (tgt := 272) hx hb dX7_readsOrder_265 (by decide) (fun c_265 => ?_) (fun c_265 => ?_)
                  · exact absurd c_265 (by try decide)
                  · refine lv_iconst (v := nI (1)) hx hb dX7_readsOrder_268 (by decide) ?_
                    refine lv_goto (tgt := 273) hx hb dX7_readsOrder_269 (by decide) ?_
                    refine fa_iaddN hx hb dX7_readsOrder_273 ?_
                    refine fa_puti (k := 397) CX HX2464 fl_X7_141 (by omega) rfl rfl rfl rfl dX7_readsOrder_274 (fun H locs v2468 e2469 HX2470 => ?_)
                    refine lv_iload_n hx hb dX7_readsOrder_277 rfl (lv_at hl 0 rfl) ?_
                    exact RET _ _ _ _ _ _ _ HX2470 dX7_readsOrder_278 (by decide) (⟨rfl, ⟨⟨(by rw [((fa_ord_s (Or.inr hS108)).trans (fa_two_y hn1 hmn1.e hcm hn2))]; exact rfl), m_x2462, no + 1, ⟨by omega, by omega, (by have hfx := (show na + 2 ≤ m_x2462 from by have z := (fa_ord_le (t := t) hna).2.2; rw [((fa_ord_s (Or.inr hS108)).trans (fa_two_y hn1 hmn1.e hcm hn2))] at z; rw [hmn2.e]; exact z rfl); omega), fa_is.mk (by rw [((fa_ord_s (Or.inr hS108)).trans (fa_two_y hn1 hmn1.e hcm hn2))]; exact hmn2.e), fa_is.mk (by rw [((fa_ord_s (Or.inr hS108)).trans (fa_two_y hn1 hmn1.e hcm hn2))]; exact (show no + 1 = no + 1 by omega))⟩, (show v2468 397 12 = nI (m_x2462) from (by rw [e2469, fa_u_n _ _ (by omega)]; exact gm_x2462)), (show v2468 397 11 = nI (no + 1) from (by rw [e2469, fa_u_s])), (show fa_f3 v v2468 from (by rw [e2469]; exact fa_f3.w (fa_f3.tr (fa_f3.tr (fa_f3.tr (fa_f3.tr (fa_f3.tr (fa_f3.tr (fa_f3.tr (by rw [e2360]; exact fa_f3.u (by rw [e2211]; exact fa_f3.u fa_f3.rf)) hf_x2363) hf_x2367) hf_x2371) hf_x2399) hf_x2448) hf_x2455) hf_x2462) (by decide))), (by rw [((fa_ord_s (Or.inr hS108)).trans (fa_two_y hn1 hmn1.e hcm hn2))]; exact ⟨(fun i hi => (by show v2468 403 i = _; rw [e2469, fa_u_k _ _ (by decide), hr_x2462.2 i (by omega), hr_x2455, hr_x2448.2 i (by omega), hr_x2399, hr_x2371, hr_x2367, hr_x2363]; exact hA i hi)), (by show v2468 403 (4 * no) = _; rw [e2469, fa_u_k _ _ (by decide), hr_x2462.2 (4 * no) (by omega), hr_x2455, hr_x2448.2 (4 * no) (by omega), hr_x2399, hr_x2371, hr_x2367, hr_x2363]; exact hB), (by show v2468 403 (4 * no + 1) = _; rw [e2469, fa_u_k _ _ (by decide), hr_x2462.2 (4 * no + 1) (by omega), hr_x2455, hr_x2448.2 (4 * no + 1) (by omega), hr_x2399, hr_x2371, hr_x2367, hr_x2363]; exact hC), (fun _ => ⟨(by show v2468 403 (4 * no + 2) = _; rw [e2469, fa_u_k _ _ (by decide), hr_x2462.2 (4 * no + 2) (by omega), hr_x2455]; exact hr_x2448.1 hn1), (fun _ _ => (by show v2468 403 (4 * no + 3) = _; rw [e2469, fa_u_k _ _ (by decide)]; exact hr_x2462.1 hn2))⟩)⟩)⟩, (by rw [e2469]; exact fa_fr.u (fa_fr.tr (fa_fr.tr (fa_fr.tr (fa_fr.tr (fa_fr.tr (fa_fr.tr (fa_fr.tr (by rw [e2360]; exact fa_fr.u (by rw [e2211]; exact fa_fr.u fa_fr.rf (by omega)) (by omega)) (fa_fr.wide h2362.2 (by omega) (by omega))) (fa_fr.wide h2366.2 (by omega) (by omega))) (fa_fr.wide h2370.2 (by omega) (by omega))) (fa_fr.wide h2398.2 (by omega) (by omega))) (fa_fr.wide h2447.2 (by omega) (by omega))) (fa_fr.wide h2454.2 (by omega) (by omega))) (fa_fr.wide h2461.2 (by omega) (by omega))) (by omega))⟩⟩)
      · have hS97 : fa_sg t n9 na = (97 : Int32) := fa_ift hxa c_106
        have hp97 := hma.e.trans (fa_acc_t hS97)
        have hlt : na < n9 := fa_sg_nz hS97 (by decide)
        clear ha_x2367 hc_x2367 hd_x2367
        refine lv_aload_n hx hb dX7_readsOrder_109 rfl (lv_at hl 0 rfl) ?_
        refine lv_iconst (v := nI (2)) hx hb dX7_readsOrder_110 (by decide) ?_
        refine lv_iconst (v := nI (0)) hx hb dX7_readsOrder_111 (by decide) ?_
        refine lv_sipush (v := nI (199)) hx hb dX7_readsOrder_112 (by decide) ?_
        refine fa_callViu (As := [.int (nI (2)), .int (nI (0)), .int (nI (199))]) (rest := []) CX HX2369 (r_number l G n hn v2368 r hM (n9) (na + 1) (no) (by omega) (by omega) (by omega) ((hf_x2367.2 9 (by decide) (by decide)).trans ((hf_x2363.2 9 (by decide) (by decide)).trans (by rw [e2360, fa_u_n _ _ (by omega)]; exact (by rw [e2211, fa_u_n _ _ (by omega)]; exact g9)))) ((gm_x2367).trans (congrArg nI hp97)) (go_x2367.trans (congrArg nI ho_x2367.e)) t ((h2366.2 405 (by omega)).trans ((h2362.2 405 (by omega)).trans (((congrFun e2360 405).trans (fa_u_k _ _ (by decide))).trans (((congrFun e2211 405).trans (fa_u_k _ _ (by decide))).trans h5)))) (2) (nI (0)) (nI (199)) (by omega) ⟨0, by decide, rfl⟩ ⟨199, by decide, rfl⟩) ln_X7_148 (by omega) rfl rfl rfl rfl (Nat.le_of_ble_eq_true rfl) hl.1 ⟨Nat.le_of_ble_eq_true rfl, Nat.le_of_ble_eq_true rfl⟩ ⟨Nat.le_refl _, Nat.le_refl _⟩ dX7_readsOrder_115 (fun x2472 v2473 H locs h2471 HX2474 => ?_)
        obtain ⟨hx_x2472, m_x2472, o_x2472, ⟨ha_x2472, hc_x2472, hd_x2472, hm_x2472, ho_x2472⟩, gm_x2472, go_x2472, hf_x2472, hr_x2472⟩ := h2471.1
        have hxn1 := hx_x2472
        have hmn1 := hm_x2472
        refine lv_istore_n (lv' := [(1, .int (x2472)), (0, .ref (fa_B G + (397)))]) hx hb dX7_readsOrder_118 rfl hl (by decide) rfl (fun ls hl => ?_)
        refine lv_goto (tgt := 259) hx hb dX7_readsOrder_119 (by decide) ?_
        refine lv_aload_n hx hb dX7_readsOrder_259 rfl (lv_at hl 1 rfl) ?_
        refine lv_dup hx hb dX7_readsOrder_260 rfl ?_
        refine fa_geti (k := 397) CX HX2474 fl_X7_141 (by omega) rfl rfl dX7_readsOrder_261 ?_
        rw [show v2473 397 11 = nI (no) from (go_x2472.trans (congrArg nI ho_x2472.e))]
        refine lv_iload_n hx hb dX7_readsOrder_264 rfl (lv_at hl 0 rfl) ?_
        refine lv_if_eq (tgt := 272) hx hb dX7_readsOrder_265 (by decide) (fun c_265 => ?_) (fun c_265 => ?_)
        · have hn1 := fa_ifn hxn1 c_265
          refine lv_iconst (v := nI (0)) hx hb dX7_readsOrder_272 (by decide) ?_
          refine fa_iaddN hx hb dX7_readsOrder_273 ?_
          refine fa_puti (k := 397) CX HX2474 fl_X7_141 (by omega) rfl rfl rfl rfl dX7_readsOrder_274 (fun H locs v2475 e2476 HX2477 => ?_)
          refine lv_iload_n hx hb dX7_readsOrder_277 rfl (lv_at hl 0 rfl) ?_
          exact RET _ _ _ _ _ _ _ HX2477 dX7_readsOrder_278 (fa_if_nar hxn1) (⟨rfl, ⟨⟨(by rw [((fa_ord_a hS97).trans (fa_one_f hn1))]; exact (hxn1.trans (if_neg hn1))), m_x2472, no + 0, ⟨by omega, by omega, by omega, fa_is.mk (by rw [((fa_ord_a hS97).trans (fa_one_f hn1))]; exact hmn1.e), fa_is.mk (by rw [((fa_ord_a hS97).trans (fa_one_f hn1))]; exact (show no + 0 = no by omega))⟩, (show v2475 397 12 = nI (m_x2472) from (by rw [e2476, fa_u_n _ _ (by omega)]; exact gm_x2472)), (show v2475 397 11 = nI (no + 0) from (by rw [e2476, fa_u_s])), (show fa_f3 v v2475 from (by rw [e2476]; exact fa_f3.w (fa_f3.tr (fa_f3.tr (fa_f3.tr (by rw [e2360]; exact fa_f3.u (by rw [e2211]; exact fa_f3.u fa_f3.rf)) hf_x2363) hf_x2367) hf_x2472) (by decide))), (by rw [((fa_ord_a hS97).trans (fa_one_f hn1))]; exact ⟨(fun i hi => (by show v2475 403 i = _; rw [e2476, fa_u_k _ _ (by decide), hr_x2472.2 i (by omega), hr_x2367, hr_x2363]; exact hA i hi)), (by show v2475 403 (4 * no) = _; rw [e2476, fa_u_k _ _ (by decide), hr_x2472.2 (4 * no) (by omega), hr_x2367, hr_x2363]; exact hB), (by show v2475 403 (4 * no + 1) = _; rw [e2476, fa_u_k _ _ (by decide), hr_x2472.2 (4 * no + 1) (by omega), hr_x2367, hr_x2363]; exact hC), (fun z => absurd (show false = true from z) (by decide))⟩)⟩, (by rw [e2476]; exact fa_fr.u (fa_fr.tr (fa_fr.tr (fa_fr.tr (by rw [e2360]; exact fa_fr.u (by rw [e2211]; exact fa_fr.u fa_fr.rf (by omega)) (by omega)) (fa_fr.wide h2362.2 (by omega) (by omega))) (fa_fr.wide h2366.2 (by omega) (by omega))) (fa_fr.wide h2471.2 (by omega) (by omega))) (by omega))⟩⟩)
        · have hn1 := fa_ift hxn1 c_265
          refine lv_iconst (v := nI (1)) hx hb dX7_readsOrder_268 (by decide) ?_
          refine lv_goto (tgt := 273) hx hb dX7_readsOrder_269 (by decide) ?_
          refine fa_iaddN hx hb dX7_readsOrder_273 ?_
          refine fa_puti (k := 397) CX HX2474 fl_X7_141 (by omega) rfl rfl rfl rfl dX7_readsOrder_274 (fun H locs v2478 e2479 HX2480 => ?_)
          refine lv_iload_n hx hb dX7_readsOrder_277 rfl (lv_at hl 0 rfl) ?_
          exact RET _ _ _ _ _ _ _ HX2480 dX7_readsOrder_278 (fa_if_nar hxn1) (⟨rfl, ⟨⟨(by rw [((fa_ord_a hS97).trans (fa_one_t hn1))]; exact (hxn1.trans (if_pos hn1))), m_x2472, no + 1, ⟨by omega, by omega, (by have hfx := (show na + 2 ≤ m_x2472 from by have z := (fa_ord_le (t := t) hna).2.2; rw [((fa_ord_a hS97).trans (fa_one_t hn1))] at z; rw [hmn1.e]; exact z rfl); omega), fa_is.mk (by rw [((fa_ord_a hS97).trans (fa_one_t hn1))]; exact hmn1.e), fa_is.mk (by rw [((fa_ord_a hS97).trans (fa_one_t hn1))]; exact (show no + 1 = no + 1 by omega))⟩, (show v2478 397 12 = nI (m_x2472) from (by rw [e2479, fa_u_n _ _ (by omega)]; exact gm_x2472)), (show v2478 397 11 = nI (no + 1) from (by rw [e2479, fa_u_s])), (show fa_f3 v v2478 from (by rw [e2479]; exact fa_f3.w (fa_f3.tr (fa_f3.tr (fa_f3.tr (by rw [e2360]; exact fa_f3.u (by rw [e2211]; exact fa_f3.u fa_f3.rf)) hf_x2363) hf_x2367) hf_x2472) (by decide))), (by rw [((fa_ord_a hS97).trans (fa_one_t hn1))]; exact ⟨(fun i hi => (by show v2478 403 i = _; rw [e2479, fa_u_k _ _ (by decide), hr_x2472.2 i (by omega), hr_x2367, hr_x2363]; exact hA i hi)), (by show v2478 403 (4 * no) = _; rw [e2479, fa_u_k _ _ (by decide), hr_x2472.2 (4 * no) (by omega), hr_x2367, hr_x2363]; exact hB), (by show v2478 403 (4 * no + 1) = _; rw [e2479, fa_u_k _ _ (by decide), hr_x2472.2 (4 * no + 1) (by omega), hr_x2367, hr_x2363]; exact hC), (fun _ => ⟨(by show v2478 403 (4 * no + 2) = _; rw [e2479, fa_u_k _ _ (by decide)]; exact hr_x2472.1 hn1), (fun y1 y2 => by first | exact absurd hS97 y1 | exact absurd hS100 y2)⟩)⟩)⟩, (by rw [e2479]; exact fa_fr.u (fa_fr.tr (fa_fr.tr (fa_fr.tr (by rw [e2360]; exact fa_fr.u (by rw [e2211]; exact fa_fr.u fa_fr.rf (by omega)) (by omega)) (fa_fr.wide h2362.2 (by omega) (by omega))) (fa_fr.wide h2366.2 (by omega) (by omega))) (fa_fr.wide h2471.2 (by omega) (by omega))) (by omega))⟩⟩)
    · have hS110 : fa_sg t n9 na = (110 : Int32) := fa_ift hxa c_58
      have hp110 := hma.e.trans (fa_acc_t hS110)
      have hlt : na < n9 := fa_sg_nz hS110 (by decide)
      clear ha_x2363 hc_x2363 hd_x2363
      refine lv_aload_n hx hb dX7_readsOrder_61 rfl (lv_at hl 0 rfl) ?_
      refine lv_iconst (v := nI (2)) hx hb dX7_readsOrder_62 (by decide) ?_
      refine lv_iconst (v := nI (0)) hx hb dX7_readsOrder_63 (by decide) ?_
      refine lv_iconst (v := nI (4)) hx hb dX7_readsOrder_64 (by decide) ?_
      refine fa_callViu (As := [.int (nI (2)), .int (nI (0)), .int (nI (4))]) (rest := []) CX HX2365 (r_number l G n hn v2364 r hM (n9) (na + 1) (no) (by omega) (by omega) (by omega) ((hf_x2363.2 9 (by decide) (by decide)).trans (by rw [e2360, fa_u_n _ _ (by omega)]; exact (by rw [e2211, fa_u_n _ _ (by omega)]; exact g9))) ((gm_x2363).trans (congrArg nI hp110)) (go_x2363.trans (congrArg nI ho_x2363.e)) t ((h2362.2 405 (by omega)).trans (((congrFun e2360 405).trans (fa_u_k _ _ (by decide))).trans (((congrFun e2211 405).trans (fa_u_k _ _ (by decide))).trans h5))) (2) (nI (0)) (nI (4)) (by omega) ⟨0, by decide, rfl⟩ ⟨4, by decide, rfl⟩) ln_X7_148 (by omega) rfl rfl rfl rfl (Nat.le_of_ble_eq_true rfl) hl.1 ⟨Nat.le_of_ble_eq_true rfl, Nat.le_of_ble_eq_true rfl⟩ ⟨Nat.le_refl _, Nat.le_refl _⟩ dX7_readsOrder_65 (fun x2482 v2483 H locs h2481 HX2484 => ?_)
      obtain ⟨hx_x2482, m_x2482, o_x2482, ⟨ha_x2482, hc_x2482, hd_x2482, hm_x2482, ho_x2482⟩, gm_x2482, go_x2482, hf_x2482, hr_x2482⟩ := h2481.1
      have hxn1 := hx_x2482
      have hmn1 := hm_x2482
      refine lv_if_eq (tgt := 95) hx hb dX7_readsOrder_68 (by decide) (fun c_68 => ?_) (fun c_68 => ?_)
      · have hn1 := fa_ifn hxn1 c_68
        refine lv_iconst (v := nI (0)) hx hb dX7_readsOrder_95 (by decide) ?_
        refine lv_istore_n (lv' := [(1, .int (nI (0))), (0, .ref (fa_B G + (397)))]) hx hb dX7_readsOrder_96 rfl hl (by decide) rfl (fun ls hl => ?_)
        refine lv_goto (tgt := 259) hx hb dX7_readsOrder_97 (by decide) ?_
        refine lv_aload_n hx hb dX7_readsOrder_259 rfl (lv_at hl 1 rfl) ?_
        refine lv_dup hx hb dX7_readsOrder_260 rfl ?_
        refine fa_geti (k := 397) CX HX2484 fl_X7_141 (by omega) rfl rfl dX7_readsOrder_261 ?_
        rw [show v2483 397 11 = nI (no) from (go_x2482.trans (congrArg nI ho_x2482.e))]
        refine lv_iload_n hx hb dX7_readsOrder_264 rfl (lv_at hl 0 rfl) ?_
        refine lv_if_eq (tgt := 272) hx hb dX7_readsOrder_265 (by decide) (fun c_265 => ?_) (fun c_265 => ?_)
        · refine lv_iconst (v := nI (0)) hx hb dX7_readsOrder_272 (by decide) ?_
          refine fa_iaddN hx hb dX7_readsOrder_273 ?_
          refine fa_puti (k := 397) CX HX2484 fl_X7_141 (by omega) rfl rfl rfl rfl dX7_readsOrder_274 (fun H locs v2485 e2486 HX2487 => ?_)
          refine lv_iload_n hx hb dX7_readsOrder_277 rfl (lv_at hl 0 rfl) ?_
          exact RET _ _ _ _ _ _ _ HX2487 dX7_readsOrder_278 (by decide) (⟨rfl, ⟨⟨(by rw [((fa_ord_n hS110).trans (fa_two_f hn1))]; exact rfl), m_x2482, no + 0, ⟨by omega, by omega, by omega, fa_is.mk (by rw [((fa_ord_n hS110).trans (fa_two_f hn1))]; exact hmn1.e), fa_is.mk (by rw [((fa_ord_n hS110).trans (fa_two_f hn1))]; exact (show no + 0 = no by omega))⟩, (show v2485 397 12 = nI (m_x2482) from (by rw [e2486, fa_u_n _ _ (by omega)]; exact gm_x2482)), (show v2485 397 11 = nI (no + 0) from (by rw [e2486, fa_u_s])), (show fa_f3 v v2485 from (by rw [e2486]; exact fa_f3.w (fa_f3.tr (fa_f3.tr (by rw [e2360]; exact fa_f3.u (by rw [e2211]; exact fa_f3.u fa_f3.rf)) hf_x2363) hf_x2482) (by decide))), (by rw [((fa_ord_n hS110).trans (fa_two_f hn1))]; exact ⟨(fun i hi => (by show v2485 403 i = _; rw [e2486, fa_u_k _ _ (by decide), hr_x2482.2 i (by omega), hr_x2363]; exact hA i hi)), (by show v2485 403 (4 * no) = _; rw [e2486, fa_u_k _ _ (by decide), hr_x2482.2 (4 * no) (by omega), hr_x2363]; exact hB), (by show v2485 403 (4 * no + 1) = _; rw [e2486, fa_u_k _ _ (by decide), hr_x2482.2 (4 * no + 1) (by omega), hr_x2363]; exact hC), (fun z => absurd (show false = true from z) (by decide))⟩)⟩, (by rw [e2486]; exact fa_fr.u (fa_fr.tr (fa_fr.tr (by rw [e2360]; exact fa_fr.u (by rw [e2211]; exact fa_fr.u fa_fr.rf (by omega)) (by omega)) (fa_fr.wide h2362.2 (by omega) (by omega))) (fa_fr.wide h2481.2 (by omega) (by omega))) (by omega))⟩⟩)
        · exact absurd (by try decide) c_265
      · have hn1 := fa_ift hxn1 c_68
        refine lv_aload_n hx hb dX7_readsOrder_71 rfl (lv_at hl 0 rfl) ?_
        refine lv_bipush (v := nI (44)) hx hb dX7_readsOrder_72 (by decide) ?_
        refine fa_callViu (As := [.int (nI (44))]) (rest := []) CX HX2484 (r_accepts l G n hn v2483 r hM (n9) (m_x2482) (no) (by omega) (by omega) (by omega) ((hf_x2482.2 9 (by decide) (by decide)).trans ((hf_x2363.2 9 (by decide) (by decide)).trans (by rw [e2360, fa_u_n _ _ (by omega)]; exact (by rw [e2211, fa_u_n _ _ (by omega)]; exact g9)))) gm_x2482 (go_x2482.trans (congrArg nI ho_x2482.e)) t ((h2481.2 405 (by omega)).trans ((h2362.2 405 (by omega)).trans (((congrFun e2360 405).trans (fa_u_k _ _ (by decide))).trans (((congrFun e2211 405).trans (fa_u_k _ _ (by decide))).trans h5)))) (nI (44)) (by decide)) ln_X7_144 (by omega) rfl rfl rfl rfl (Nat.le_of_ble_eq_true rfl) hl.1 ⟨Nat.le_of_ble_eq_true rfl, Nat.le_of_ble_eq_true rfl⟩ ⟨Nat.le_refl _, Nat.le_refl _⟩ dX7_readsOrder_74 (fun x2489 v2490 H locs h2488 HX2491 => ?_)
        obtain ⟨hx_x2489, m_x2489, o_x2489, ⟨ha_x2489, hc_x2489, hd_x2489, hm_x2489, ho_x2489⟩, gm_x2489, go_x2489, hf_x2489, hr_x2489⟩ := h2488.1
        have hxc := hx_x2489
        have hmc := hm_x2489
        refine lv_if_eq (tgt := 95) hx hb dX7_readsOrder_77 (by decide) (fun c_77 => ?_) (fun c_77 => ?_)
        · have hcm := fa_ifn hxc c_77
          have hpc := hmc.e.trans (fa_acc_f hcm)
          refine lv_iconst (v := nI (0)) hx hb dX7_readsOrder_95 (by decide) ?_
          refine lv_istore_n (lv' := [(1, .int (nI (0))), (0, .ref (fa_B G + (397)))]) hx hb dX7_readsOrder_96 rfl hl (by decide) rfl (fun ls hl => ?_)
          refine lv_goto (tgt := 259) hx hb dX7_readsOrder_97 (by decide) ?_
          refine lv_aload_n hx hb dX7_readsOrder_259 rfl (lv_at hl 1 rfl) ?_
          refine lv_dup hx hb dX7_readsOrder_260 rfl ?_
          refine fa_geti (k := 397) CX HX2491 fl_X7_141 (by omega) rfl rfl dX7_readsOrder_261 ?_
          rw [show v2490 397 11 = nI (no) from (go_x2489.trans (congrArg nI ho_x2489.e))]
          refine lv_iload_n hx hb dX7_readsOrder_264 rfl (lv_at hl 0 rfl) ?_
          refine lv_if_eq (tgt := 272) hx hb dX7_readsOrder_265 (by decide) (fun c_265 => ?_) (fun c_265 => ?_)
          · refine lv_iconst (v := nI (0)) hx hb dX7_readsOrder_272 (by decide) ?_
            refine fa_iaddN hx hb dX7_readsOrder_273 ?_
            refine fa_puti (k := 397) CX HX2491 fl_X7_141 (by omega) rfl rfl rfl rfl dX7_readsOrder_274 (fun H locs v2492 e2493 HX2494 => ?_)
            refine lv_iload_n hx hb dX7_readsOrder_277 rfl (lv_at hl 0 rfl) ?_
            exact RET _ _ _ _ _ _ _ HX2494 dX7_readsOrder_278 (by decide) (⟨rfl, ⟨⟨(by rw [((fa_ord_n hS110).trans (fa_two_c hn1 hmn1.e hcm))]; exact rfl), m_x2482, no + 0, ⟨by omega, by omega, by omega, fa_is.mk (by rw [((fa_ord_n hS110).trans (fa_two_c hn1 hmn1.e hcm))]), fa_is.mk (by rw [((fa_ord_n hS110).trans (fa_two_c hn1 hmn1.e hcm))]; exact (show no + 0 = no by omega))⟩, (show v2492 397 12 = nI (m_x2482) from (by rw [e2493, fa_u_n _ _ (by omega)]; exact ((gm_x2489).trans (congrArg nI hpc)))), (show v2492 397 11 = nI (no + 0) from (by rw [e2493, fa_u_s])), (show fa_f3 v v2492 from (by rw [e2493]; exact fa_f3.w (fa_f3.tr (fa_f3.tr (fa_f3.tr (by rw [e2360]; exact fa_f3.u (by rw [e2211]; exact fa_f3.u fa_f3.rf)) hf_x2363) hf_x2482) hf_x2489) (by decide))), (by rw [((fa_ord_n hS110).trans (fa_two_c hn1 hmn1.e hcm))]; exact ⟨(fun i hi => (by show v2492 403 i = _; rw [e2493, fa_u_k _ _ (by decide), hr_x2489, hr_x2482.2 i (by omega), hr_x2363]; exact hA i hi)), (by show v2492 403 (4 * no) = _; rw [e2493, fa_u_k _ _ (by decide), hr_x2489, hr_x2482.2 (4 * no) (by omega), hr_x2363]; exact hB), (by show v2492 403 (4 * no + 1) = _; rw [e2493, fa_u_k _ _ (by decide), hr_x2489, hr_x2482.2 (4 * no + 1) (by omega), hr_x2363]; exact hC), (fun z => absurd (show false = true from z) (by decide))⟩)⟩, (by rw [e2493]; exact fa_fr.u (fa_fr.tr (fa_fr.tr (fa_fr.tr (by rw [e2360]; exact fa_fr.u (by rw [e2211]; exact fa_fr.u fa_fr.rf (by omega)) (by omega)) (fa_fr.wide h2362.2 (by omega) (by omega))) (fa_fr.wide h2481.2 (by omega) (by omega))) (fa_fr.wide h2488.2 (by omega) (by omega))) (by omega))⟩⟩)
          · exact absurd (by try decide) c_265
        · have hcm := fa_ift hxc c_77
          have hpc := hmc.e.trans (fa_acc_t hcm)
          refine lv_aload_n hx hb dX7_readsOrder_80 rfl (lv_at hl 0 rfl) ?_
          refine lv_iconst (v := nI (3)) hx hb dX7_readsOrder_81 (by decide) ?_
          refine lv_iconst (v := nI (1)) hx hb dX7_readsOrder_82 (by decide) ?_
          refine lv_bipush (v := nI (50)) hx hb dX7_readsOrder_83 (by decide) ?_
          refine fa_callViu (As := [.int (nI (3)), .int (nI (1)), .int (nI (50))]) (rest := []) CX HX2491 (r_number l G n hn v2490 r hM (n9) (m_x2482 + 1) (no) (by omega) (by omega) (by omega) ((hf_x2489.2 9 (by decide) (by decide)).trans ((hf_x2482.2 9 (by decide) (by decide)).trans ((hf_x2363.2 9 (by decide) (by decide)).trans (by rw [e2360, fa_u_n _ _ (by omega)]; exact (by rw [e2211, fa_u_n _ _ (by omega)]; exact g9))))) ((gm_x2489).trans (congrArg nI hpc)) (go_x2489.trans (congrArg nI ho_x2489.e)) t ((h2488.2 405 (by omega)).trans ((h2481.2 405 (by omega)).trans ((h2362.2 405 (by omega)).trans (((congrFun e2360 405).trans (fa_u_k _ _ (by decide))).trans (((congrFun e2211 405).trans (fa_u_k _ _ (by decide))).trans h5))))) (3) (nI (1)) (nI (50)) (by omega) ⟨1, by decide, rfl⟩ ⟨50, by decide, rfl⟩) ln_X7_148 (by omega) rfl rfl rfl rfl (Nat.le_of_ble_eq_true rfl) hl.1 ⟨Nat.le_of_ble_eq_true rfl, Nat.le_of_ble_eq_true rfl⟩ ⟨Nat.le_refl _, Nat.le_refl _⟩ dX7_readsOrder_85 (fun x2496 v2497 H locs h2495 HX2498 => ?_)
          obtain ⟨hx_x2496, m_x2496, o_x2496, ⟨ha_x2496, hc_x2496, hd_x2496, hm_x2496, ho_x2496⟩, gm_x2496, go_x2496, hf_x2496, hr_x2496⟩ := h2495.1
          have hxn2 := hx_x2496
          have hmn2 := hm_x2496
          refine lv_if_eq (tgt := 95) hx hb dX7_readsOrder_88 (by decide) (fun c_88 => ?_) (fun c_88 => ?_)
          · have hn2 := fa_ifn hxn2 c_88
            refine lv_iconst (v := nI (0)) hx hb dX7_readsOrder_95 (by decide) ?_
            refine lv_istore_n (lv' := [(1, .int (nI (0))), (0, .ref (fa_B G + (397)))]) hx hb dX7_readsOrder_96 rfl hl (by decide) rfl (fun ls hl => ?_)
            refine lv_goto (tgt := 259) hx hb dX7_readsOrder_97 (by decide) ?_
            refine lv_aload_n hx hb dX7_readsOrder_259 rfl (lv_at hl 1 rfl) ?_
            refine lv_dup hx hb dX7_readsOrder_260 rfl ?_
            refine fa_geti (k := 397) CX HX2498 fl_X7_141 (by omega) rfl rfl dX7_readsOrder_261 ?_
            rw [show v2497 397 11 = nI (no) from (go_x2496.trans (congrArg nI ho_x2496.e))]
            refine lv_iload_n hx hb dX7_readsOrder_264 rfl (lv_at hl 0 rfl) ?_
            refine lv_if_eq (tgt := 272) hx hb dX7_readsOrder_265 (by decide) (fun c_265 => ?_) (fun c_265 => ?_)
            · refine lv_iconst (v := nI (0)) hx hb dX7_readsOrder_272 (by decide) ?_
              refine fa_iaddN hx hb dX7_readsOrder_273 ?_
              refine fa_puti (k := 397) CX HX2498 fl_X7_141 (by omega) rfl rfl rfl rfl dX7_readsOrder_274 (fun H locs v2499 e2500 HX2501 => ?_)
              refine lv_iload_n hx hb dX7_readsOrder_277 rfl (lv_at hl 0 rfl) ?_
              exact RET _ _ _ _ _ _ _ HX2501 dX7_readsOrder_278 (by decide) (⟨rfl, ⟨⟨(by rw [((fa_ord_n hS110).trans (fa_two_n hn1 hmn1.e hcm hn2))]; exact rfl), m_x2496, no + 0, ⟨by omega, by omega, by omega, fa_is.mk (by rw [((fa_ord_n hS110).trans (fa_two_n hn1 hmn1.e hcm hn2))]; exact hmn2.e), fa_is.mk (by rw [((fa_ord_n hS110).trans (fa_two_n hn1 hmn1.e hcm hn2))]; exact (show no + 0 = no by omega))⟩, (show v2499 397 12 = nI (m_x2496) from (by rw [e2500, fa_u_n _ _ (by omega)]; exact gm_x2496)), (show v2499 397 11 = nI (no + 0) from (by rw [e2500, fa_u_s])), (show fa_f3 v v2499 from (by rw [e2500]; exact fa_f3.w (fa_f3.tr (fa_f3.tr (fa_f3.tr (fa_f3.tr (by rw [e2360]; exact fa_f3.u (by rw [e2211]; exact fa_f3.u fa_f3.rf)) hf_x2363) hf_x2482) hf_x2489) hf_x2496) (by decide))), (by rw [((fa_ord_n hS110).trans (fa_two_n hn1 hmn1.e hcm hn2))]; exact ⟨(fun i hi => (by show v2499 403 i = _; rw [e2500, fa_u_k _ _ (by decide), hr_x2496.2 i (by omega), hr_x2489, hr_x2482.2 i (by omega), hr_x2363]; exact hA i hi)), (by show v2499 403 (4 * no) = _; rw [e2500, fa_u_k _ _ (by decide), hr_x2496.2 (4 * no) (by omega), hr_x2489, hr_x2482.2 (4 * no) (by omega), hr_x2363]; exact hB), (by show v2499 403 (4 * no + 1) = _; rw [e2500, fa_u_k _ _ (by decide), hr_x2496.2 (4 * no + 1) (by omega), hr_x2489, hr_x2482.2 (4 * no + 1) (by omega), hr_x2363]; exact hC), (fun z => absurd (show false = true from z) (by decide))⟩)⟩, (by rw [e2500]; exact fa_fr.u (fa_fr.tr (fa_fr.tr (fa_fr.tr (fa_fr.tr (by rw [e2360]; exact fa_fr.u (by rw [e2211]; exact fa_fr.u fa_fr.rf (by omega)) (by omega)) (fa_fr.wide h2362.2 (by omega) (by omega))) (fa_fr.wide h2481.2 (by omega) (by omega))) (fa_fr.wide h2488.2 (by omega) (by omega))) (fa_fr.wide h2495.2 (by omega) (by omega))) (by omega))⟩⟩)
            · exact absurd (by try decide) c_265
          · have hn2 := fa_ift hxn2 c_88
            refine lv_iconst (v := nI (1)) hx hb dX7_readsOrder_91 (by decide) ?_
            refine lv_goto (tgt := 96) hx hb dX7_readsOrder_92 (by decide) ?_
            refine lv_istore_n (lv' := [(1, .int (nI (1))), (0, .ref (fa_B G + (397)))]) hx hb dX7_readsOrder_96 rfl hl (by decide) rfl (fun ls hl => ?_)
            refine lv_goto (tgt := 259) hx hb dX7_readsOrder_97 (by decide) ?_
            refine lv_aload_n hx hb dX7_readsOrder_259 rfl (lv_at hl 1 rfl) ?_
            refine lv_dup hx hb dX7_readsOrder_260 rfl ?_
            refine fa_geti (k := 397) CX HX2498 fl_X7_141 (by omega) rfl rfl dX7_readsOrder_261 ?_
            rw [show v2497 397 11 = nI (no) from (go_x2496.trans (congrArg nI ho_x2496.e))]
            refine lv_iload_n hx hb dX7_readsOrder_264 rfl (lv_at hl 0 rfl) ?_
            refine lv_if_eq (tgt := 272) hx hb dX7_readsOrder_265 (by decide) (fun c_265 => ?_) (fun c_265 => ?_)
            · exact absurd c_265 (by try decide)
            · refine lv_iconst (v := nI (1)) hx hb dX7_readsOrder_268 (by decide) ?_
              refine lv_goto (tgt := 273) hx hb dX7_readsOrder_269 (by decide) ?_
              refine fa_iaddN hx hb dX7_readsOrder_273 ?_
              refine fa_puti (k := 397) CX HX2498 fl_X7_141 (by omega) rfl rfl rfl rfl dX7_readsOrder_274 (fun H locs v2502 e2503 HX2504 => ?_)
              refine lv_iload_n hx hb dX7_readsOrder_277 rfl (lv_at hl 0 rfl) ?_
              exact RET _ _ _ _ _ _ _ HX2504 dX7_readsOrder_278 (by decide) (⟨rfl, ⟨⟨(by rw [((fa_ord_n hS110).trans (fa_two_y hn1 hmn1.e hcm hn2))]; exact rfl), m_x2496, no + 1, ⟨by omega, by omega, (by have hfx := (show na + 2 ≤ m_x2496 from by have z := (fa_ord_le (t := t) hna).2.2; rw [((fa_ord_n hS110).trans (fa_two_y hn1 hmn1.e hcm hn2))] at z; rw [hmn2.e]; exact z rfl); omega), fa_is.mk (by rw [((fa_ord_n hS110).trans (fa_two_y hn1 hmn1.e hcm hn2))]; exact hmn2.e), fa_is.mk (by rw [((fa_ord_n hS110).trans (fa_two_y hn1 hmn1.e hcm hn2))]; exact (show no + 1 = no + 1 by omega))⟩, (show v2502 397 12 = nI (m_x2496) from (by rw [e2503, fa_u_n _ _ (by omega)]; exact gm_x2496)), (show v2502 397 11 = nI (no + 1) from (by rw [e2503, fa_u_s])), (show fa_f3 v v2502 from (by rw [e2503]; exact fa_f3.w (fa_f3.tr (fa_f3.tr (fa_f3.tr (fa_f3.tr (by rw [e2360]; exact fa_f3.u (by rw [e2211]; exact fa_f3.u fa_f3.rf)) hf_x2363) hf_x2482) hf_x2489) hf_x2496) (by decide))), (by rw [((fa_ord_n hS110).trans (fa_two_y hn1 hmn1.e hcm hn2))]; exact ⟨(fun i hi => (by show v2502 403 i = _; rw [e2503, fa_u_k _ _ (by decide), hr_x2496.2 i (by omega), hr_x2489, hr_x2482.2 i (by omega), hr_x2363]; exact hA i hi)), (by show v2502 403 (4 * no) = _; rw [e2503, fa_u_k _ _ (by decide), hr_x2496.2 (4 * no) (by omega), hr_x2489, hr_x2482.2 (4 * no) (by omega), hr_x2363]; exact hB), (by show v2502 403 (4 * no + 1) = _; rw [e2503, fa_u_k _ _ (by decide), hr_x2496.2 (4 * no + 1) (by omega), hr_x2489, hr_x2482.2 (4 * no + 1) (by omega), hr_x2363]; exact hC), (fun _ => ⟨(by show v2502 403 (4 * no + 2) = _; rw [e2503, fa_u_k _ _ (by decide), hr_x2496.2 (4 * no + 2) (by omega), hr_x2489]; exact hr_x2482.1 hn1), (fun _ _ => (by show v2502 403 (4 * no + 3) = _; rw [e2503, fa_u_k _ _ (by decide)]; exact hr_x2496.1 hn2))⟩)⟩)⟩, (by rw [e2503]; exact fa_fr.u (fa_fr.tr (fa_fr.tr (fa_fr.tr (fa_fr.tr (by rw [e2360]; exact fa_fr.u (by rw [e2211]; exact fa_fr.u fa_fr.rf (by omega)) (by omega)) (fa_fr.wide h2362.2 (by omega) (by omega))) (fa_fr.wide h2481.2 (by omega) (by omega))) (fa_fr.wide h2488.2 (by omega) (by omega))) (fa_fr.wide h2495.2 (by omega) (by omega))) (by omega))⟩⟩)
