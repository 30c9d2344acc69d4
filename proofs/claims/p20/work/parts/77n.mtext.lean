set_option maxHeartbeats 4000000 in
set_option maxRecDepth 100000 in
theorem r_readsOrder (l : Launch) (G : fa_G) (n : Nat) (hn : 406 ≤ n) (v : fa_V) (r : fa_R) (hM : fa_RM r) (n9 na no : Nat) (h9 : n9 ≤ 60) (hna : na ≤ n9) (hno : 2 * no ≤ na) (g9 : v 397 9 = nI n9) (gA : v 397 12 = nI na) (gO : v 397 11 = nI no) (t : Nat → Int32) (h5 : v 405 = t) : fa_MI l G n yX7_readsOrder cX7_readsOrder 2 (some .boolean) 4 [.ref (fa_B G + (397))] v r (fa_voi r (fun x v1 => ((x = if (fa_ord (fa_sg t n9) na).1 = true then nI 1 else nI 0) ∧ ∃ m o, (na ≤ m ∧ m ≤ n9 ∧ 2 * o ≤ m ∧ fa_is m ((fa_ord (fa_sg t n9) na).2.1) ∧ fa_is o (fa_o1 (fa_ord (fa_sg t n9) na).1 no)) ∧ v1 397 12 = nI m ∧ v1 397 11 = nI o ∧ fa_f3 v v1 ∧ ((∀ i, i < 4 * no → v1 403 i = v 403 i) ∧ v1 403 (4 * no) = nI na ∧ v1 403 (4 * no + 1) = fa_sg t n9 na ∧ ((fa_ord (fa_sg t n9) na).1 = true → v1 403 (4 * no + 2) = (fa_ord (fa_sg t n9) na).2.2.1 ∧ (¬ fa_sg t n9 na = (97 : Int32) → ¬ fa_sg t n9 na = (100 : Int32) → v1 403 (4 * no + 3) = (fa_ord (fa_sg t n9) na).2.2.2)))) ∧ (fa_fr (397) (404) v v1))) := by
  refine fa_startZ (by decide +kernel) (Nat.le_of_ble_eq_true rfl) (fun p e s m args below meth c ls Q CX hl HX RET => ?_)
  have hl : lv_has ls 2 [(0, .ref (fa_B G + (397)))] := hl
  have hx := CX.1.1
  have hb := CX.1.2.1
  refine lv_aload_n hx hb dX7_readsOrder_0 rfl (lv_at hl 0 rfl) ?_
  refine fa_getr (k := 397) (j := 403) CX HX fl_X7_26 (by omega) rfl rfl hM.2.2.2.2.2.1 dX7_readsOrder_1 ?_
  refine lv_iconst (v := nI (4)) hx hb dX7_readsOrder_4 (by decide) ?_
  refine lv_aload_n hx hb dX7_readsOrder_5 rfl (lv_at hl 0 rfl) ?_
  refine fa_geti (k := 397) CX HX fl_X7_141 (by omega) rfl rfl dX7_readsOrder_6 ?_
  rw [show v 397 11 = nI (no) from gO]
  refine fa_imulN hx hb dX7_readsOrder_9 ?_
  refine lv_aload_n hx hb dX7_readsOrder_10 rfl (lv_at hl 0 rfl) ?_
  refine fa_geti (k := 397) CX HX fl_X7_134 (by omega) rfl rfl dX7_readsOrder_11 ?_
  rw [show v 397 12 = nI (na) from gA]
  refine fa_iast (k := 403) (j := 4 * no) CX HX (by omega) rfl (by omega) (by first | decide | assumption) dX7_readsOrder_14 (fun H locs v2205 e2206 HX2207 => ?_)
  refine lv_aload_n hx hb dX7_readsOrder_15 rfl (lv_at hl 0 rfl) ?_
  refine fa_getr (k := 397) (j := 403) CX HX2207 fl_X7_26 (by omega) rfl rfl hM.2.2.2.2.2.1 dX7_readsOrder_16 ?_
  refine lv_iconst (v := nI (4)) hx hb dX7_readsOrder_19 (by decide) ?_
  refine lv_aload_n hx hb dX7_readsOrder_20 rfl (lv_at hl 0 rfl) ?_
  refine fa_geti (k := 397) CX HX2207 fl_X7_141 (by omega) rfl rfl dX7_readsOrder_21 ?_
  rw [show v2205 397 11 = nI (no) from (by rw [e2206, fa_u_n _ _ (by omega)]; exact gO)]
  refine fa_imulN hx hb dX7_readsOrder_24 ?_
  refine lv_iconst (v := nI (1)) hx hb dX7_readsOrder_25 (by decide) ?_
  refine fa_iaddN hx hb dX7_readsOrder_26 ?_
  refine lv_aload_n hx hb dX7_readsOrder_27 rfl (lv_at hl 0 rfl) ?_
  refine fa_geti (k := 397) CX HX2207 fl_X7_134 (by omega) rfl rfl dX7_readsOrder_28 ?_
  rw [show v2205 397 12 = nI (na) from (by rw [e2206, fa_u_n _ _ (by omega)]; exact gA)]
  refine lv_aload_n hx hb dX7_readsOrder_31 rfl (lv_at hl 0 rfl) ?_
  refine fa_geti (k := 397) CX HX2207 fl_X7_131 (by omega) rfl rfl dX7_readsOrder_32 ?_
  rw [show v2205 397 9 = nI (n9) from (by rw [e2206, fa_u_n _ _ (by omega)]; exact g9)]
  refine lv_icmp_ge (tgt := 50) hx hb dX7_readsOrder_35 (by decide) (fun c_35 => ?_) (fun c_35 => ?_)
  · have hge0 := fa_leN (by omega) (by omega) c_35
    refine lv_iconst (v := nI (0)) hx hb dX7_readsOrder_50 (by decide) ?_
    refine fa_iast (k := 403) (j := 4 * no + 1) CX HX2207 (by omega) rfl (by omega) (by first | decide | assumption) dX7_readsOrder_51 (fun H locs v2208 e2209 HX2210 => ?_)
    have hA : ∀ i, i < 4 * no → v2208 403 i = v 403 i := fun i hi => by rw [e2209, fa_u_n _ _ (by omega), e2206, fa_u_n _ _ (by omega)]
    have hB : v2208 403 (4 * no) = nI na := by rw [e2209, fa_u_n _ _ (by omega), e2206, fa_u_s]
    have hC : v2208 403 (4 * no + 1) = fa_sg t n9 na := by rw [e2209, fa_u_s]; exact (show (nI 0 : Int32) = fa_sg t n9 na from by rw [fa_sg_out hge0]; rfl)
    refine lv_aload_n hx hb dX7_readsOrder_52 rfl (lv_at hl 0 rfl) ?_
    refine lv_bipush (v := nI (110)) hx hb dX7_readsOrder_53 (by decide) ?_
    refine fa_callViu (As := [.int (nI (110))]) (rest := []) CX HX2210 (r_accepts l G n hn v2208 r hM (n9) (na) (no) (by omega) (by omega) (by omega) (by rw [e2209, fa_u_n _ _ (by omega)]; exact (by rw [e2206, fa_u_n _ _ (by omega)]; exact g9)) (by rw [e2209, fa_u_n _ _ (by omega)]; exact (by rw [e2206, fa_u_n _ _ (by omega)]; exact gA)) (by rw [e2209, fa_u_n _ _ (by omega)]; exact (by rw [e2206, fa_u_n _ _ (by omega)]; exact gO)) t (((congrFun e2209 405).trans (fa_u_k _ _ (by decide))).trans (((congrFun e2206 405).trans (fa_u_k _ _ (by decide))).trans h5)) (nI (110)) (by decide)) ln_X7_144 (by omega) rfl rfl rfl rfl (Nat.le_of_ble_eq_true rfl) hl.1 ⟨Nat.le_of_ble_eq_true rfl, Nat.le_of_ble_eq_true rfl⟩ ⟨Nat.le_refl _, Nat.le_refl _⟩ dX7_readsOrder_55 (fun x2212 v2213 H locs h2211 HX2214 => ?_)
    obtain ⟨hx_x2212, m_x2212, o_x2212, ⟨ha_x2212, hc_x2212, hd_x2212, hm_x2212, ho_x2212⟩, gm_x2212, go_x2212, hf_x2212, hr_x2212⟩ := h2211.1
    have hxa := hx_x2212
    have hma := hm_x2212
    refine lv_if_eq (tgt := 100) hx hb dX7_readsOrder_58 (by decide) (fun c_58 => ?_) (fun c_58 => ?_)
    · have hS110 : ¬ fa_sg t n9 na = (110 : Int32) := fa_ifn hxa (by first | exact c_58 | exact Decidable.not_not.mp c_58)
      have hp110 := hma.e.trans (fa_acc_f hS110)
      clear ha_x2212 hc_x2212 hd_x2212 hxa hma
      refine lv_aload_n hx hb dX7_readsOrder_100 rfl (lv_at hl 0 rfl) ?_
      refine lv_bipush (v := nI (97)) hx hb dX7_readsOrder_101 (by decide) ?_
      refine fa_callViu (As := [.int (nI (97))]) (rest := []) CX HX2214 (r_accepts l G n hn v2213 r hM (n9) (na) (no) (by omega) (by omega) (by omega) ((hf_x2212.2 9 (by decide) (by decide)).trans (by rw [e2209, fa_u_n _ _ (by omega)]; exact (by rw [e2206, fa_u_n _ _ (by omega)]; exact g9))) ((gm_x2212).trans (congrArg nI hp110)) (go_x2212.trans (congrArg nI ho_x2212.e)) t ((h2211.2 405 (by omega)).trans (((congrFun e2209 405).trans (fa_u_k _ _ (by decide))).trans (((congrFun e2206 405).trans (fa_u_k _ _ (by decide))).trans h5))) (nI (97)) (by decide)) ln_X7_144 (by omega) rfl rfl rfl rfl (Nat.le_of_ble_eq_true rfl) hl.1 ⟨Nat.le_of_ble_eq_true rfl, Nat.le_of_ble_eq_true rfl⟩ ⟨Nat.le_refl _, Nat.le_refl _⟩ dX7_readsOrder_103 (fun x2216 v2217 H locs h2215 HX2218 => ?_)
      obtain ⟨hx_x2216, m_x2216, o_x2216, ⟨ha_x2216, hc_x2216, hd_x2216, hm_x2216, ho_x2216⟩, gm_x2216, go_x2216, hf_x2216, hr_x2216⟩ := h2215.1
      have hxa := hx_x2216
      have hma := hm_x2216
      refine lv_if_eq (tgt := 122) hx hb dX7_readsOrder_106 (by decide) (fun c_106 => ?_) (fun c_106 => ?_)
      · have hS97 : ¬ fa_sg t n9 na = (97 : Int32) := fa_ifn hxa (by first | exact c_106 | exact Decidable.not_not.mp c_106)
        have hp97 := hma.e.trans (fa_acc_f hS97)
        clear ha_x2216 hc_x2216 hd_x2216 hxa hma
        refine lv_aload_n hx hb dX7_readsOrder_122 rfl (lv_at hl 0 rfl) ?_
        refine lv_bipush (v := nI (115)) hx hb dX7_readsOrder_123 (by decide) ?_
        refine fa_callViu (As := [.int (nI (115))]) (rest := []) CX HX2218 (r_accepts l G n hn v2217 r hM (n9) (na) (no) (by omega) (by omega) (by omega) ((hf_x2216.2 9 (by decide) (by decide)).trans ((hf_x2212.2 9 (by decide) (by decide)).trans (by rw [e2209, fa_u_n _ _ (by omega)]; exact (by rw [e2206, fa_u_n _ _ (by omega)]; exact g9)))) ((gm_x2216).trans (congrArg nI hp97)) (go_x2216.trans (congrArg nI ho_x2216.e)) t ((h2215.2 405 (by omega)).trans ((h2211.2 405 (by omega)).trans (((congrFun e2209 405).trans (fa_u_k _ _ (by decide))).trans (((congrFun e2206 405).trans (fa_u_k _ _ (by decide))).trans h5)))) (nI (115)) (by decide)) ln_X7_144 (by omega) rfl rfl rfl rfl (Nat.le_of_ble_eq_true rfl) hl.1 ⟨Nat.le_of_ble_eq_true rfl, Nat.le_of_ble_eq_true rfl⟩ ⟨Nat.le_refl _, Nat.le_refl _⟩ dX7_readsOrder_125 (fun x2220 v2221 H locs h2219 HX2222 => ?_)
        obtain ⟨hx_x2220, m_x2220, o_x2220, ⟨ha_x2220, hc_x2220, hd_x2220, hm_x2220, ho_x2220⟩, gm_x2220, go_x2220, hf_x2220, hr_x2220⟩ := h2219.1
        have hxa := hx_x2220
        have hma := hm_x2220
        refine lv_if_ne (tgt := 140) hx hb dX7_readsOrder_128 (by decide) (fun c_128 => ?_) (fun c_128 => ?_)
        · have hS115 : fa_sg t n9 na = (115 : Int32) := fa_ift hxa c_128
          have hp115 := hma.e.trans (fa_acc_t hS115)
          have hlt : na < n9 := fa_sg_nz hS115 (by decide)
          clear ha_x2220 hc_x2220 hd_x2220
          refine lv_aload_n hx hb dX7_readsOrder_140 rfl (lv_at hl 0 rfl) ?_
          refine lv_iconst (v := nI (2)) hx hb dX7_readsOrder_141 (by decide) ?_
          refine lv_iconst (v := nI (0)) hx hb dX7_readsOrder_142 (by decide) ?_
          refine lv_bipush (v := nI (7)) hx hb dX7_readsOrder_143 (by decide) ?_
          refine fa_callViu (As := [.int (nI (2)), .int (nI (0)), .int (nI (7))]) (rest := []) CX HX2222 (r_number l G n hn v2221 r hM (n9) (na + 1) (no) (by omega) (by omega) (by omega) ((hf_x2220.2 9 (by decide) (by decide)).trans ((hf_x2216.2 9 (by decide) (by decide)).trans ((hf_x2212.2 9 (by decide) (by decide)).trans (by rw [e2209, fa_u_n _ _ (by omega)]; exact (by rw [e2206, fa_u_n _ _ (by omega)]; exact g9))))) ((gm_x2220).trans (congrArg nI hp115)) (go_x2220.trans (congrArg nI ho_x2220.e)) t ((h2219.2 405 (by omega)).trans ((h2215.2 405 (by omega)).trans ((h2211.2 405 (by omega)).trans (((congrFun e2209 405).trans (fa_u_k _ _ (by decide))).trans (((congrFun e2206 405).trans (fa_u_k _ _ (by decide))).trans h5))))) (2) (nI (0)) (nI (7)) (by omega) ⟨0, by decide, rfl⟩ ⟨7, by decide, rfl⟩) ln_X7_148 (by omega) rfl rfl rfl rfl (Nat.le_of_ble_eq_true rfl) hl.1 ⟨Nat.le_of_ble_eq_true rfl, Nat.le_of_ble_eq_true rfl⟩ ⟨Nat.le_refl _, Nat.le_refl _⟩ dX7_readsOrder_145 (fun x2224 v2225 H locs h2223 HX2226 => ?_)
          obtain ⟨hx_x2224, m_x2224, o_x2224, ⟨ha_x2224, hc_x2224, hd_x2224, hm_x2224, ho_x2224⟩, gm_x2224, go_x2224, hf_x2224, hr_x2224⟩ := h2223.1
          have hxn1 := hx_x2224
          have hmn1 := hm_x2224
          refine lv_if_eq (tgt := 176) hx hb dX7_readsOrder_148 (by decide) (fun c_148 => ?_) (fun c_148 => ?_)
          · have hn1 := fa_ifn hxn1 c_148
            refine lv_iconst (v := nI (0)) hx hb dX7_readsOrder_176 (by decide) ?_
            refine lv_istore_n (lv' := [(1, .int (nI (0))), (0, .ref (fa_B G + (397)))]) hx hb dX7_readsOrder_177 rfl hl (by decide) rfl (fun ls hl => ?_)
            refine lv_goto (tgt := 259) hx hb dX7_readsOrder_178 (by decide) ?_
            refine lv_aload_n hx hb dX7_readsOrder_259 rfl (lv_at hl 1 rfl) ?_
            refine lv_dup hx hb dX7_readsOrder_260 rfl ?_
            refine fa_geti (k := 397) CX HX2226 fl_X7_141 (by omega) rfl rfl dX7_readsOrder_261 ?_
            rw [show v2225 397 11 = nI (no) from (go_x2224.trans (congrArg nI ho_x2224.e))]
            refine lv_iload_n hx hb dX7_readsOrder_264 rfl (lv_at hl 0 rfl) ?_
            refine lv_if_eq (tgt := 272) hx hb dX7_readsOrder_265 (by decide) (fun c_265 => ?_) (fun c_265 => ?_)
            · refine lv_iconst (v := nI (0)) hx hb dX7_readsOrder_272 (by decide) ?_
              refine fa_iaddN hx hb dX7_readsOrder_273 ?_
              refine fa_puti (k := 397) CX HX2226 fl_X7_141 (by omega) rfl rfl rfl rfl dX7_readsOrder_274 (fun H locs v2227 e2228 HX2229 => ?_)
              refine lv_iload_n hx hb dX7_readsOrder_277 rfl (lv_at hl 0 rfl) ?_
              exact RET _ _ _ _ _ _ _ HX2229 dX7_readsOrder_278 (by decide) (⟨rfl, ⟨⟨(by rw [((fa_ord_s (Or.inl hS115)).trans (fa_two_f hn1))]; exact rfl), m_x2224, no + 0, ⟨by omega, by omega, by omega, fa_is.mk (by rw [((fa_ord_s (Or.inl hS115)).trans (fa_two_f hn1))]; exact hmn1.e), fa_is.mk (by rw [((fa_ord_s (Or.inl hS115)).trans (fa_two_f hn1))]; exact (show no + 0 = no by omega))⟩, (show v2227 397 12 = nI (m_x2224) from (by rw [e2228, fa_u_n _ _ (by omega)]; exact gm_x2224)), (show v2227 397 11 = nI (no + 0) from (by rw [e2228, fa_u_s])), (show fa_f3 v v2227 from (by rw [e2228]; exact fa_f3.w (fa_f3.tr (fa_f3.tr (fa_f3.tr (fa_f3.tr (by rw [e2209]; exact fa_f3.u (by rw [e2206]; exact fa_f3.u fa_f3.rf)) hf_x2212) hf_x2216) hf_x2220) hf_x2224) (by decide))), (by rw [((fa_ord_s (Or.inl hS115)).trans (fa_two_f hn1))]; exact ⟨(fun i hi => (by show v2227 403 i = _; rw [e2228, fa_u_k _ _ (by decide), hr_x2224.2 i (by omega), hr_x2220, hr_x2216, hr_x2212]; exact hA i hi)), (by show v2227 403 (4 * no) = _; rw [e2228, fa_u_k _ _ (by decide), hr_x2224.2 (4 * no) (by omega), hr_x2220, hr_x2216, hr_x2212]; exact hB), (by show v2227 403 (4 * no + 1) = _; rw [e2228, fa_u_k _ _ (by decide), hr_x2224.2 (4 * no + 1) (by omega), hr_x2220, hr_x2216, hr_x2212]; exact hC), (fun z => absurd (show false = true from z) (by decide))⟩)⟩, (by rw [e2228]; exact fa_fr.u (fa_fr.tr (fa_fr.tr (fa_fr.tr (fa_fr.tr (by rw [e2209]; exact fa_fr.u (by rw [e2206]; exact fa_fr.u fa_fr.rf (by omega)) (by omega)) (fa_fr.wide h2211.2 (by omega) (by omega))) (fa_fr.wide h2215.2 (by omega) (by omega))) (fa_fr.wide h2219.2 (by omega) (by omega))) (fa_fr.wide h2223.2 (by omega) (by omega))) (by omega))⟩⟩)
            · exact absurd (by try decide) c_265
          · have hn1 := fa_ift hxn1 c_148
            refine lv_aload_n hx hb dX7_readsOrder_151 rfl (lv_at hl 0 rfl) ?_
            refine lv_bipush (v := nI (44)) hx hb dX7_readsOrder_152 (by decide) ?_
            refine fa_callViu (As := [.int (nI (44))]) (rest := []) CX HX2226 (r_accepts l G n hn v2225 r hM (n9) (m_x2224) (no) (by omega) (by omega) (by omega) ((hf_x2224.2 9 (by decide) (by decide)).trans ((hf_x2220.2 9 (by decide) (by decide)).trans ((hf_x2216.2 9 (by decide) (by decide)).trans ((hf_x2212.2 9 (by decide) (by decide)).trans (by rw [e2209, fa_u_n _ _ (by omega)]; exact (by rw [e2206, fa_u_n _ _ (by omega)]; exact g9)))))) gm_x2224 (go_x2224.trans (congrArg nI ho_x2224.e)) t ((h2223.2 405 (by omega)).trans ((h2219.2 405 (by omega)).trans ((h2215.2 405 (by omega)).trans ((h2211.2 405 (by omega)).trans (((congrFun e2209 405).trans (fa_u_k _ _ (by decide))).trans (((congrFun e2206 405).trans (fa_u_k _ _ (by decide))).trans h5)))))) (nI (44)) (by decide)) ln_X7_144 (by omega) rfl rfl rfl rfl (Nat.le_of_ble_eq_true rfl) hl.1 ⟨Nat.le_of_ble_eq_true rfl, Nat.le_of_ble_eq_true rfl⟩ ⟨Nat.le_refl _, Nat.le_refl _⟩ dX7_readsOrder_154 (fun x2231 v2232 H locs h2230 HX2233 => ?_)
            obtain ⟨hx_x2231, m_x2231, o_x2231, ⟨ha_x2231, hc_x2231, hd_x2231, hm_x2231, ho_x2231⟩, gm_x2231, go_x2231, hf_x2231, hr_x2231⟩ := h2230.1
            have hxc := hx_x2231
            have hmc := hm_x2231
            refine lv_if_eq (tgt := 176) hx hb dX7_readsOrder_157 (by decide) (fun c_157 => ?_) (fun c_157 => ?_)
            · have hcm := fa_ifn hxc c_157
              have hpc := hmc.e.trans (fa_acc_f hcm)
              refine lv_iconst (v := nI (0)) hx hb dX7_readsOrder_176 (by decide) ?_
              refine lv_istore_n (lv' := [(1, .int (nI (0))), (0, .ref (fa_B G + (397)))]) hx hb dX7_readsOrder_177 rfl hl (by decide) rfl (fun ls hl => ?_)
              refine lv_goto (tgt := 259) hx hb dX7_readsOrder_178 (by decide) ?_
              refine lv_aload_n hx hb dX7_readsOrder_259 rfl (lv_at hl 1 rfl) ?_
              refine lv_dup hx hb dX7_readsOrder_260 rfl ?_
              refine fa_geti (k := 397) CX HX2233 fl_X7_141 (by omega) rfl rfl dX7_readsOrder_261 ?_
              rw [show v2232 397 11 = nI (no) from (go_x2231.trans (congrArg nI ho_x2231.e))]
              refine lv_iload_n hx hb dX7_readsOrder_264 rfl (lv_at hl 0 rfl) ?_
              refine lv_if_eq (tgt := 272) hx hb dX7_readsOrder_265 (by decide) (fun c_265 => ?_) (fun c_265 => ?_)
              · refine lv_iconst (v := nI (0)) hx hb dX7_readsOrder_272 (by decide) ?_
                refine fa_iaddN hx hb dX7_readsOrder_273 ?_
                refine fa_puti (k := 397) CX HX2233 fl_X7_141 (by omega) rfl rfl rfl rfl dX7_readsOrder_274 (fun H locs v2234 e2235 HX2236 => ?_)
                refine lv_iload_n hx hb dX7_readsOrder_277 rfl (lv_at hl 0 rfl) ?_
                exact RET _ _ _ _ _ _ _ HX2236 dX7_readsOrder_278 (by decide) (⟨rfl, ⟨⟨(by rw [((fa_ord_s (Or.inl hS115)).trans (fa_two_c hn1 hmn1.e hcm))]; exact rfl), m_x2224, no + 0, ⟨by omega, by omega, by omega, fa_is.mk (by rw [((fa_ord_s (Or.inl hS115)).trans (fa_two_c hn1 hmn1.e hcm))]), fa_is.mk (by rw [((fa_ord_s (Or.inl hS115)).trans (fa_two_c hn1 hmn1.e hcm))]; exact (show no + 0 = no by omega))⟩, (show v2234 397 12 = nI (m_x2224) from (by rw [e2235, fa_u_n _ _ (by omega)]; exact ((gm_x2231).trans (congrArg nI hpc)))), (show v2234 397 11 = nI (no + 0) from (by rw [e2235, fa_u_s])), (show fa_f3 v v2234 from (by rw [e2235]; exact fa_f3.w (fa_f3.tr (fa_f3.tr (fa_f3.tr (fa_f3.tr (fa_f3.tr (by rw [e2209]; exact fa_f3.u (by rw [e2206]; exact fa_f3.u fa_f3.rf)) hf_x2212) hf_x2216) hf_x2220) hf_x2224) hf_x2231) (by decide))), (by rw [((fa_ord_s (Or.inl hS115)).trans (fa_two_c hn1 hmn1.e hcm))]; exact ⟨(fun i hi => (by show v2234 403 i = _; rw [e2235, fa_u_k _ _ (by decide), hr_x2231, hr_x2224.2 i (by omega), hr_x2220, hr_x2216, hr_x2212]; exact hA i hi)), (by show v2234 403 (4 * no) = _; rw [e2235, fa_u_k _ _ (by decide), hr_x2231, hr_x2224.2 (4 * no) (by omega), hr_x2220, hr_x2216, hr_x2212]; exact hB), (by show v2234 403 (4 * no + 1) = _; rw [e2235, fa_u_k _ _ (by decide), hr_x2231, hr_x2224.2 (4 * no + 1) (by omega), hr_x2220, hr_x2216, hr_x2212]; exact hC), (fun z => absurd (show false = true from z) (by decide))⟩)⟩, (by rw [e2235]; exact fa_fr.u (fa_fr.tr (fa_fr.tr (fa_fr.tr (fa_fr.tr (fa_fr.tr (by rw [e2209]; exact fa_fr.u (by rw [e2206]; exact fa_fr.u fa_fr.rf (by omega)) (by omega)) (fa_fr.wide h2211.2 (by omega) (by omega))) (fa_fr.wide h2215.2 (by omega) (by omega))) (fa_fr.wide h2219.2 (by omega) (by omega))) (fa_fr.wide h2223.2 (by omega) (by omega))) (fa_fr.wide h2230.2 (by omega) (by omega))) (by omega))⟩⟩)
              · exact absurd (by try decide) c_265
            · have hcm := fa_ift hxc c_157
              have hpc := hmc.e.trans (fa_acc_t hcm)
              refine lv_aload_n hx hb dX7_readsOrder_160 rfl (lv_at hl 0 rfl) ?_
              refine lv_iconst (v := nI (3)) hx hb dX7_readsOrder_161 (by decide) ?_
              refine lv_iconst (v := nI (0)) hx hb dX7_readsOrder_162 (by decide) ?_
              refine lv_sipush (v := nI (199)) hx hb dX7_readsOrder_163 (by decide) ?_
              refine fa_callViu (As := [.int (nI (3)), .int (nI (0)), .int (nI (199))]) (rest := []) CX HX2233 (r_number l G n hn v2232 r hM (n9) (m_x2224 + 1) (no) (by omega) (by omega) (by omega) ((hf_x2231.2 9 (by decide) (by decide)).trans ((hf_x2224.2 9 (by decide) (by decide)).trans ((hf_x2220.2 9 (by decide) (by decide)).trans ((hf_x2216.2 9 (by decide) (by decide)).trans ((hf_x2212.2 9 (by decide) (by decide)).trans (by rw [e2209, fa_u_n _ _ (by omega)]; exact (by rw [e2206, fa_u_n _ _ (by omega)]; exact g9))))))) ((gm_x2231).trans (congrArg nI hpc)) (go_x2231.trans (congrArg nI ho_x2231.e)) t ((h2230.2 405 (by omega)).trans ((h2223.2 405 (by omega)).trans ((h2219.2 405 (by omega)).trans ((h2215.2 405 (by omega)).trans ((h2211.2 405 (by omega)).trans (((congrFun e2209 405).trans (fa_u_k _ _ (by decide))).trans (((congrFun e2206 405).trans (fa_u_k _ _ (by decide))).trans h5))))))) (3) (nI (0)) (nI (199)) (by omega) ⟨0, by decide, rfl⟩ ⟨199, by decide, rfl⟩) ln_X7_148 (by omega) rfl rfl rfl rfl (Nat.le_of_ble_eq_true rfl) hl.1 ⟨Nat.le_of_ble_eq_true rfl, Nat.le_of_ble_eq_true rfl⟩ ⟨Nat.le_refl _, Nat.le_refl _⟩ dX7_readsOrder_166 (fun x2238 v2239 H locs h2237 HX2240 => ?_)
              obtain ⟨hx_x2238, m_x2238, o_x2238, ⟨ha_x2238, hc_x2238, hd_x2238, hm_x2238, ho_x2238⟩, gm_x2238, go_x2238, hf_x2238, hr_x2238⟩ := h2237.1
              have hxn2 := hx_x2238
              have hmn2 := hm_x2238
              refine lv_if_eq (tgt := 176) hx hb dX7_readsOrder_169 (by decide) (fun c_169 => ?_) (fun c_169 => ?_)
              · have hn2 := fa_ifn hxn2 c_169
                refine lv_iconst (v := nI (0)) hx hb dX7_readsOrder_176 (by decide) ?_
                refine lv_istore_n (lv' := [(1, .int (nI (0))), (0, .ref (fa_B G + (397)))]) hx hb dX7_readsOrder_177 rfl hl (by decide) rfl (fun ls hl => ?_)
                refine lv_goto (tgt := 259) hx hb dX7_readsOrder_178 (by decide) ?_
                refine lv_aload_n hx hb dX7_readsOrder_259 rfl (lv_at hl 1 rfl) ?_
                refine lv_dup hx hb dX7_readsOrder_260 rfl ?_
                refine fa_geti (k := 397) CX HX2240 fl_X7_141 (by omega) rfl rfl dX7_readsOrder_261 ?_
                rw [show v2239 397 11 = nI (no) from (go_x2238.trans (congrArg nI ho_x2238.e))]
                refine lv_iload_n hx hb dX7_readsOrder_264 rfl (lv_at hl 0 rfl) ?_
                refine lv_if_eq (tgt := 272) hx hb dX7_readsOrder_265 (by decide) (fun c_265 => ?_) (fun c_265 => ?_)
                · refine lv_iconst (v := nI (0)) hx hb dX7_readsOrder_272 (by decide) ?_
                  refine fa_iaddN hx hb dX7_readsOrder_273 ?_
                  refine fa_puti (k := 397) CX HX2240 fl_X7_141 (by omega) rfl rfl rfl rfl dX7_readsOrder_274 (fun H locs v2241 e2242 HX2243 => ?_)
                  refine lv_iload_n hx hb dX7_readsOrder_277 rfl (lv_at hl 0 rfl) ?_
                  exact RET _ _ _ _ _ _ _ HX2243 dX7_readsOrder_278 (by decide) (⟨rfl, ⟨⟨(by rw [((fa_ord_s (Or.inl hS115)).trans (fa_two_n hn1 hmn1.e hcm hn2))]; exact rfl), m_x2238, no + 0, ⟨by omega, by omega, by omega, fa_is.mk (by rw [((fa_ord_s (Or.inl hS115)).trans (fa_two_n hn1 hmn1.e hcm hn2))]; exact hmn2.e), fa_is.mk (by rw [((fa_ord_s (Or.inl hS115)).trans (fa_two_n hn1 hmn1.e hcm hn2))]; exact (show no + 0 = no by omega))⟩, (show v2241 397 12 = nI (m_x2238) from (by rw [e2242, fa_u_n _ _ (by omega)]; exact gm_x2238)), (show v2241 397 11 = nI (no + 0) from (by rw [e2242, fa_u_s])), (show fa_f3 v v2241 from (by rw [e2242]; exact fa_f3.w (fa_f3.tr (fa_f3.tr (fa_f3.tr (fa_f3.tr (fa_f3.tr (fa_f3.tr (by rw [e2209]; exact fa_f3.u (by rw [e2206]; exact fa_f3.u fa_f3.rf)) hf_x2212) hf_x2216) hf_x2220) hf_x2224) hf_x2231) hf_x2238) (by decide))), (by rw [((fa_ord_s (Or.inl hS115)).trans (fa_two_n hn1 hmn1.e hcm hn2))]; exact ⟨(fun i hi => (by show v2241 403 i = _; rw [e2242, fa_u_k _ _ (by decide), hr_x2238.2 i (by omega), hr_x2231, hr_x2224.2 i (by omega), hr_x2220, hr_x2216, hr_x2212]; exact hA i hi)), (by show v2241 403 (4 * no) = _; rw [e2242, fa_u_k _ _ (by decide), hr_x2238.2 (4 * no) (by omega), hr_x2231, hr_x2224.2 (4 * no) (by omega), hr_x2220, hr_x2216, hr_x2212]; exact hB), (by show v2241 403 (4 * no + 1) = _; rw [e2242, fa_u_k _ _ (by decide), hr_x2238.2 (4 * no + 1) (by omega), hr_x2231, hr_x2224.2 (4 * no + 1) (by omega), hr_x2220, hr_x2216, hr_x2212]; exact hC), (fun z => absurd (show false = true from z) (by decide))⟩)⟩, (by rw [e2242]; exact fa_fr.u (fa_fr.tr (fa_fr.tr (fa_fr.tr (fa_fr.tr (fa_fr.tr (fa_fr.tr (by rw [e2209]; exact fa_fr.u (by rw [e2206]; exact fa_fr.u fa_fr.rf (by omega)) (by omega)) (fa_fr.wide h2211.2 (by omega) (by omega))) (fa_fr.wide h2215.2 (by omega) (by omega))) (fa_fr.wide h2219.2 (by omega) (by omega))) (fa_fr.wide h2223.2 (by omega) (by omega))) (fa_fr.wide h2230.2 (by omega) (by omega))) (fa_fr.wide h2237.2 (by omega) (by omega))) (by omega))⟩⟩)
                · exact absurd (by try decide) c_265
              · have hn2 := fa_ift hxn2 c_169
                refine lv_iconst (v := nI (1)) hx hb dX7_readsOrder_172 (by decide) ?_
                refine lv_goto (tgt := 177) hx hb dX7_readsOrder_173 (by decide) ?_
                refine lv_istore_n (lv' := [(1, .int (nI (1))), (0, .ref (fa_B G + (397)))]) hx hb dX7_readsOrder_177 rfl hl (by decide) rfl (fun ls hl => ?_)
                refine lv_goto (tgt := 259) hx hb dX7_readsOrder_178 (by decide) ?_
                refine lv_aload_n hx hb dX7_readsOrder_259 rfl (lv_at hl 1 rfl) ?_
                refine lv_dup hx hb dX7_readsOrder_260 rfl ?_
                refine fa_geti (k := 397) CX HX2240 fl_X7_141 (by omega) rfl rfl dX7_readsOrder_261 ?_
                rw [show v2239 397 11 = nI (no) from (go_x2238.trans (congrArg nI ho_x2238.e))]
                refine lv_iload_n hx hb dX7_readsOrder_264 rfl (lv_at hl 0 rfl) ?_
                refine lv_if_eq (tgt := 272) hx hb dX7_readsOrder_265 (by decide) (fun c_265 => ?_) (fun c_265 => ?_)
                · exact absurd c_265 (by try decide)
                · refine lv_iconst (v := nI (1)) hx hb dX7_readsOrder_268 (by decide) ?_
                  refine lv_goto (tgt := 273) hx hb dX7_readsOrder_269 (by decide) ?_
                  refine fa_iaddN hx hb dX7_readsOrder_273 ?_
                  refine fa_puti (k := 397) CX HX2240 fl_X7_141 (by omega) rfl rfl rfl rfl dX7_readsOrder_274 (fun H locs v2244 e2245 HX2246 => ?_)
                  refine lv_iload_n hx hb dX7_readsOrder_277 rfl (lv_at hl 0 rfl) ?_
                  exact RET _ _ _ _ _ _ _ HX2246 dX7_readsOrder_278 (by decide) (⟨rfl, ⟨⟨(by rw [((fa_ord_s (Or.inl hS115)).trans (fa_two_y hn1 hmn1.e hcm hn2))]; exact rfl), m_x2238, no + 1, ⟨by omega, by omega, (by have hfx := (show na + 2 ≤ m_x2238 from by have z := (fa_ord_le (t := t) hna).2.2; rw [((fa_ord_s (Or.inl hS115)).trans (fa_two_y hn1 hmn1.e hcm hn2))] at z; rw [hmn2.e]; exact z rfl); omega), fa_is.mk (by rw [((fa_ord_s (Or.inl hS115)).trans (fa_two_y hn1 hmn1.e hcm hn2))]; exact hmn2.e), fa_is.mk (by rw [((fa_ord_s (Or.inl hS115)).trans (fa_two_y hn1 hmn1.e hcm hn2))]; exact (show no + 1 = no + 1 by omega))⟩, (show v2244 397 12 = nI (m_x2238) from (by rw [e2245, fa_u_n _ _ (by omega)]; exact gm_x2238)), (show v2244 397 11 = nI (no + 1) from (by rw [e2245, fa_u_s])), (show fa_f3 v v2244 from (by rw [e2245]; exact fa_f3.w (fa_f3.tr (fa_f3.tr (fa_f3.tr (fa_f3.tr (fa_f3.tr (fa_f3.tr (by rw [e2209]; exact fa_f3.u (by rw [e2206]; exact fa_f3.u fa_f3.rf)) hf_x2212) hf_x2216) hf_x2220) hf_x2224) hf_x2231) hf_x2238) (by decide))), (by rw [((fa_ord_s (Or.inl hS115)).trans (fa_two_y hn1 hmn1.e hcm hn2))]; exact ⟨(fun i hi => (by show v2244 403 i = _; rw [e2245, fa_u_k _ _ (by decide), hr_x2238.2 i (by omega), hr_x2231, hr_x2224.2 i (by omega), hr_x2220, hr_x2216, hr_x2212]; exact hA i hi)), (by show v2244 403 (4 * no) = _; rw [e2245, fa_u_k _ _ (by decide), hr_x2238.2 (4 * no) (by omega), hr_x2231, hr_x2224.2 (4 * no) (by omega), hr_x2220, hr_x2216, hr_x2212]; exact hB), (by show v2244 403 (4 * no + 1) = _; rw [e2245, fa_u_k _ _ (by decide), hr_x2238.2 (4 * no + 1) (by omega), hr_x2231, hr_x2224.2 (4 * no + 1) (by omega), hr_x2220, hr_x2216, hr_x2212]; exact hC), (fun _ => ⟨(by show v2244 403 (4 * no + 2) = _; rw [e2245, fa_u_k _ _ (by decide), hr_x2238.2 (4 * no + 2) (by omega), hr_x2231]; exact hr_x2224.1 hn1), (fun _ _ => (by show v2244 403 (4 * no + 3) = _; rw [e2245, fa_u_k _ _ (by decide)]; exact hr_x2238.1 hn2))⟩)⟩)⟩, (by rw [e2245]; exact fa_fr.u (fa_fr.tr (fa_fr.tr (fa_fr.tr (fa_fr.tr (fa_fr.tr (fa_fr.tr (by rw [e2209]; exact fa_fr.u (by rw [e2206]; exact fa_fr.u fa_fr.rf (by omega)) (by omega)) (fa_fr.wide h2211.2 (by omega) (by omega))) (fa_fr.wide h2215.2 (by omega) (by omega))) (fa_fr.wide h2219.2 (by omega) (by omega))) (fa_fr.wide h2223.2 (by omega) (by omega))) (fa_fr.wide h2230.2 (by omega) (by omega))) (fa_fr.wide h2237.2 (by omega) (by omega))) (by omega))⟩⟩)
        · have hS115 : ¬ fa_sg t n9 na = (115 : Int32) := fa_ifn hxa (by first | exact c_128 | exact Decidable.not_not.mp c_128)
          have hp115 := hma.e.trans (fa_acc_f hS115)
          clear ha_x2220 hc_x2220 hd_x2220 hxa hma
          refine lv_aload_n hx hb dX7_readsOrder_131 rfl (lv_at hl 0 rfl) ?_
          refine lv_bipush (v := nI (108)) hx hb dX7_readsOrder_132 (by decide) ?_
          refine fa_callViu (As := [.int (nI (108))]) (rest := []) CX HX2222 (r_accepts l G n hn v2221 r hM (n9) (na) (no) (by omega) (by omega) (by omega) ((hf_x2220.2 9 (by decide) (by decide)).trans ((hf_x2216.2 9 (by decide) (by decide)).trans ((hf_x2212.2 9 (by decide) (by decide)).trans (by rw [e2209, fa_u_n _ _ (by omega)]; exact (by rw [e2206, fa_u_n _ _ (by omega)]; exact g9))))) ((gm_x2220).trans (congrArg nI hp115)) (go_x2220.trans (congrArg nI ho_x2220.e)) t ((h2219.2 405 (by omega)).trans ((h2215.2 405 (by omega)).trans ((h2211.2 405 (by omega)).trans (((congrFun e2209 405).trans (fa_u_k _ _ (by decide))).trans (((congrFun e2206 405).trans (fa_u_k _ _ (by decide))).trans h5))))) (nI (108)) (by decide)) ln_X7_144 (by omega) rfl rfl rfl rfl (Nat.le_of_ble_eq_true rfl) hl.1 ⟨Nat.le_of_ble_eq_true rfl, Nat.le_of_ble_eq_true rfl⟩ ⟨Nat.le_refl _, Nat.le_refl _⟩ dX7_readsOrder_134 (fun x2248 v2249 H locs h2247 HX2250 => ?_)
          obtain ⟨hx_x2248, m_x2248, o_x2248, ⟨ha_x2248, hc_x2248, hd_x2248, hm_x2248, ho_x2248⟩, gm_x2248, go_x2248, hf_x2248, hr_x2248⟩ := h2247.1
          have hxa := hx_x2248
          have hma := hm_x2248
          refine lv_if_eq (tgt := 181) hx hb dX7_readsOrder_137 (by decide) (fun c_137 => ?_) (fun c_137 => ?_)
          · have hS108 : ¬ fa_sg t n9 na = (108 : Int32) := fa_ifn hxa (by first | exact c_137 | exact Decidable.not_not.mp c_137)
            have hp108 := hma.e.trans (fa_acc_f hS108)
            clear ha_x2248 hc_x2248 hd_x2248 hxa hma
            refine lv_aload_n hx hb dX7_readsOrder_181 rfl (lv_at hl 0 rfl) ?_
            refine lv_bipush (v := nI (102)) hx hb dX7_readsOrder_182 (by decide) ?_
            refine fa_callViu (As := [.int (nI (102))]) (rest := []) CX HX2250 (r_accepts l G n hn v2249 r hM (n9) (na) (no) (by omega) (by omega) (by omega) ((hf_x2248.2 9 (by decide) (by decide)).trans ((hf_x2220.2 9 (by decide) (by decide)).trans ((hf_x2216.2 9 (by decide) (by decide)).trans ((hf_x2212.2 9 (by decide) (by decide)).trans (by rw [e2209, fa_u_n _ _ (by omega)]; exact (by rw [e2206, fa_u_n _ _ (by omega)]; exact g9)))))) ((gm_x2248).trans (congrArg nI hp108)) (go_x2248.trans (congrArg nI ho_x2248.e)) t ((h2247.2 405 (by omega)).trans ((h2219.2 405 (by omega)).trans ((h2215.2 405 (by omega)).trans ((h2211.2 405 (by omega)).trans (((congrFun e2209 405).trans (fa_u_k _ _ (by decide))).trans (((congrFun e2206 405).trans (fa_u_k _ _ (by decide))).trans h5)))))) (nI (102)) (by decide)) ln_X7_144 (by omega) rfl rfl rfl rfl (Nat.le_of_ble_eq_true rfl) hl.1 ⟨Nat.le_of_ble_eq_true rfl, Nat.le_of_ble_eq_true rfl⟩ ⟨Nat.le_refl _, Nat.le_refl _⟩ dX7_readsOrder_184 (fun x2252 v2253 H locs h2251 HX2254 => ?_)
            obtain ⟨hx_x2252, m_x2252, o_x2252, ⟨ha_x2252, hc_x2252, hd_x2252, hm_x2252, ho_x2252⟩, gm_x2252, go_x2252, hf_x2252, hr_x2252⟩ := h2251.1
            have hxa := hx_x2252
            have hma := hm_x2252
            refine lv_if_eq (tgt := 232) hx hb dX7_readsOrder_187 (by decide) (fun c_187 => ?_) (fun c_187 => ?_)
            · have hS102 : ¬ fa_sg t n9 na = (102 : Int32) := fa_ifn hxa (by first | exact c_187 | exact Decidable.not_not.mp c_187)
              have hp102 := hma.e.trans (fa_acc_f hS102)
              clear ha_x2252 hc_x2252 hd_x2252 hxa hma
              refine lv_aload_n hx hb dX7_readsOrder_232 rfl (lv_at hl 0 rfl) ?_
              refine lv_bipush (v := nI (100)) hx hb dX7_readsOrder_233 (by decide) ?_
              refine fa_callViu (As := [.int (nI (100))]) (rest := []) CX HX2254 (r_accepts l G n hn v2253 r hM (n9) (na) (no) (by omega) (by omega) (by omega) ((hf_x2252.2 9 (by decide) (by decide)).trans ((hf_x2248.2 9 (by decide) (by decide)).trans ((hf_x2220.2 9 (by decide) (by decide)).trans ((hf_x2216.2 9 (by decide) (by decide)).trans ((hf_x2212.2 9 (by decide) (by decide)).trans (by rw [e2209, fa_u_n _ _ (by omega)]; exact (by rw [e2206, fa_u_n _ _ (by omega)]; exact g9))))))) ((gm_x2252).trans (congrArg nI hp102)) (go_x2252.trans (congrArg nI ho_x2252.e)) t ((h2251.2 405 (by omega)).trans ((h2247.2 405 (by omega)).trans ((h2219.2 405 (by omega)).trans ((h2215.2 405 (by omega)).trans ((h2211.2 405 (by omega)).trans (((congrFun e2209 405).trans (fa_u_k _ _ (by decide))).trans (((congrFun e2206 405).trans (fa_u_k _ _ (by decide))).trans h5))))))) (nI (100)) (by decide)) ln_X7_144 (by omega) rfl rfl rfl rfl (Nat.le_of_ble_eq_true rfl) hl.1 ⟨Nat.le_of_ble_eq_true rfl, Nat.le_of_ble_eq_true rfl⟩ ⟨Nat.le_refl _, Nat.le_refl _⟩ dX7_readsOrder_235 (fun x2256 v2257 H locs h2255 HX2258 => ?_)
              obtain ⟨hx_x2256, m_x2256, o_x2256, ⟨ha_x2256, hc_x2256, hd_x2256, hm_x2256, ho_x2256⟩, gm_x2256, go_x2256, hf_x2256, hr_x2256⟩ := h2255.1
              have hxa := hx_x2256
              have hma := hm_x2256
              refine lv_if_eq (tgt := 257) hx hb dX7_readsOrder_238 (by decide) (fun c_238 => ?_) (fun c_238 => ?_)
              · have hS100 : ¬ fa_sg t n9 na = (100 : Int32) := fa_ifn hxa (by first | exact c_238 | exact Decidable.not_not.mp c_238)
                have hp100 := hma.e.trans (fa_acc_f hS100)
                clear ha_x2256 hc_x2256 hd_x2256 hxa hma
                refine lv_iconst (v := nI (0)) hx hb dX7_readsOrder_257 (by decide) ?_
                refine lv_istore_n (lv' := [(1, .int (nI (0))), (0, .ref (fa_B G + (397)))]) hx hb dX7_readsOrder_258 rfl hl (by decide) rfl (fun ls hl => ?_)
                refine lv_aload_n hx hb dX7_readsOrder_259 rfl (lv_at hl 1 rfl) ?_
                refine lv_dup hx hb dX7_readsOrder_260 rfl ?_
                refine fa_geti (k := 397) CX HX2258 fl_X7_141 (by omega) rfl rfl dX7_readsOrder_261 ?_
                rw [show v2257 397 11 = nI (no) from (go_x2256.trans (congrArg nI ho_x2256.e))]
                refine lv_iload_n hx hb dX7_readsOrder_264 rfl (lv_at hl 0 rfl) ?_
                refine lv_if_eq (tgt := 272) hx hb dX7_readsOrder_265 (by decide) (fun c_265 => ?_) (fun c_265 => ?_)
                · refine lv_iconst (v := nI (0)) hx hb dX7_readsOrder_272 (by decide) ?_
                  refine fa_iaddN hx hb dX7_readsOrder_273 ?_
                  refine fa_puti (k := 397) CX HX2258 fl_X7_141 (by omega) rfl rfl rfl rfl dX7_readsOrder_274 (fun H locs v2259 e2260 HX2261 => ?_)
                  refine lv_iload_n hx hb dX7_readsOrder_277 rfl (lv_at hl 0 rfl) ?_
                  exact RET _ _ _ _ _ _ _ HX2261 dX7_readsOrder_278 (by decide) (⟨rfl, ⟨⟨(by rw [(fa_ord_no hS110 hS97 hS115 hS108 hS102 hS100)]; exact rfl), na, no + 0, ⟨by omega, by omega, by omega, fa_is.mk (by rw [(fa_ord_no hS110 hS97 hS115 hS108 hS102 hS100)]), fa_is.mk (by rw [(fa_ord_no hS110 hS97 hS115 hS108 hS102 hS100)]; exact (show no + 0 = no by omega))⟩, (show v2259 397 12 = nI (na) from (by rw [e2260, fa_u_n _ _ (by omega)]; exact ((gm_x2256).trans (congrArg nI hp100)))), (show v2259 397 11 = nI (no + 0) from (by rw [e2260, fa_u_s])), (show fa_f3 v v2259 from (by rw [e2260]; exact fa_f3.w (fa_f3.tr (fa_f3.tr (fa_f3.tr (fa_f3.tr (fa_f3.tr (fa_f3.tr (by rw [e2209]; exact fa_f3.u (by rw [e2206]; exact fa_f3.u fa_f3.rf)) hf_x2212) hf_x2216) hf_x2220) hf_x2248) hf_x2252) hf_x2256) (by decide))), (by rw [(fa_ord_no hS110 hS97 hS115 hS108 hS102 hS100)]; exact ⟨(fun i hi => (by show v2259 403 i = _; rw [e2260, fa_u_k _ _ (by decide), hr_x2256, hr_x2252, hr_x2248, hr_x2220, hr_x2216, hr_x2212]; exact hA i hi)), (by show v2259 403 (4 * no) = _; rw [e2260, fa_u_k _ _ (by decide), hr_x2256, hr_x2252, hr_x2248, hr_x2220, hr_x2216, hr_x2212]; exact hB), (by show v2259 403 (4 * no + 1) = _; rw [e2260, fa_u_k _ _ (by decide), hr_x2256, hr_x2252, hr_x2248, hr_x2220, hr_x2216, hr_x2212]; exact hC), (fun z => absurd (show false = true from z) (by decide))⟩)⟩, (by rw [e2260]; exact fa_fr.u (fa_fr.tr (fa_fr.tr (fa_fr.tr (fa_fr.tr (fa_fr.tr (fa_fr.tr (by rw [e2209]; exact fa_fr.u (by rw [e2206]; exact fa_fr.u fa_fr.rf (by omega)) (by omega)) (fa_fr.wide h2211.2 (by omega) (by omega))) (fa_fr.wide h2215.2 (by omega) (by omega))) (fa_fr.wide h2219.2 (by omega) (by omega))) (fa_fr.wide h2247.2 (by omega) (by omega))) (fa_fr.wide h2251.2 (by omega) (by omega))) (fa_fr.wide h2255.2 (by omega) (by omega))) (by omega))⟩⟩)
                · exact absurd (by try decide) c_265
              · have hS100 : fa_sg t n9 na = (100 : Int32) := fa_ift hxa c_238
                have hp100 := hma.e.trans (fa_acc_t hS100)
                have hlt : na < n9 := fa_sg_nz hS100 (by decide)
                clear ha_x2256 hc_x2256 hd_x2256
                refine lv_aload_n hx hb dX7_readsOrder_241 rfl (lv_at hl 0 rfl) ?_
                refine lv_iconst (v := nI (2)) hx hb dX7_readsOrder_242 (by decide) ?_
                refine lv_iconst (v := nI (1)) hx hb dX7_readsOrder_243 (by decide) ?_
                refine lv_sipush (v := nI (400)) hx hb dX7_readsOrder_244 (by decide) ?_
                refine fa_callViu (As := [.int (nI (2)), .int (nI (1)), .int (nI (400))]) (rest := []) CX HX2258 (r_number l G n hn v2257 r hM (n9) (na + 1) (no) (by omega) (by omega) (by omega) ((hf_x2256.2 9 (by decide) (by decide)).trans ((hf_x2252.2 9 (by decide) (by decide)).trans ((hf_x2248.2 9 (by decide) (by decide)).trans ((hf_x2220.2 9 (by decide) (by decide)).trans ((hf_x2216.2 9 (by decide) (by decide)).trans ((hf_x2212.2 9 (by decide) (by decide)).trans (by rw [e2209, fa_u_n _ _ (by omega)]; exact (by rw [e2206, fa_u_n _ _ (by omega)]; exact g9)))))))) ((gm_x2256).trans (congrArg nI hp100)) (go_x2256.trans (congrArg nI ho_x2256.e)) t ((h2255.2 405 (by omega)).trans ((h2251.2 405 (by omega)).trans ((h2247.2 405 (by omega)).trans ((h2219.2 405 (by omega)).trans ((h2215.2 405 (by omega)).trans ((h2211.2 405 (by omega)).trans (((congrFun e2209 405).trans (fa_u_k _ _ (by decide))).trans (((congrFun e2206 405).trans (fa_u_k _ _ (by decide))).trans h5)))))))) (2) (nI (1)) (nI (400)) (by omega) ⟨1, by decide, rfl⟩ ⟨400, by decide, rfl⟩) ln_X7_148 (by omega) rfl rfl rfl rfl (Nat.le_of_ble_eq_true rfl) hl.1 ⟨Nat.le_of_ble_eq_true rfl, Nat.le_of_ble_eq_true rfl⟩ ⟨Nat.le_refl _, Nat.le_refl _⟩ dX7_readsOrder_247 (fun x2263 v2264 H locs h2262 HX2265 => ?_)
                obtain ⟨hx_x2263, m_x2263, o_x2263, ⟨ha_x2263, hc_x2263, hd_x2263, hm_x2263, ho_x2263⟩, gm_x2263, go_x2263, hf_x2263, hr_x2263⟩ := h2262.1
                have hxn1 := hx_x2263
                have hmn1 := hm_x2263
                refine lv_if_eq (tgt := 257) hx hb dX7_readsOrder_250 (by decide) (fun c_250 => ?_) (fun c_250 => ?_)
                · have hn1 := fa_ifn hxn1 c_250
                  refine lv_iconst (v := nI (0)) hx hb dX7_readsOrder_257 (by decide) ?_
                  refine lv_istore_n (lv' := [(1, .int (nI (0))), (0, .ref (fa_B G + (397)))]) hx hb dX7_readsOrder_258 rfl hl (by decide) rfl (fun ls hl => ?_)
                  refine lv_aload_n hx hb dX7_readsOrder_259 rfl (lv_at hl 1 rfl) ?_
                  refine lv_dup hx hb dX7_readsOrder_260 rfl ?_
                  refine fa_geti (k := 397) CX HX2265 fl_X7_141 (by omega) rfl rfl dX7_readsOrder_261 ?_
                  rw [show v2264 397 11 = nI (no) from (go_x2263.trans (congrArg nI ho_x2263.e))]
                  refine lv_iload_n hx hb dX7_readsOrder_264 rfl (lv_at hl 0 rfl) ?_
                  refine lv_if_eq (tgt := 272) hx hb dX7_readsOrder_265 (by decide) (fun c_265 => ?_) (fun c_265 => ?_)
                  · refine lv_iconst (v := nI (0)) hx hb dX7_readsOrder_272 (by decide) ?_
                    refine fa_iaddN hx hb dX7_readsOrder_273 ?_
                    refine fa_puti (k := 397) CX HX2265 fl_X7_141 (by omega) rfl rfl rfl rfl dX7_readsOrder_274 (fun H locs v2266 e2267 HX2268 => ?_)
                    refine lv_iload_n hx hb dX7_readsOrder_277 rfl (lv_at hl 0 rfl) ?_
                    exact RET _ _ _ _ _ _ _ HX2268 dX7_readsOrder_278 (by decide) (⟨rfl, ⟨⟨(by rw [((fa_ord_d hS100).trans (fa_one_f hn1))]; exact rfl), m_x2263, no + 0, ⟨by omega, by omega, by omega, fa_is.mk (by rw [((fa_ord_d hS100).trans (fa_one_f hn1))]; exact hmn1.e), fa_is.mk (by rw [((fa_ord_d hS100).trans (fa_one_f hn1))]; exact (show no + 0 = no by omega))⟩, (show v2266 397 12 = nI (m_x2263) from (by rw [e2267, fa_u_n _ _ (by omega)]; exact gm_x2263)), (show v2266 397 11 = nI (no + 0) from (by rw [e2267, fa_u_s])), (show fa_f3 v v2266 from (by rw [e2267]; exact fa_f3.w (fa_f3.tr (fa_f3.tr (fa_f3.tr (fa_f3.tr (fa_f3.tr (fa_f3.tr (fa_f3.tr (by rw [e2209]; exact fa_f3.u (by rw [e2206]; exact fa_f3.u fa_f3.rf)) hf_x2212) hf_x2216) hf_x2220) hf_x2248) hf_x2252) hf_x2256) hf_x2263) (by decide))), (by rw [((fa_ord_d hS100).trans (fa_one_f hn1))]; exact ⟨(fun i hi => (by show v2266 403 i = _; rw [e2267, fa_u_k _ _ (by decide), hr_x2263.2 i (by omega), hr_x2256, hr_x2252, hr_x2248, hr_x2220, hr_x2216, hr_x2212]; exact hA i hi)), (by show v2266 403 (4 * no) = _; rw [e2267, fa_u_k _ _ (by decide), hr_x2263.2 (4 * no) (by omega), hr_x2256, hr_x2252, hr_x2248, hr_x2220, hr_x2216, hr_x2212]; exact hB), (by show v2266 403 (4 * no + 1) = _; rw [e2267, fa_u_k _ _ (by decide), hr_x2263.2 (4 * no + 1) (by omega), hr_x2256, hr_x2252, hr_x2248, hr_x2220, hr_x2216, hr_x2212]; exact hC), (fun z => absurd (show false = true from z) (by decide))⟩)⟩, (by rw [e2267]; exact fa_fr.u (fa_fr.tr (fa_fr.tr (fa_fr.tr (fa_fr.tr (fa_fr.tr (fa_fr.tr (fa_fr.tr (by rw [e2209]; exact fa_fr.u (by rw [e2206]; exact fa_fr.u fa_fr.rf (by omega)) (by omega)) (fa_fr.wide h2211.2 (by omega) (by omega))) (fa_fr.wide h2215.2 (by omega) (by omega))) (fa_fr.wide h2219.2 (by omega) (by omega))) (fa_fr.wide h2247.2 (by omega) (by omega))) (fa_fr.wide h2251.2 (by omega) (by omega))) (fa_fr.wide h2255.2 (by omega) (by omega))) (fa_fr.wide h2262.2 (by omega) (by omega))) (by omega))⟩⟩)
                  · exact absurd (by try decide) c_265
                · have hn1 := fa_ift hxn1 c_250
                  refine lv_iconst (v := nI (1)) hx hb dX7_readsOrder_253 (by decide) ?_
                  refine lv_goto (tgt := 258) hx hb dX7_readsOrder_254 (by decide) ?_
                  refine lv_istore_n (lv' := [(1, .int (nI (1))), (0, .ref (fa_B G + (397)))]) hx hb dX7_readsOrder_258 rfl hl (by decide) rfl (fun ls hl => ?_)
                  refine lv_aload_n hx hb dX7_readsOrder_259 rfl (lv_at hl 1 rfl) ?_
                  refine lv_dup hx hb dX7_readsOrder_260 rfl ?_
                  refine fa_geti (k := 397) CX HX2265 fl_X7_141 (by omega) rfl rfl dX7_readsOrder_261 ?_
                  rw [show v2264 397 11 = nI (no) from (go_x2263.trans (congrArg nI ho_x2263.e))]
                  refine lv_iload_n hx hb dX7_readsOrder_264 rfl (lv_at hl 0 rfl) ?_
                  refine lv_if_eq (tgt := 272) hx hb dX7_readsOrder_265 (by decide) (fun c_265 => ?_) (fun c_265 => ?_)
                  · exact absurd c_265 (by try decide)
                  · refine lv_iconst (v := nI (1)) hx hb dX7_readsOrder_268 (by decide) ?_
                    refine lv_goto (tgt := 273) hx hb dX7_readsOrder_269 (by decide) ?_
                    refine fa_iaddN hx hb dX7_readsOrder_273 ?_
                    refine fa_puti (k := 397) CX HX2265 fl_X7_141 (by omega) rfl rfl rfl rfl dX7_readsOrder_274 (fun H locs v2269 e2270 HX2271 => ?_)
                    refine lv_iload_n hx hb dX7_readsOrder_277 rfl (lv_at hl 0 rfl) ?_
                    exact RET _ _ _ _ _ _ _ HX2271 dX7_readsOrder_278 (by decide) (⟨rfl, ⟨⟨(by rw [((fa_ord_d hS100).trans (fa_one_t hn1))]; exact rfl), m_x2263, no + 1, ⟨by omega, by omega, (by have hfx := (show na + 2 ≤ m_x2263 from by have z := (fa_ord_le (t := t) hna).2.2; rw [((fa_ord_d hS100).trans (fa_one_t hn1))] at z; rw [hmn1.e]; exact z rfl); omega), fa_is.mk (by rw [((fa_ord_d hS100).trans (fa_one_t hn1))]; exact hmn1.e), fa_is.mk (by rw [((fa_ord_d hS100).trans (fa_one_t hn1))]; exact (show no + 1 = no + 1 by omega))⟩, (show v2269 397 12 = nI (m_x2263) from (by rw [e2270, fa_u_n _ _ (by omega)]; exact gm_x2263)), (show v2269 397 11 = nI (no + 1) from (by rw [e2270, fa_u_s])), (show fa_f3 v v2269 from (by rw [e2270]; exact fa_f3.w (fa_f3.tr (fa_f3.tr (fa_f3.tr (fa_f3.tr (fa_f3.tr (fa_f3.tr (fa_f3.tr (by rw [e2209]; exact fa_f3.u (by rw [e2206]; exact fa_f3.u fa_f3.rf)) hf_x2212) hf_x2216) hf_x2220) hf_x2248) hf_x2252) hf_x2256) hf_x2263) (by decide))), (by rw [((fa_ord_d hS100).trans (fa_one_t hn1))]; exact ⟨(fun i hi => (by show v2269 403 i = _; rw [e2270, fa_u_k _ _ (by decide), hr_x2263.2 i (by omega), hr_x2256, hr_x2252, hr_x2248, hr_x2220, hr_x2216, hr_x2212]; exact hA i hi)), (by show v2269 403 (4 * no) = _; rw [e2270, fa_u_k _ _ (by decide), hr_x2263.2 (4 * no) (by omega), hr_x2256, hr_x2252, hr_x2248, hr_x2220, hr_x2216, hr_x2212]; exact hB), (by show v2269 403 (4 * no + 1) = _; rw [e2270, fa_u_k _ _ (by decide), hr_x2263.2 (4 * no + 1) (by omega), hr_x2256, hr_x2252, hr_x2248, hr_x2220, hr_x2216, hr_x2212]; exact hC), (fun _ => ⟨(by show v2269 403 (4 * no + 2) = _; rw [e2270, fa_u_k _ _ (by decide)]; exact hr_x2263.1 hn1), (fun y1 y2 => by first | exact absurd hS97 y1 | exact absurd hS100 y2)⟩)⟩)⟩, (by rw [e2270]; exact fa_fr.u (fa_fr.tr (fa_fr.tr (fa_fr.tr (fa_fr.tr (fa_fr.tr (fa_fr.tr (fa_fr.tr (by rw [e2209]; exact fa_fr.u (by rw [e2206]; exact fa_fr.u fa_fr.rf (by omega)) (by omega)) (fa_fr.wide h2211.2 (by omega) (by omega))) (fa_fr.wide h2215.2 (by omega) (by omega))) (fa_fr.wide h2219.2 (by omega) (by omega))) (fa_fr.wide h2247.2 (by omega) (by omega))) (fa_fr.wide h2251.2 (by omega) (by omega))) (fa_fr.wide h2255.2 (by omega) (by omega))) (fa_fr.wide h2262.2 (by omega) (by omega))) (by omega))⟩⟩)
            · have hS102 : fa_sg t n9 na = (102 : Int32) := fa_ift hxa c_187
              have hp102 := hma.e.trans (fa_acc_t hS102)
              have hlt : na < n9 := fa_sg_nz hS102 (by decide)
              clear ha_x2252 hc_x2252 hd_x2252
              refine lv_aload_n hx hb dX7_readsOrder_190 rfl (lv_at hl 0 rfl) ?_
              refine lv_iconst (v := nI (2)) hx hb dX7_readsOrder_191 (by decide) ?_
              refine lv_iconst (v := nI (0)) hx hb dX7_readsOrder_192 (by decide) ?_
              refine lv_sipush (v := nI (199)) hx hb dX7_readsOrder_193 (by decide) ?_
              refine fa_callViu (As := [.int (nI (2)), .int (nI (0)), .int (nI (199))]) (rest := []) CX HX2254 (r_number l G n hn v2253 r hM (n9) (na + 1) (no) (by omega) (by omega) (by omega) ((hf_x2252.2 9 (by decide) (by decide)).trans ((hf_x2248.2 9 (by decide) (by decide)).trans ((hf_x2220.2 9 (by decide) (by decide)).trans ((hf_x2216.2 9 (by decide) (by decide)).trans ((hf_x2212.2 9 (by decide) (by decide)).trans (by rw [e2209, fa_u_n _ _ (by omega)]; exact (by rw [e2206, fa_u_n _ _ (by omega)]; exact g9))))))) ((gm_x2252).trans (congrArg nI hp102)) (go_x2252.trans (congrArg nI ho_x2252.e)) t ((h2251.2 405 (by omega)).trans ((h2247.2 405 (by omega)).trans ((h2219.2 405 (by omega)).trans ((h2215.2 405 (by omega)).trans ((h2211.2 405 (by omega)).trans (((congrFun e2209 405).trans (fa_u_k _ _ (by decide))).trans (((congrFun e2206 405).trans (fa_u_k _ _ (by decide))).trans h5))))))) (2) (nI (0)) (nI (199)) (by omega) ⟨0, by decide, rfl⟩ ⟨199, by decide, rfl⟩) ln_X7_148 (by omega) rfl rfl rfl rfl (Nat.le_of_ble_eq_true rfl) hl.1 ⟨Nat.le_of_ble_eq_true rfl, Nat.le_of_ble_eq_true rfl⟩ ⟨Nat.le_refl _, Nat.le_refl _⟩ dX7_readsOrder_196 (fun x2273 v2274 H locs h2272 HX2275 => ?_)
              obtain ⟨hx_x2273, m_x2273, o_x2273, ⟨ha_x2273, hc_x2273, hd_x2273, hm_x2273, ho_x2273⟩, gm_x2273, go_x2273, hf_x2273, hr_x2273⟩ := h2272.1
              have hxn1 := hx_x2273
              have hmn1 := hm_x2273
              refine lv_if_eq (tgt := 227) hx hb dX7_readsOrder_199 (by decide) (fun c_199 => ?_) (fun c_199 => ?_)
              · have hn1 := fa_ifn hxn1 c_199
                refine lv_iconst (v := nI (0)) hx hb dX7_readsOrder_227 (by decide) ?_
                refine lv_istore_n (lv' := [(1, .int (nI (0))), (0, .ref (fa_B G + (397)))]) hx hb dX7_readsOrder_228 rfl hl (by decide) rfl (fun ls hl => ?_)
                refine lv_goto (tgt := 259) hx hb dX7_readsOrder_229 (by decide) ?_
                refine lv_aload_n hx hb dX7_readsOrder_259 rfl (lv_at hl 1 rfl) ?_
                refine lv_dup hx hb dX7_readsOrder_260 rfl ?_
                refine fa_geti (k := 397) CX HX2275 fl_X7_141 (by omega) rfl rfl dX7_readsOrder_261 ?_
                rw [show v2274 397 11 = nI (no) from (go_x2273.trans (congrArg nI ho_x2273.e))]
                refine lv_iload_n hx hb dX7_readsOrder_264 rfl (lv_at hl 0 rfl) ?_
                refine lv_if_eq (tgt := 272) hx hb dX7_readsOrder_265 (by decide) (fun c_265 => ?_) (fun c_265 => ?_)
                · refine lv_iconst (v := nI (0)) hx hb dX7_readsOrder_272 (by decide) ?_
                  refine fa_iaddN hx hb dX7_readsOrder_273 ?_
                  refine fa_puti (k := 397) CX HX2275 fl_X7_141 (by omega) rfl rfl rfl rfl dX7_readsOrder_274 (fun H locs v2276 e2277 HX2278 => ?_)
                  refine lv_iload_n hx hb dX7_readsOrder_277 rfl (lv_at hl 0 rfl) ?_
                  exact RET _ _ _ _ _ _ _ HX2278 dX7_readsOrder_278 (by decide) (⟨rfl, ⟨⟨(by rw [((fa_ord_f hS102).trans (fa_two_f hn1))]; exact rfl), m_x2273, no + 0, ⟨by omega, by omega, by omega, fa_is.mk (by rw [((fa_ord_f hS102).trans (fa_two_f hn1))]; exact hmn1.e), fa_is.mk (by rw [((fa_ord_f hS102).trans (fa_two_f hn1))]; exact (show no + 0 = no by omega))⟩, (show v2276 397 12 = nI (m_x2273) from (by rw [e2277, fa_u_n _ _ (by omega)]; exact gm_x2273)), (show v2276 397 11 = nI (no + 0) from (by rw [e2277, fa_u_s])), (show fa_f3 v v2276 from (by rw [e2277]; exact fa_f3.w (fa_f3.tr (fa_f3.tr (fa_f3.tr (fa_f3.tr (fa_f3.tr (fa_f3.tr (by rw [e2209]; exact fa_f3.u (by rw [e2206]; exact fa_f3.u fa_f3.rf)) hf_x2212) hf_x2216) hf_x2220) hf_x2248) hf_x2252) hf_x2273) (by decide))), (by rw [((fa_ord_f hS102).trans (fa_two_f hn1))]; exact ⟨(fun i hi => (by show v2276 403 i = _; rw [e2277, fa_u_k _ _ (by decide), hr_x2273.2 i (by omega), hr_x2252, hr_x2248, hr_x2220, hr_x2216, hr_x2212]; exact hA i hi)), (by show v2276 403 (4 * no) = _; rw [e2277, fa_u_k _ _ (by decide), hr_x2273.2 (4 * no) (by omega), hr_x2252, hr_x2248, hr_x2220, hr_x2216, hr_x2212]; exact hB), (by show v2276 403 (4 * no + 1) = _; rw [e2277, fa_u_k _ _ (by decide), hr_x2273.2 (4 * no + 1) (by omega), hr_x2252, hr_x2248, hr_x2220, hr_x2216, hr_x2212]; exact hC), (fun z => absurd (show false = true from z) (by decide))⟩)⟩, (by rw [e2277]; exact fa_fr.u (fa_fr.tr (fa_fr.tr (fa_fr.tr (fa_fr.tr (fa_fr.tr (fa_fr.tr (by rw [e2209]; exact fa_fr.u (by rw [e2206]; exact fa_fr.u fa_fr.rf (by omega)) (by omega)) (fa_fr.wide h2211.2 (by omega) (by omega))) (fa_fr.wide h2215.2 (by omega) (by omega))) (fa_fr.wide h2219.2 (by omega) (by omega))) (fa_fr.wide h2247.2 (by omega) (by omega))) (fa_fr.wide h2251.2 (by omega) (by omega))) (fa_fr.wide h2272.2 (by omega) (by omega))) (by omega))⟩⟩)
                · exact absurd (by try decide) c_265
              · have hn1 := fa_ift hxn1 c_199
                refine lv_aload_n hx hb dX7_readsOrder_202 rfl (lv_at hl 0 rfl) ?_
                refine lv_bipush (v := nI (44)) hx hb dX7_readsOrder_203 (by decide) ?_
                refine fa_callViu (As := [.int (nI (44))]) (rest := []) CX HX2275 (r_accepts l G n hn v2274 r hM (n9) (m_x2273) (no) (by omega) (by omega) (by omega) ((hf_x2273.2 9 (by decide) (by decide)).trans ((hf_x2252.2 9 (by decide) (by decide)).trans ((hf_x2248.2 9 (by decide) (by decide)).trans ((hf_x2220.2 9 (by decide) (by decide)).trans ((hf_x2216.2 9 (by decide) (by decide)).trans ((hf_x2212.2 9 (by decide) (by decide)).trans (by rw [e2209, fa_u_n _ _ (by omega)]; exact (by rw [e2206, fa_u_n _ _ (by omega)]; exact g9)))))))) gm_x2273 (go_x2273.trans (congrArg nI ho_x2273.e)) t ((h2272.2 405 (by omega)).trans ((h2251.2 405 (by omega)).trans ((h2247.2 405 (by omega)).trans ((h2219.2 405 (by omega)).trans ((h2215.2 405 (by omega)).trans ((h2211.2 405 (by omega)).trans (((congrFun e2209 405).trans (fa_u_k _ _ (by decide))).trans (((congrFun e2206 405).trans (fa_u_k _ _ (by decide))).trans h5)))))))) (nI (44)) (by decide)) ln_X7_144 (by omega) rfl rfl rfl rfl (Nat.le_of_ble_eq_true rfl) hl.1 ⟨Nat.le_of_ble_eq_true rfl, Nat.le_of_ble_eq_true rfl⟩ ⟨Nat.le_refl _, Nat.le_refl _⟩ dX7_readsOrder_205 (fun x2280 v2281 H locs h2279 HX2282 => ?_)
                obtain ⟨hx_x2280, m_x2280, o_x2280, ⟨ha_x2280, hc_x2280, hd_x2280, hm_x2280, ho_x2280⟩, gm_x2280, go_x2280, hf_x2280, hr_x2280⟩ := h2279.1
                have hxc := hx_x2280
                have hmc := hm_x2280
                refine lv_if_eq (tgt := 227) hx hb dX7_readsOrder_208 (by decide) (fun c_208 => ?_) (fun c_208 => ?_)
                · have hcm := fa_ifn hxc c_208
                  have hpc := hmc.e.trans (fa_acc_f hcm)
                  refine lv_iconst (v := nI (0)) hx hb dX7_readsOrder_227 (by decide) ?_
                  refine lv_istore_n (lv' := [(1, .int (nI (0))), (0, .ref (fa_B G + (397)))]) hx hb dX7_readsOrder_228 rfl hl (by decide) rfl (fun ls hl => ?_)
                  refine lv_goto (tgt := 259) hx hb dX7_readsOrder_229 (by decide) ?_
                  refine lv_aload_n hx hb dX7_readsOrder_259 rfl (lv_at hl 1 rfl) ?_
                  refine lv_dup hx hb dX7_readsOrder_260 rfl ?_
                  refine fa_geti (k := 397) CX HX2282 fl_X7_141 (by omega) rfl rfl dX7_readsOrder_261 ?_
                  rw [show v2281 397 11 = nI (no) from (go_x2280.trans (congrArg nI ho_x2280.e))]
                  refine lv_iload_n hx hb dX7_readsOrder_264 rfl (lv_at hl 0 rfl) ?_
                  refine lv_if_eq (tgt := 272) hx hb dX7_readsOrder_265 (by decide) (fun c_265 => ?_) (fun c_265 => ?_)
                  · refine lv_iconst (v := nI (0)) hx hb dX7_readsOrder_272 (by decide) ?_
                    refine fa_iaddN hx hb dX7_readsOrder_273 ?_
                    refine fa_puti (k := 397) CX HX2282 fl_X7_141 (by omega) rfl rfl rfl rfl dX7_readsOrder_274 (fun H locs v2283 e2284 HX2285 => ?_)
                    refine lv_iload_n hx hb dX7_readsOrder_277 rfl (lv_at hl 0 rfl) ?_
                    exact RET _ _ _ _ _ _ _ HX2285 dX7_readsOrder_278 (by decide) (⟨rfl, ⟨⟨(by rw [((fa_ord_f hS102).trans (fa_two_c hn1 hmn1.e hcm))]; exact rfl), m_x2273, no + 0, ⟨by omega, by omega, by omega, fa_is.mk (by rw [((fa_ord_f hS102).trans (fa_two_c hn1 hmn1.e hcm))]), fa_is.mk (by rw [((fa_ord_f hS102).trans (fa_two_c hn1 hmn1.e hcm))]; exact (show no + 0 = no by omega))⟩, (show v2283 397 12 = nI (m_x2273) from (by rw [e2284, fa_u_n _ _ (by omega)]; exact ((gm_x2280).trans (congrArg nI hpc)))), (show v2283 397 11 = nI (no + 0) from (by rw [e2284, fa_u_s])), (show fa_f3 v v2283 from (by rw [e2284]; exact fa_f3.w (fa_f3.tr (fa_f3.tr (fa_f3.tr (fa_f3.tr (fa_f3.tr (fa_f3.tr (fa_f3.tr (by rw [e2209]; exact fa_f3.u (by rw [e2206]; exact fa_f3.u fa_f3.rf)) hf_x2212) hf_x2216) hf_x2220) hf_x2248) hf_x2252) hf_x2273) hf_x2280) (by decide))), (by rw [((fa_ord_f hS102).trans (fa_two_c hn1 hmn1.e hcm))]; exact ⟨(fun i hi => (by show v2283 403 i = _; rw [e2284, fa_u_k _ _ (by decide), hr_x2280, hr_x2273.2 i (by omega), hr_x2252, hr_x2248, hr_x2220, hr_x2216, hr_x2212]; exact hA i hi)), (by show v2283 403 (4 * no) = _; rw [e2284, fa_u_k _ _ (by decide), hr_x2280, hr_x2273.2 (4 * no) (by omega), hr_x2252, hr_x2248, hr_x2220, hr_x2216, hr_x2212]; exact hB), (by show v2283 403 (4 * no + 1) = _; rw [e2284, fa_u_k _ _ (by decide), hr_x2280, hr_x2273.2 (4 * no + 1) (by omega), hr_x2252, hr_x2248, hr_x2220, hr_x2216, hr_x2212]; exact hC), (fun z => absurd (show false = true from z) (by decide))⟩)⟩, (by rw [e2284]; exact fa_fr.u (fa_fr.tr (fa_fr.tr (fa_fr.tr (fa_fr.tr (fa_fr.tr (fa_fr.tr (fa_fr.tr (by rw [e2209]; exact fa_fr.u (by rw [e2206]; exact fa_fr.u fa_fr.rf (by omega)) (by omega)) (fa_fr.wide h2211.2 (by omega) (by omega))) (fa_fr.wide h2215.2 (by omega) (by omega))) (fa_fr.wide h2219.2 (by omega) (by omega))) (fa_fr.wide h2247.2 (by omega) (by omega))) (fa_fr.wide h2251.2 (by omega) (by omega))) (fa_fr.wide h2272.2 (by omega) (by omega))) (fa_fr.wide h2279.2 (by omega) (by omega))) (by omega))⟩⟩)
                  · exact absurd (by try decide) c_265
                · have hcm := fa_ift hxc c_208
                  have hpc := hmc.e.trans (fa_acc_t hcm)
                  refine lv_aload_n hx hb dX7_readsOrder_211 rfl (lv_at hl 0 rfl) ?_
                  refine lv_iconst (v := nI (3)) hx hb dX7_readsOrder_212 (by decide) ?_
                  refine lv_iconst (v := nI (0)) hx hb dX7_readsOrder_213 (by decide) ?_
                  refine lv_sipush (v := nI (199)) hx hb dX7_readsOrder_214 (by decide) ?_
                  refine fa_callViu (As := [.int (nI (3)), .int (nI (0)), .int (nI (199))]) (rest := []) CX HX2282 (r_number l G n hn v2281 r hM (n9) (m_x2273 + 1) (no) (by omega) (by omega) (by omega) ((hf_x2280.2 9 (by decide) (by decide)).trans ((hf_x2273.2 9 (by decide) (by decide)).trans ((hf_x2252.2 9 (by decide) (by decide)).trans ((hf_x2248.2 9 (by decide) (by decide)).trans ((hf_x2220.2 9 (by decide) (by decide)).trans ((hf_x2216.2 9 (by decide) (by decide)).trans ((hf_x2212.2 9 (by decide) (by decide)).trans (by rw [e2209, fa_u_n _ _ (by omega)]; exact (by rw [e2206, fa_u_n _ _ (by omega)]; exact g9))))))))) ((gm_x2280).trans (congrArg nI hpc)) (go_x2280.trans (congrArg nI ho_x2280.e)) t ((h2279.2 405 (by omega)).trans ((h2272.2 405 (by omega)).trans ((h2251.2 405 (by omega)).trans ((h2247.2 405 (by omega)).trans ((h2219.2 405 (by omega)).trans ((h2215.2 405 (by omega)).trans ((h2211.2 405 (by omega)).trans (((congrFun e2209 405).trans (fa_u_k _ _ (by decide))).trans (((congrFun e2206 405).trans (fa_u_k _ _ (by decide))).trans h5))))))))) (3) (nI (0)) (nI (199)) (by omega) ⟨0, by decide, rfl⟩ ⟨199, by decide, rfl⟩) ln_X7_148 (by omega) rfl rfl rfl rfl (Nat.le_of_ble_eq_true rfl) hl.1 ⟨Nat.le_of_ble_eq_true rfl, Nat.le_of_ble_eq_true rfl⟩ ⟨Nat.le_refl _, Nat.le_refl _⟩ dX7_readsOrder_217 (fun x2287 v2288 H locs h2286 HX2289 => ?_)
                  obtain ⟨hx_x2287, m_x2287, o_x2287, ⟨ha_x2287, hc_x2287, hd_x2287, hm_x2287, ho_x2287⟩, gm_x2287, go_x2287, hf_x2287, hr_x2287⟩ := h2286.1
                  have hxn2 := hx_x2287
                  have hmn2 := hm_x2287
                  refine lv_if_eq (tgt := 227) hx hb dX7_readsOrder_220 (by decide) (fun c_220 => ?_) (fun c_220 => ?_)
                  · have hn2 := fa_ifn hxn2 c_220
                    refine lv_iconst (v := nI (0)) hx hb dX7_readsOrder_227 (by decide) ?_
                    refine lv_istore_n (lv' := [(1, .int (nI (0))), (0, .ref (fa_B G + (397)))]) hx hb dX7_readsOrder_228 rfl hl (by decide) rfl (fun ls hl => ?_)
                    refine lv_goto (tgt := 259) hx hb dX7_readsOrder_229 (by decide) ?_
                    refine lv_aload_n hx hb dX7_readsOrder_259 rfl (lv_at hl 1 rfl) ?_
                    refine lv_dup hx hb dX7_readsOrder_260 rfl ?_
                    refine fa_geti (k := 397) CX HX2289 fl_X7_141 (by omega) rfl rfl dX7_readsOrder_261 ?_
                    rw [show v2288 397 11 = nI (no) from (go_x2287.trans (congrArg nI ho_x2287.e))]
                    refine lv_iload_n hx hb dX7_readsOrder_264 rfl (lv_at hl 0 rfl) ?_
                    refine lv_if_eq (tgt := 272) hx hb dX7_readsOrder_265 (by decide) (fun c_265 => ?_) (fun c_265 => ?_)
                    · refine lv_iconst (v := nI (0)) hx hb dX7_readsOrder_272 (by decide) ?_
                      refine fa_iaddN hx hb dX7_readsOrder_273 ?_
                      refine fa_puti (k := 397) CX HX2289 fl_X7_141 (by omega) rfl rfl rfl rfl dX7_readsOrder_274 (fun H locs v2290 e2291 HX2292 => ?_)
                      refine lv_iload_n hx hb dX7_readsOrder_277 rfl (lv_at hl 0 rfl) ?_
                      exact RET _ _ _ _ _ _ _ HX2292 dX7_readsOrder_278 (by decide) (⟨rfl, ⟨⟨(by rw [((fa_ord_f hS102).trans (fa_two_n hn1 hmn1.e hcm hn2))]; exact rfl), m_x2287, no + 0, ⟨by omega, by omega, by omega, fa_is.mk (by rw [((fa_ord_f hS102).trans (fa_two_n hn1 hmn1.e hcm hn2))]; exact hmn2.e), fa_is.mk (by rw [((fa_ord_f hS102).trans (fa_two_n hn1 hmn1.e hcm hn2))]; exact (show no + 0 = no by omega))⟩, (show v2290 397 12 = nI (m_x2287) from (by rw [e2291, fa_u_n _ _ (by omega)]; exact gm_x2287)), (show v2290 397 11 = nI (no + 0) from (by rw [e2291, fa_u_s])), (show fa_f3 v v2290 from (by rw [e2291]; exact fa_f3.w (fa_f3.tr (fa_f3.tr (fa_f3.tr (fa_f3.tr (fa_f3.tr (fa_f3.tr (fa_f3.tr (fa_f3.tr (by rw [e2209]; exact fa_f3.u (by rw [e2206]; exact fa_f3.u fa_f3.rf)) hf_x2212) hf_x2216) hf_x2220) hf_x2248) hf_x2252) hf_x2273) hf_x2280) hf_x2287) (by decide))), (by rw [((fa_ord_f hS102).trans (fa_two_n hn1 hmn1.e hcm hn2))]; exact ⟨(fun i hi => (by show v2290 403 i = _; rw [e2291, fa_u_k _ _ (by decide), hr_x2287.2 i (by omega), hr_x2280, hr_x2273.2 i (by omega), hr_x2252, hr_x2248, hr_x2220, hr_x2216, hr_x2212]; exact hA i hi)), (by show v2290 403 (4 * no) = _; rw [e2291, fa_u_k _ _ (by decide), hr_x2287.2 (4 * no) (by omega), hr_x2280, hr_x2273.2 (4 * no) (by omega), hr_x2252, hr_x2248, hr_x2220, hr_x2216, hr_x2212]; exact hB), (by show v2290 403 (4 * no + 1) = _; rw [e2291, fa_u_k _ _ (by decide), hr_x2287.2 (4 * no + 1) (by omega), hr_x2280, hr_x2273.2 (4 * no + 1) (by omega), hr_x2252, hr_x2248, hr_x2220, hr_x2216, hr_x2212]; exact hC), (fun z => absurd (show false = true from z) (by decide))⟩)⟩, (by rw [e2291]; exact fa_fr.u (fa_fr.tr (fa_fr.tr (fa_fr.tr (fa_fr.tr (fa_fr.tr (fa_fr.tr (fa_fr.tr (fa_fr.tr (by rw [e2209]; exact fa_fr.u (by rw [e2206]; exact fa_fr.u fa_fr.rf (by omega)) (by omega)) (fa_fr.wide h2211.2 (by omega) (by omega))) (fa_fr.wide h2215.2 (by omega) (by omega))) (fa_fr.wide h2219.2 (by omega) (by omega))) (fa_fr.wide h2247.2 (by omega) (by omega))) (fa_fr.wide h2251.2 (by omega) (by omega))) (fa_fr.wide h2272.2 (by omega) (by omega))) (fa_fr.wide h2279.2 (by omega) (by omega))) (fa_fr.wide h2286.2 (by omega) (by omega))) (by omega))⟩⟩)
                    · exact absurd (by try decide) c_265
                  · have hn2 := fa_ift hxn2 c_220
                    refine lv_iconst (v := nI (1)) hx hb dX7_readsOrder_223 (by decide) ?_
                    refine lv_goto (tgt := 228) hx hb dX7_readsOrder_224 (by decide) ?_
                    refine lv_istore_n (lv' := [(1, .int (nI (1))), (0, .ref (fa_B G + (397)))]) hx hb dX7_readsOrder_228 rfl hl (by decide) rfl (fun ls hl => ?_)
                    refine lv_goto (tgt := 259) hx hb dX7_readsOrder_229 (by decide) ?_
                    refine lv_aload_n hx hb dX7_readsOrder_259 rfl (lv_at hl 1 rfl) ?_
                    refine lv_dup hx hb dX7_readsOrder_260 rfl ?_
                    refine fa_geti (k := 397) CX HX2289 fl_X7_141 (by omega) rfl rfl dX7_readsOrder_261 ?_
                    rw [show v2288 397 11 = nI (no) from (go_x2287.trans (congrArg nI ho_x2287.e))]
                    refine lv_iload_n hx hb dX7_readsOrder_264 rfl (lv_at hl 0 rfl) ?_
                    refine lv_if_eq (tgt := 272) hx hb dX7_readsOrder_265 (by decide) (fun c_265 => ?_) (fun c_265 => ?_)
                    · exact absurd c_265 (by try decide)
                    · refine lv_iconst (v := nI (1)) hx hb dX7_readsOrder_268 (by decide) ?_
                      refine lv_goto (tgt := 273) hx hb dX7_readsOrder_269 (by decide) ?_
                      refine fa_iaddN hx hb dX7_readsOrder_273 ?_
                      refine fa_puti (k := 397) CX HX2289 fl_X7_141 (by omega) rfl rfl rfl rfl dX7_readsOrder_274 (fun H locs v2293 e2294 HX2295 => ?_)
                      refine lv_iload_n hx hb dX7_readsOrder_277 rfl (lv_at hl 0 rfl) ?_
                      exact RET _ _ _ _ _ _ _ HX2295 dX7_readsOrder_278 (by decide) (⟨rfl, ⟨⟨(by rw [((fa_ord_f hS102).trans (fa_two_y hn1 hmn1.e hcm hn2))]; exact rfl), m_x2287, no + 1, ⟨by omega, by omega, (by have hfx := (show na + 2 ≤ m_x2287 from by have z := (fa_ord_le (t := t) hna).2.2; rw [((fa_ord_f hS102).trans (fa_two_y hn1 hmn1.e hcm hn2))] at z; rw [hmn2.e]; exact z rfl); omega), fa_is.mk (by rw [((fa_ord_f hS102).trans (fa_two_y hn1 hmn1.e hcm hn2))]; exact hmn2.e), fa_is.mk (by rw [((fa_ord_f hS102).trans (fa_two_y hn1 hmn1.e hcm hn2))]; exact (show no + 1 = no + 1 by omega))⟩, (show v2293 397 12 = nI (m_x2287) from (by rw [e2294, fa_u_n _ _ (by omega)]; exact gm_x2287)), (show v2293 397 11 = nI (no + 1) from (by rw [e2294, fa_u_s])), (show fa_f3 v v2293 from (by rw [e2294]; exact fa_f3.w (fa_f3.tr (fa_f3.tr (fa_f3.tr (fa_f3.tr (fa_f3.tr (fa_f3.tr (fa_f3.tr (fa_f3.tr (by rw [e2209]; exact fa_f3.u (by rw [e2206]; exact fa_f3.u fa_f3.rf)) hf_x2212) hf_x2216) hf_x2220) hf_x2248) hf_x2252) hf_x2273) hf_x2280) hf_x2287) (by decide))), (by rw [((fa_ord_f hS102).trans (fa_two_y hn1 hmn1.e hcm hn2))]; exact ⟨(fun i hi => (by show v2293 403 i = _; rw [e2294, fa_u_k _ _ (by decide), hr_x2287.2 i (by omega), hr_x2280, hr_x2273.2 i (by omega), hr_x2252, hr_x2248, hr_x2220, hr_x2216, hr_x2212]; exact hA i hi)), (by show v2293 403 (4 * no) = _; rw [e2294, fa_u_k _ _ (by decide), hr_x2287.2 (4 * no) (by omega), hr_x2280, hr_x2273.2 (4 * no) (by omega), hr_x2252, hr_x2248, hr_x2220, hr_x2216, hr_x2212]; exact hB), (by show v2293 403 (4 * no + 1) = _; rw [e2294, fa_u_k _ _ (by decide), hr_x2287.2 (4 * no + 1) (by omega), hr_x2280, hr_x2273.2 (4 * no + 1) (by omega), hr_x2252, hr_x2248, hr_x2220, hr_x2216, hr_x2212]; exact hC), (fun _ => ⟨(by show v2293 403 (4 * no + 2) = _; rw [e2294, fa_u_k _ _ (by decide), hr_x2287.2 (4 * no + 2) (by omega), hr_x2280]; exact hr_x2273.1 hn1), (fun _ _ => (by show v2293 403 (4 * no + 3) = _; rw [e2294, fa_u_k _ _ (by decide)]; exact hr_x2287.1 hn2))⟩)⟩)⟩, (by rw [e2294]; exact fa_fr.u (fa_fr.tr (fa_fr.tr (fa_fr.tr (fa_fr.tr (fa_fr.tr (fa_fr.tr (fa_fr.tr (fa_fr.tr (by rw [e2209]; exact fa_fr.u (by rw [e2206]; exact fa_fr.u fa_fr.rf (by omega)) (by omega)) (fa_fr.wide h2211.2 (by omega) (by omega))) (fa_fr.wide h2215.2 (by omega) (by omega))) (fa_fr.wide h2219.2 (by omega) (by omega))) (fa_fr.wide h2247.2 (by omega) (by omega))) (fa_fr.wide h2251.2 (by omega) (by omega))) (fa_fr.wide h2272.2 (by omega) (by omega))) (fa_fr.wide h2279.2 (by omega) (by omega))) (fa_fr.wide h2286.2 (by omega) (by omega))) (by omega))⟩⟩)
          · have hS108 : fa_sg t n9 na = (108 : Int32) := fa_ift hxa c_137
            have hp108 := hma.e.trans (fa_acc_t hS108)
            have hlt : na < n9 := fa_sg_nz hS108 (by decide)
            clear ha_x2248 hc_x2248 hd_x2248
            refine lv_aload_n hx hb dX7_readsOrder_140 rfl (lv_at hl 0 rfl) ?_
            refine lv_iconst (v := nI (2)) hx hb dX7_readsOrder_141 (by decide) ?_
            refine lv_iconst (v := nI (0)) hx hb dX7_readsOrder_142 (by decide) ?_
            refine lv_bipush (v := nI (7)) hx hb dX7_readsOrder_143 (by decide) ?_
            refine fa_callViu (As := [.int (nI (2)), .int (nI (0)), .int (nI (7))]) (rest := []) CX HX2250 (r_number l G n hn v2249 r hM (n9) (na + 1) (no) (by omega) (by omega) (by omega) ((hf_x2248.2 9 (by decide) (by decide)).trans ((hf_x2220.2 9 (by decide) (by decide)).trans ((hf_x2216.2 9 (by decide) (by decide)).trans ((hf_x2212.2 9 (by decide) (by decide)).trans (by rw [e2209, fa_u_n _ _ (by omega)]; exact (by rw [e2206, fa_u_n _ _ (by omega)]; exact g9)))))) ((gm_x2248).trans (congrArg nI hp108)) (go_x2248.trans (congrArg nI ho_x2248.e)) t ((h2247.2 405 (by omega)).trans ((h2219.2 405 (by omega)).trans ((h2215.2 405 (by omega)).trans ((h2211.2 405 (by omega)).trans (((congrFun e2209 405).trans (fa_u_k _ _ (by decide))).trans (((congrFun e2206 405).trans (fa_u_k _ _ (by decide))).trans h5)))))) (2) (nI (0)) (nI (7)) (by omega) ⟨0, by decide, rfl⟩ ⟨7, by decide, rfl⟩) ln_X7_148 (by omega) rfl rfl rfl rfl (Nat.le_of_ble_eq_true rfl) hl.1 ⟨Nat.le_of_ble_eq_true rfl, Nat.le_of_ble_eq_true rfl⟩ ⟨Nat.le_refl _, Nat.le_refl _⟩ dX7_readsOrder_145 (fun x2297 v2298 H locs h2296 HX2299 => ?_)
            obtain ⟨hx_x2297, m_x2297, o_x2297, ⟨ha_x2297, hc_x2297, hd_x2297, hm_x2297, ho_x2297⟩, gm_x2297, go_x2297, hf_x2297, hr_x2297⟩ := h2296.1
            have hxn1 := hx_x2297
            have hmn1 := hm_x2297
            refine lv_if_eq (tgt := 176) hx hb dX7_readsOrder_148 (by decide) (fun c_148 => ?_) (fun c_148 => ?_)
            · have hn1 := fa_ifn hxn1 c_148
              refine lv_iconst (v := nI (0)) hx hb dX7_readsOrder_176 (by decide) ?_
              refine lv_istore_n (lv' := [(1, .int (nI (0))), (0, .ref (fa_B G + (397)))]) hx hb dX7_readsOrder_177 rfl hl (by decide) rfl (fun ls hl => ?_)
              refine lv_goto (tgt := 259) hx hb dX7_readsOrder_178 (by decide) ?_
              refine lv_aload_n hx hb dX7_readsOrder_259 rfl (lv_at hl 1 rfl) ?_
              refine lv_dup hx hb dX7_readsOrder_260 rfl ?_
              refine fa_geti (k := 397) CX HX2299 fl_X7_141 (by omega) rfl rfl dX7_readsOrder_261 ?_
              rw [show v2298 397 11 = nI (no) from (go_x2297.trans (congrArg nI ho_x2297.e))]
              refine lv_iload_n hx hb dX7_readsOrder_264 rfl (lv_at hl 0 rfl) ?_
              refine lv_if_eq (tgt := 272) hx hb dX7_readsOrder_265 (by decide) (fun c_265 => ?_) (fun c_265 => ?_)
              · refine lv_iconst (v := nI (0)) hx hb dX7_readsOrder_272 (by decide) ?_
                refine fa_iaddN hx hb dX7_readsOrder_273 ?_
                refine fa_puti (k := 397) CX HX2299 fl_X7_141 (by omega) rfl rfl rfl rfl dX7_readsOrder_274 (fun H locs v2300 e2301 HX2302 => ?_)
                refine lv_iload_n hx hb dX7_readsOrder_277 rfl (lv_at hl 0 rfl) ?_
                exact RET _ _ _ _ _ _ _ HX2302 dX7_readsOrder_278 (by decide) (⟨rfl, ⟨⟨(by rw [((fa_ord_s (Or.inr hS108)).trans (fa_two_f hn1))]; exact rfl), m_x2297, no + 0, ⟨by omega, by omega, by omega, fa_is.mk (by rw [((fa_ord_s (Or.inr hS108)).trans (fa_two_f hn1))]; exact hmn1.e), fa_is.mk (by rw [((fa_ord_s (Or.inr hS108)).trans (fa_two_f hn1))]; exact (show no + 0 = no by omega))⟩, (show v2300 397 12 = nI (m_x2297) from (by rw [e2301, fa_u_n _ _ (by omega)]; exact gm_x2297)), (show v2300 397 11 = nI (no + 0) from (by rw [e2301, fa_u_s])), (show fa_f3 v v2300 from (by rw [e2301]; exact fa_f3.w (fa_f3.tr (fa_f3.tr (fa_f3.tr (fa_f3.tr (fa_f3.tr (by rw [e2209]; exact fa_f3.u (by rw [e2206]; exact fa_f3.u fa_f3.rf)) hf_x2212) hf_x2216) hf_x2220) hf_x2248) hf_x2297) (by decide))), (by rw [((fa_ord_s (Or.inr hS108)).trans (fa_two_f hn1))]; exact ⟨(fun i hi => (by show v2300 403 i = _; rw [e2301, fa_u_k _ _ (by decide), hr_x2297.2 i (by omega), hr_x2248, hr_x2220, hr_x2216, hr_x2212]; exact hA i hi)), (by show v2300 403 (4 * no) = _; rw [e2301, fa_u_k _ _ (by decide), hr_x2297.2 (4 * no) (by omega), hr_x2248, hr_x2220, hr_x2216, hr_x2212]; exact hB), (by show v2300 403 (4 * no + 1) = _; rw [e2301, fa_u_k _ _ (by decide), hr_x2297.2 (4 * no + 1) (by omega), hr_x2248, hr_x2220, hr_x2216, hr_x2212]; exact hC), (fun z => absurd (show false = true from z) (by decide))⟩)⟩, (by rw [e2301]; exact fa_fr.u (fa_fr.tr (fa_fr.tr (fa_fr.tr (fa_fr.tr (fa_fr.tr (by rw [e2209]; exact fa_fr.u (by rw [e2206]; exact fa_fr.u fa_fr.rf (by omega)) (by omega)) (fa_fr.wide h2211.2 (by omega) (by omega))) (fa_fr.wide h2215.2 (by omega) (by omega))) (fa_fr.wide h2219.2 (by omega) (by omega))) (fa_fr.wide h2247.2 (by omega) (by omega))) (fa_fr.wide h2296.2 (by omega) (by omega))) (by omega))⟩⟩)
              · exact absurd (by try decide) c_265
            · have hn1 := fa_ift hxn1 c_148
              refine lv_aload_n hx hb dX7_readsOrder_151 rfl (lv_at hl 0 rfl) ?_
              refine lv_bipush (v := nI (44)) hx hb dX7_readsOrder_152 (by decide) ?_
              refine fa_callViu (As := [.int (nI (44))]) (rest := []) CX HX2299 (r_accepts l G n hn v2298 r hM (n9) (m_x2297) (no) (by omega) (by omega) (by omega) ((hf_x2297.2 9 (by decide) (by decide)).trans ((hf_x2248.2 9 (by decide) (by decide)).trans ((hf_x2220.2 9 (by decide) (by decide)).trans ((hf_x2216.2 9 (by decide) (by decide)).trans ((hf_x2212.2 9 (by decide) (by decide)).trans (by rw [e2209, fa_u_n _ _ (by omega)]; exact (by rw [e2206, fa_u_n _ _ (by omega)]; exact g9))))))) gm_x2297 (go_x2297.trans (congrArg nI ho_x2297.e)) t ((h2296.2 405 (by omega)).trans ((h2247.2 405 (by omega)).trans ((h2219.2 405 (by omega)).trans ((h2215.2 405 (by omega)).trans ((h2211.2 405 (by omega)).trans (((congrFun e2209 405).trans (fa_u_k _ _ (by decide))).trans (((congrFun e2206 405).trans (fa_u_k _ _ (by decide))).trans h5))))))) (nI (44)) (by decide)) ln_X7_144 (by omega) rfl rfl rfl rfl (Nat.le_of_ble_eq_true rfl) hl.1 ⟨Nat.le_of_ble_eq_true rfl, Nat.le_of_ble_eq_true rfl⟩ ⟨Nat.le_refl _, Nat.le_refl _⟩ dX7_readsOrder_154 (fun x2304 v2305 H locs h2303 HX2306 => ?_)
              obtain ⟨hx_x2304, m_x2304, o_x2304, ⟨ha_x2304, hc_x2304, hd_x2304, hm_x2304, ho_x2304⟩, gm_x2304, go_x2304, hf_x2304, hr_x2304⟩ := h2303.1
              have hxc := hx_x2304
              have hmc := hm_x2304
              refine lv_if_eq (tgt := 176) hx hb dX7_readsOrder_157 (by decide) (fun c_157 => ?_) (fun c_157 => ?_)
              · have hcm := fa_ifn hxc c_157
                have hpc := hmc.e.trans (fa_acc_f hcm)
                refine lv_iconst (v := nI (0)) hx hb dX7_readsOrder_176 (by decide) ?_
                refine lv_istore_n (lv' := [(1, .int (nI (0))), (0, .ref (fa_B G + (397)))]) hx hb dX7_readsOrder_177 rfl hl (by decide) rfl (fun ls hl => ?_)
                refine lv_goto (tgt := 259) hx hb dX7_readsOrder_178 (by decide) ?_
                refine lv_aload_n hx hb dX7_readsOrder_259 rfl (lv_at hl 1 rfl) ?_
                refine lv_dup hx hb dX7_readsOrder_260 rfl ?_
                refine fa_geti (k := 397) CX HX2306 fl_X7_141 (by omega) rfl rfl dX7_readsOrder_261 ?_
                rw [show v2305 397 11 = nI (no) from (go_x2304.trans (congrArg nI ho_x2304.e))]
                refine lv_iload_n hx hb dX7_readsOrder_264 rfl (lv_at hl 0 rfl) ?_
                refine lv_if_eq (tgt := 272) hx hb dX7_readsOrder_265 (by decide) (fun c_265 => ?_) (fun c_265 => ?_)
                · refine lv_iconst (v := nI (0)) hx hb dX7_readsOrder_272 (by decide) ?_
                  refine fa_iaddN hx hb dX7_readsOrder_273 ?_
                  refine fa_puti (k := 397) CX HX2306 fl_X7_141 (by omega) rfl rfl rfl rfl dX7_readsOrder_274 (fun H locs v2307 e2308 HX2309 => ?_)
                  refine lv_iload_n hx hb dX7_readsOrder_277 rfl (lv_at hl 0 rfl) ?_
                  exact RET _ _ _ _ _ _ _ HX2309 dX7_readsOrder_278 (by decide) (⟨rfl, ⟨⟨(by rw [((fa_ord_s (Or.inr hS108)).trans (fa_two_c hn1 hmn1.e hcm))]; exact rfl), m_x2297, no + 0, ⟨by omega, by omega, by omega, fa_is.mk (by rw [((fa_ord_s (Or.inr hS108)).trans (fa_two_c hn1 hmn1.e hcm))]), fa_is.mk (by rw [((fa_ord_s (Or.inr hS108)).trans (fa_two_c hn1 hmn1.e hcm))]; exact (show no + 0 = no by omega))⟩, (show v2307 397 12 = nI (m_x2297) from (by rw [e2308, fa_u_n _ _ (by omega)]; exact ((gm_x2304).trans (congrArg nI hpc)))), (show v2307 397 11 = nI (no + 0) from (by rw [e2308, fa_u_s])), (show fa_f3 v v2307 from (by rw [e2308]; exact fa_f3.w (fa_f3.tr (fa_f3.tr (fa_f3.tr (fa_f3.tr (fa_f3.tr (fa_f3.tr (by rw [e2209]; exact fa_f3.u (by rw [e2206]; exact fa_f3.u fa_f3.rf)) hf_x2212) hf_x2216) hf_x2220) hf_x2248) hf_x2297) hf_x2304) (by decide))), (by rw [((fa_ord_s (Or.inr hS108)).trans (fa_two_c hn1 hmn1.e hcm))]; exact ⟨(fun i hi => (by show v2307 403 i = _; rw [e2308, fa_u_k _ _ (by decide), hr_x2304, hr_x2297.2 i (by omega), hr_x2248, hr_x2220, hr_x2216, hr_x2212]; exact hA i hi)), (by show v2307 403 (4 * no) = _; rw [e2308, fa_u_k _ _ (by decide), hr_x2304, hr_x2297.2 (4 * no) (by omega), hr_x2248, hr_x2220, hr_x2216, hr_x2212]; exact hB), (by show v2307 403 (4 * no + 1) = _; rw [e2308, fa_u_k _ _ (by decide), hr_x2304, hr_x2297.2 (4 * no + 1) (by omega), hr_x2248, hr_x2220, hr_x2216, hr_x2212]; exact hC), (fun z => absurd (show false = true from z) (by decide))⟩)⟩, (by rw [e2308]; exact fa_fr.u (fa_fr.tr (fa_fr.tr (fa_fr.tr (fa_fr.tr (fa_fr.tr (fa_fr.tr (by rw [e2209]; exact fa_fr.u (by rw [e2206]; exact fa_fr.u fa_fr.rf (by omega)) (by omega)) (fa_fr.wide h2211.2 (by omega) (by omega))) (fa_fr.wide h2215.2 (by omega) (by omega))) (fa_fr.wide h2219.2 (by omega) (by omega))) (fa_fr.wide h2247.2 (by omega) (by omega))) (fa_fr.wide h2296.2 (by omega) (by omega))) (fa_fr.wide h2303.2 (by omega) (by omega))) (by omega))⟩⟩)
                · exact absurd (by try decide) c_265
              · have hcm := fa_ift hxc c_157
                have hpc := hmc.e.trans (fa_acc_t hcm)
                refine lv_aload_n hx hb dX7_readsOrder_160 rfl (lv_at hl 0 rfl) ?_
                refine lv_iconst (v := nI (3)) hx hb dX7_readsOrder_161 (by decide) ?_
                refine lv_iconst (v := nI (0)) hx hb dX7_readsOrder_162 (by decide) ?_
                refine lv_sipush (v := nI (199)) hx hb dX7_readsOrder_163 (by decide) ?_
                refine fa_callViu (As := [.int (nI (3)), .int (nI (0)), .int (nI (199))]) (rest := []) CX HX2306 (r_number l G n hn v2305 r hM (n9) (m_x2297 + 1) (no) (by omega) (by omega) (by omega) ((hf_x2304.2 9 (by decide) (by decide)).trans ((hf_x2297.2 9 (by decide) (by decide)).trans ((hf_x2248.2 9 (by decide) (by decide)).trans ((hf_x2220.2 9 (by decide) (by decide)).trans ((hf_x2216.2 9 (by decide) (by decide)).trans ((hf_x2212.2 9 (by decide) (by decide)).trans (by rw [e2209, fa_u_n _ _ (by omega)]; exact (by rw [e2206, fa_u_n _ _ (by omega)]; exact g9)))))))) ((gm_x2304).trans (congrArg nI hpc)) (go_x2304.trans (congrArg nI ho_x2304.e)) t ((h2303.2 405 (by omega)).trans ((h2296.2 405 (by omega)).trans ((h2247.2 405 (by omega)).trans ((h2219.2 405 (by omega)).trans ((h2215.2 405 (by omega)).trans ((h2211.2 405 (by omega)).trans (((congrFun e2209 405).trans (fa_u_k _ _ (by decide))).trans (((congrFun e2206 405).trans (fa_u_k _ _ (by decide))).trans h5)))))))) (3) (nI (0)) (nI (199)) (by omega) ⟨0, by decide, rfl⟩ ⟨199, by decide, rfl⟩) ln_X7_148 (by omega) rfl rfl rfl rfl (Nat.le_of_ble_eq_true rfl) hl.1 ⟨Nat.le_of_ble_eq_true rfl, Nat.le_of_ble_eq_true rfl⟩ ⟨Nat.le_refl _, Nat.le_refl _⟩ dX7_readsOrder_166 (fun x2311 v2312 H locs h2310 HX2313 => ?_)
                obtain ⟨hx_x2311, m_x2311, o_x2311, ⟨ha_x2311, hc_x2311, hd_x2311, hm_x2311, ho_x2311⟩, gm_x2311, go_x2311, hf_x2311, hr_x2311⟩ := h2310.1
                have hxn2 := hx_x2311
                have hmn2 := hm_x2311
                refine lv_if_eq (tgt := 176) hx hb dX7_readsOrder_169 (by decide) (fun c_169 => ?_) (fun c_169 => ?_)
                · have hn2 := fa_ifn hxn2 c_169
                  refine lv_iconst (v := nI (0)) hx hb dX7_readsOrder_176 (by decide) ?_
                  refine lv_istore_n (lv' := [(1, .int (nI (0))), (0, .ref (fa_B G + (397)))]) hx hb dX7_readsOrder_177 rfl hl (by decide) rfl (fun ls hl => ?_)
                  refine lv_goto (tgt := 259) hx hb dX7_readsOrder_178 (by decide) ?_
                  refine lv_aload_n hx hb dX7_readsOrder_259 rfl (lv_at hl 1 rfl) ?_
                  refine lv_dup hx hb dX7_readsOrder_260 rfl ?_
                  refine fa_geti (k := 397) CX HX2313 fl_X7_141 (by omega) rfl rfl dX7_readsOrder_261 ?_
                  rw [show v2312 397 11 = nI (no) from (go_x2311.trans (congrArg nI ho_x2311.e))]
                  refine lv_iload_n hx hb dX7_readsOrder_264 rfl (lv_at hl 0 rfl) ?_
                  refine lv_if_eq (tgt := 272) hx hb dX7_readsOrder_265 (by decide) (fun c_265 => ?_) (fun c_265 => ?_)
                  · refine lv_iconst (v := nI (0)) hx hb dX7_readsOrder_272 (by decide) ?_
                    refine fa_iaddN hx hb dX7_readsOrder_273 ?_
                    refine fa_puti (k := 397) CX HX2313 fl_X7_141 (by omega) rfl rfl rfl rfl dX7_readsOrder_274 (fun H locs v2314 e2315 HX2316 => ?_)
                    refine lv_iload_n hx hb dX7_readsOrder_277 rfl (lv_at hl 0 rfl) ?_
                    exact RET _ _ _ _ _ _ _ HX2316 dX7_readsOrder_278 (by decide) (⟨rfl, ⟨⟨(by rw [((fa_ord_s (Or.inr hS108)).trans (fa_two_n hn1 hmn1.e hcm hn2))]; exact rfl), m_x2311, no + 0, ⟨by omega, by omega, by omega, fa_is.mk (by rw [((fa_ord_s (Or.inr hS108)).trans (fa_two_n hn1 hmn1.e hcm hn2))]; exact hmn2.e), fa_is.mk (by rw [((fa_ord_s (Or.inr hS108)).trans (fa_two_n hn1 hmn1.e hcm hn2))]; exact (show no + 0 = no by omega))⟩, (show v2314 397 12 = nI (m_x2311) from (by rw [e2315, fa_u_n _ _ (by omega)]; exact gm_x2311)), (show v2314 397 11 = nI (no + 0) from (by rw [e2315, fa_u_s])), (show fa_f3 v v2314 from (by rw [e2315]; exact fa_f3.w (fa_f3.tr (fa_f3.tr (fa_f3.tr (fa_f3.tr (fa_f3.tr (fa_f3.tr (fa_f3.tr (by rw [e2209]; exact fa_f3.u (by rw [e2206]; exact fa_f3.u fa_f3.rf)) hf_x2212) hf_x2216) hf_x2220) hf_x2248) hf_x2297) hf_x2304) hf_x2311) (by decide))), (by rw [((fa_ord_s (Or.inr hS108)).trans (fa_two_n hn1 hmn1.e hcm hn2))]; exact ⟨(fun i hi => (by show v2314 403 i = _; rw [e2315, fa_u_k _ _ (by decide), hr_x2311.2 i (by omega), hr_x2304, hr_x2297.2 i (by omega), hr_x2248, hr_x2220, hr_x2216, hr_x2212]; exact hA i hi)), (by show v2314 403 (4 * no) = _; rw [e2315, fa_u_k _ _ (by decide), hr_x2311.2 (4 * no) (by omega), hr_x2304, hr_x2297.2 (4 * no) (by omega), hr_x2248, hr_x2220, hr_x2216, hr_x2212]; exact hB), (by show v2314 403 (4 * no + 1) = _; rw [e2315, fa_u_k _ _ (by decide), hr_x2311.2 (4 * no + 1) (by omega), hr_x2304, hr_x2297.2 (4 * no + 1) (by omega), hr_x2248, hr_x2220, hr_x2216, hr_x2212]; exact hC), (fun z => absurd (show false = true from z) (by decide))⟩)⟩, (by rw [e2315]; exact fa_fr.u (fa_fr.tr (fa_fr.tr (fa_fr.tr (fa_fr.tr (fa_fr.tr (fa_fr.tr (fa_fr.tr (by rw [e2209]; exact fa_fr.u (by rw [e2206]; exact fa_fr.u fa_fr.rf (by omega)) (by omega)) (fa_fr.wide h2211.2 (by omega) (by omega))) (fa_fr.wide h2215.2 (by omega) (by omega))) (fa_fr.wide h2219.2 (by omega) (by omega))) (fa_fr.wide h2247.2 (by omega) (by omega))) (fa_fr.wide h2296.2 (by omega) (by omega))) (fa_fr.wide h2303.2 (by omega) (by omega))) (fa_fr.wide h2310.2 (by omega) (by omega))) (by omega))⟩⟩)
                  · exact absurd (by try decide) c_265
                · have hn2 := fa_ift hxn2 c_169
                  refine lv_iconst (v := nI (1)) hx hb dX7_readsOrder_172 (by decide) ?_
                  refine lv_goto (tgt := 177) hx hb dX7_readsOrder_173 (by decide) ?_
                  refine lv_istore_n (lv' := [(1, .int (nI (1))), (0, .ref (fa_B G + (397)))]) hx hb dX7_readsOrder_177 rfl hl (by decide) rfl (fun ls hl => ?_)
                  refine lv_goto (tgt := 259) hx hb dX7_readsOrder_178 (by decide) ?_
                  refine lv_aload_n hx hb dX7_readsOrder_259 rfl (lv_at hl 1 rfl) ?_
                  refine lv_dup hx hb dX7_readsOrder_260 rfl ?_
                  refine fa_geti (k := 397) CX HX2313 fl_X7_141 (by omega) rfl rfl dX7_readsOrder_261 ?_
                  rw [show v2312 397 11 = nI (no) from (go_x2311.trans (congrArg nI ho_x2311.e))]
                  refine lv_iload_n hx hb dX7_readsOrder_264 rfl (lv_at hl 0 rfl) ?_
                  refine lv_if_eq (tgt := 272) hx hb dX7_readsOrder_265 (by decide) (fun c_265 => ?_) (fun c_265 => ?_)
                  · exact absurd c_265 (by try decide)
                  · refine lv_iconst (v := nI (1)) hx hb dX7_readsOrder_268 (by decide) ?_
                    refine lv_goto (tgt := 273) hx hb dX7_readsOrder_269 (by decide) ?_
                    refine fa_iaddN hx hb dX7_readsOrder_273 ?_
                    refine fa_puti (k := 397) CX HX2313 fl_X7_141 (by omega) rfl rfl rfl rfl dX7_readsOrder_274 (fun H locs v2317 e2318 HX2319 => ?_)
                    refine lv_iload_n hx hb dX7_readsOrder_277 rfl (lv_at hl 0 rfl) ?_
                    exact RET _ _ _ _ _ _ _ HX2319 dX7_readsOrder_278 (by decide) (⟨rfl, ⟨⟨(by rw [((fa_ord_s (Or.inr hS108)).trans (fa_two_y hn1 hmn1.e hcm hn2))]; exact rfl), m_x2311, no + 1, ⟨by omega, by omega, (by have hfx := (show na + 2 ≤ m_x2311 from by have z := (fa_ord_le (t := t) hna).2.2; rw [((fa_ord_s (Or.inr hS108)).trans (fa_two_y hn1 hmn1.e hcm hn2))] at z; rw [hmn2.e]; exact z rfl); omega), fa_is.mk (by rw [((fa_ord_s (Or.inr hS108)).trans (fa_two_y hn1 hmn1.e hcm hn2))]; exact hmn2.e), fa_is.mk (by rw [((fa_ord_s (Or.inr hS108)).trans (fa_two_y hn1 hmn1.e hcm hn2))]; exact (show no + 1 = no + 1 by omega))⟩, (show v2317 397 12 = nI (m_x2311) from (by rw [e2318, fa_u_n _ _ (by omega)]; exact gm_x2311)), (show v2317 397 11 = nI (no + 1) from (by rw [e2318, fa_u_s])), (show fa_f3 v v2317 from (by rw [e2318]; exact fa_f3.w (fa_f3.tr (fa_f3.tr (fa_f3.tr (fa_f3.tr (fa_f3.tr (fa_f3.tr (fa_f3.tr (by rw [e2209]; exact fa_f3.u (by rw [e2206]; exact fa_f3.u fa_f3.rf)) hf_x2212) hf_x2216) hf_x2220) hf_x2248) hf_x2297) hf_x2304) hf_x2311) (by decide))), (by rw [((fa_ord_s (Or.inr hS108)).trans (fa_two_y hn1 hmn1.e hcm hn2))]; exact ⟨(fun i hi => (by show v2317 403 i = _; rw [e2318, fa_u_k _ _ (by decide), hr_x2311.2 i (by omega), hr_x2304, hr_x2297.2 i (by omega), hr_x2248, hr_x2220, hr_x2216, hr_x2212]; exact hA i hi)), (by show v2317 403 (4 * no) = _; rw [e2318, fa_u_k _ _ (by decide), hr_x2311.2 (4 * no) (by omega), hr_x2304, hr_x2297.2 (4 * no) (by omega), hr_x2248, hr_x2220, hr_x2216, hr_x2212]; exact hB), (by show v2317 403 (4 * no + 1) = _; rw [e2318, fa_u_k _ _ (by decide), hr_x2311.2 (4 * no + 1) (by omega), hr_x2304, hr_x2297.2 (4 * no + 1) (by omega), hr_x2248, hr_x2220, hr_x2216, hr_x2212]; exact hC), (fun _ => ⟨(by show v2317 403 (4 * no + 2) = _; rw [e2318, fa_u_k _ _ (by decide), hr_x2311.2 (4 * no + 2) (by omega), hr_x2304]; exact hr_x2297.1 hn1), (fun _ _ => (by show v2317 403 (4 * no + 3) = _; rw [e2318, fa_u_k _ _ (by decide)]; exact hr_x2311.1 hn2))⟩)⟩)⟩, (by rw [e2318]; exact fa_fr.u (fa_fr.tr (fa_fr.tr (fa_fr.tr (fa_fr.tr (fa_fr.tr (fa_fr.tr (fa_fr.tr (by rw [e2209]; exact fa_fr.u (by rw [e2206]; exact fa_fr.u fa_fr.rf (by omega)) (by omega)) (fa_fr.wide h2211.2 (by omega) (by omega))) (fa_fr.wide h2215.2 (by omega) (by omega))) (fa_fr.wide h2219.2 (by omega) (by omega))) (fa_fr.wide h2247.2 (by omega) (by omega))) (fa_fr.wide h2296.2 (by omega) (by omega))) (fa_fr.wide h2303.2 (by omega) (by omega))) (fa_fr.wide h2310.2 (by omega) (by omega))) (by omega))⟩⟩)
      · have hS97 : fa_sg t n9 na = (97 : Int32) := fa_ift hxa c_106
        have hp97 := hma.e.trans (fa_acc_t hS97)
        have hlt : na < n9 := fa_sg_nz hS97 (by decide)
        clear ha_x2216 hc_x2216 hd_x2216
        refine lv_aload_n hx hb dX7_readsOrder_109 rfl (lv_at hl 0 rfl) ?_
        refine lv_iconst (v := nI (2)) hx hb dX7_readsOrder_110 (by decide) ?_
        refine lv_iconst (v := nI (0)) hx hb dX7_readsOrder_111 (by decide) ?_
        refine lv_sipush (v := nI (199)) hx hb dX7_readsOrder_112 (by decide) ?_
        refine fa_callViu (As := [.int (nI (2)), .int (nI (0)), .int (nI (199))]) (rest := []) CX HX2218 (r_number l G n hn v2217 r hM (n9) (na + 1) (no) (by omega) (by omega) (by omega) ((hf_x2216.2 9 (by decide) (by decide)).trans ((hf_x2212.2 9 (by decide) (by decide)).trans (by rw [e2209, fa_u_n _ _ (by omega)]; exact (by rw [e2206, fa_u_n _ _ (by omega)]; exact g9)))) ((gm_x2216).trans (congrArg nI hp97)) (go_x2216.trans (congrArg nI ho_x2216.e)) t ((h2215.2 405 (by omega)).trans ((h2211.2 405 (by omega)).trans (((congrFun e2209 405).trans (fa_u_k _ _ (by decide))).trans (((congrFun e2206 405).trans (fa_u_k _ _ (by decide))).trans h5)))) (2) (nI (0)) (nI (199)) (by omega) ⟨0, by decide, rfl⟩ ⟨199, by decide, rfl⟩) ln_X7_148 (by omega) rfl rfl rfl rfl (Nat.le_of_ble_eq_true rfl) hl.1 ⟨Nat.le_of_ble_eq_true rfl, Nat.le_of_ble_eq_true rfl⟩ ⟨Nat.le_refl _, Nat.le_refl _⟩ dX7_readsOrder_115 (fun x2321 v2322 H locs h2320 HX2323 => ?_)
        obtain ⟨hx_x2321, m_x2321, o_x2321, ⟨ha_x2321, hc_x2321, hd_x2321, hm_x2321, ho_x2321⟩, gm_x2321, go_x2321, hf_x2321, hr_x2321⟩ := h2320.1
        have hxn1 := hx_x2321
        have hmn1 := hm_x2321
        refine lv_istore_n (lv' := [(1, .int (x2321)), (0, .ref (fa_B G + (397)))]) hx hb dX7_readsOrder_118 rfl hl (by decide) rfl (fun ls hl => ?_)
        refine lv_goto (tgt := 259) hx hb dX7_readsOrder_119 (by decide) ?_
        refine lv_aload_n hx hb dX7_readsOrder_259 rfl (lv_at hl 1 rfl) ?_
        refine lv_dup hx hb dX7_readsOrder_260 rfl ?_
        refine fa_geti (k := 397) CX HX2323 fl_X7_141 (by omega) rfl rfl dX7_readsOrder_261 ?_
        rw [show v2322 397 11 = nI (no) from (go_x2321.trans (congrArg nI ho_x2321.e))]
        refine lv_iload_n hx hb dX7_readsOrder_264 rfl (lv_at hl 0 rfl) ?_
        refine lv_if_eq (tgt := 272) hx hb dX7_readsOrder_265 (by decide) (fun c_265 => ?_) (fun c_265 => ?_)
        · have hn1 := fa_ifn hxn1 c_265
          refine lv_iconst (v := nI (0)) hx hb dX7_readsOrder_272 (by decide) ?_
          refine fa_iaddN hx hb dX7_readsOrder_273 ?_
          refine fa_puti (k := 397) CX HX2323 fl_X7_141 (by omega) rfl rfl rfl rfl dX7_readsOrder_274 (fun H locs v2324 e2325 HX2326 => ?_)
          refine lv_iload_n hx hb dX7_readsOrder_277 rfl (lv_at hl 0 rfl) ?_
          exact RET _ _ _ _ _ _ _ HX2326 dX7_readsOrder_278 (fa_if_nar hxn1) (⟨rfl, ⟨⟨(by rw [((fa_ord_a hS97).trans (fa_one_f hn1))]; exact (hxn1.trans (if_neg hn1))), m_x2321, no + 0, ⟨by omega, by omega, by omega, fa_is.mk (by rw [((fa_ord_a hS97).trans (fa_one_f hn1))]; exact hmn1.e), fa_is.mk (by rw [((fa_ord_a hS97).trans (fa_one_f hn1))]; exact (show no + 0 = no by omega))⟩, (show v2324 397 12 = nI (m_x2321) from (by rw [e2325, fa_u_n _ _ (by omega)]; exact gm_x2321)), (show v2324 397 11 = nI (no + 0) from (by rw [e2325, fa_u_s])), (show fa_f3 v v2324 from (by rw [e2325]; exact fa_f3.w (fa_f3.tr (fa_f3.tr (fa_f3.tr (by rw [e2209]; exact fa_f3.u (by rw [e2206]; exact fa_f3.u fa_f3.rf)) hf_x2212) hf_x2216) hf_x2321) (by decide))), (by rw [((fa_ord_a hS97).trans (fa_one_f hn1))]; exact ⟨(fun i hi => (by show v2324 403 i = _; rw [e2325, fa_u_k _ _ (by decide), hr_x2321.2 i (by omega), hr_x2216, hr_x2212]; exact hA i hi)), (by show v2324 403 (4 * no) = _; rw [e2325, fa_u_k _ _ (by decide), hr_x2321.2 (4 * no) (by omega), hr_x2216, hr_x2212]; exact hB), (by show v2324 403 (4 * no + 1) = _; rw [e2325, fa_u_k _ _ (by decide), hr_x2321.2 (4 * no + 1) (by omega), hr_x2216, hr_x2212]; exact hC), (fun z => absurd (show false = true from z) (by decide))⟩)⟩, (by rw [e2325]; exact fa_fr.u (fa_fr.tr (fa_fr.tr (fa_fr.tr (by rw [e2209]; exact fa_fr.u (by rw [e2206]; exact fa_fr.u fa_fr.rf (by omega)) (by omega)) (fa_fr.wide h2211.2 (by omega) (by omega))) (fa_fr.wide h2215.2 (by omega) (by omega))) (fa_fr.wide h2320.2 (by omega) (by omega))) (by omega))⟩⟩)
        · have hn1 := fa_ift hxn1 c_265
          refine lv_iconst (v := nI (1)) hx hb dX7_readsOrder_268 (by decide) ?_
          refine lv_goto (tgt := 273) hx hb dX7_readsOrder_269 (by decide) ?_
          refine fa_iaddN hx hb dX7_readsOrder_273 ?_
          refine fa_puti (k := 397) CX HX2323 fl_X7_141 (by omega) rfl rfl rfl rfl dX7_readsOrder_274 (fun H locs v2327 e2328 HX2329 => ?_)
          refine lv_iload_n hx hb dX7_readsOrder_277 rfl (lv_at hl 0 rfl) ?_
          exact RET _ _ _ _ _ _ _ HX2329 dX7_readsOrder_278 (fa_if_nar hxn1) (⟨rfl, ⟨⟨(by rw [((fa_ord_a hS97).trans (fa_one_t hn1))]; exact (hxn1.trans (if_pos hn1))), m_x2321, no + 1, ⟨by omega, by omega, (by have hfx := (show na + 2 ≤ m_x2321 from by have z := (fa_ord_le (t := t) hna).2.2; rw [((fa_ord_a hS97).trans (fa_one_t hn1))] at z; rw [hmn1.e]; exact z rfl); omega), fa_is.mk (by rw [((fa_ord_a hS97).trans (fa_one_t hn1))]; exact hmn1.e), fa_is.mk (by rw [((fa_ord_a hS97).trans (fa_one_t hn1))]; exact (show no + 1 = no + 1 by omega))⟩, (show v2327 397 12 = nI (m_x2321) from (by rw [e2328, fa_u_n _ _ (by omega)]; exact gm_x2321)), (show v2327 397 11 = nI (no + 1) from (by rw [e2328, fa_u_s])), (show fa_f3 v v2327 from (by rw [e2328]; exact fa_f3.w (fa_f3.tr (fa_f3.tr (fa_f3.tr (by rw [e2209]; exact fa_f3.u (by rw [e2206]; exact fa_f3.u fa_f3.rf)) hf_x2212) hf_x2216) hf_x2321) (by decide))), (by rw [((fa_ord_a hS97).trans (fa_one_t hn1))]; exact ⟨(fun i hi => (by show v2327 403 i = _; rw [e2328, fa_u_k _ _ (by decide), hr_x2321.2 i (by omega), hr_x2216, hr_x2212]; exact hA i hi)), (by show v2327 403 (4 * no) = _; rw [e2328, fa_u_k _ _ (by decide), hr_x2321.2 (4 * no) (by omega), hr_x2216, hr_x2212]; exact hB), (by show v2327 403 (4 * no + 1) = _; rw [e2328, fa_u_k _ _ (by decide), hr_x2321.2 (4 * no + 1) (by omega), hr_x2216, hr_x2212]; exact hC), (fun _ => ⟨(by show v2327 403 (4 * no + 2) = _; rw [e2328, fa_u_k _ _ (by decide)]; exact hr_x2321.1 hn1), (fun y1 y2 => by first | exact absurd hS97 y1 | exact absurd hS100 y2)⟩)⟩)⟩, (by rw [e2328]; exact fa_fr.u (fa_fr.tr (fa_fr.tr (fa_fr.tr (by rw [e2209]; exact fa_fr.u (by rw [e2206]; exact fa_fr.u fa_fr.rf (by omega)) (by omega)) (fa_fr.wide h2211.2 (by omega) (by omega))) (fa_fr.wide h2215.2 (by omega) (by omega))) (fa_fr.wide h2320.2 (by omega) (by omega))) (by omega))⟩⟩)
    · have hS110 : fa_sg t n9 na = (110 : Int32) := fa_ift hxa c_58
      have hp110 := hma.e.trans (fa_acc_t hS110)
      have hlt : na < n9 := fa_sg_nz hS110 (by decide)
      clear ha_x2212 hc_x2212 hd_x2212
      refine lv_aload_n hx hb dX7_readsOrder_61 rfl (lv_at hl 0 rfl) ?_
      refine lv_iconst (v := nI (2)) hx hb dX7_readsOrder_62 (by decide) ?_
      refine lv_iconst (v := nI (0)) hx hb dX7_readsOrder_63 (by decide) ?_
      refine lv_iconst (v := nI (4)) hx hb dX7_readsOrder_64 (by decide) ?_
      refine fa_callViu (As := [.int (nI (2)), .int (nI (0)), .int (nI (4))]) (rest := []) CX HX2214 (r_number l G n hn v2213 r hM (n9) (na + 1) (no) (by omega) (by omega) (by omega) ((hf_x2212.2 9 (by decide) (by decide)).trans (by rw [e2209, fa_u_n _ _ (by omega)]; exact (by rw [e2206, fa_u_n _ _ (by omega)]; exact g9))) ((gm_x2212).trans (congrArg nI hp110)) (go_x2212.trans (congrArg nI ho_x2212.e)) t ((h2211.2 405 (by omega)).trans (((congrFun e2209 405).trans (fa_u_k _ _ (by decide))).trans (((congrFun e2206 405).trans (fa_u_k _ _ (by decide))).trans h5))) (2) (nI (0)) (nI (4)) (by omega) ⟨0, by decide, rfl⟩ ⟨4, by decide, rfl⟩) ln_X7_148 (by omega) rfl rfl rfl rfl (Nat.le_of_ble_eq_true rfl) hl.1 ⟨Nat.le_of_ble_eq_true rfl, Nat.le_of_ble_eq_true rfl⟩ ⟨Nat.le_refl _, Nat.le_refl _⟩ dX7_readsOrder_65 (fun x2331 v2332 H locs h2330 HX2333 => ?_)
      obtain ⟨hx_x2331, m_x2331, o_x2331, ⟨ha_x2331, hc_x2331, hd_x2331, hm_x2331, ho_x2331⟩, gm_x2331, go_x2331, hf_x2331, hr_x2331⟩ := h2330.1
      have hxn1 := hx_x2331
      have hmn1 := hm_x2331
      refine lv_if_eq (tgt := 95) hx hb dX7_readsOrder_68 (by decide) (fun c_68 => ?_) (fun c_68 => ?_)
      · have hn1 := fa_ifn hxn1 c_68
        refine lv_iconst (v := nI (0)) hx hb dX7_readsOrder_95 (by decide) ?_
        refine lv_istore_n (lv' := [(1, .int (nI (0))), (0, .ref (fa_B G + (397)))]) hx hb dX7_readsOrder_96 rfl hl (by decide) rfl (fun ls hl => ?_)
        refine lv_goto (tgt := 259) hx hb dX7_readsOrder_97 (by decide) ?_
        refine lv_aload_n hx hb dX7_readsOrder_259 rfl (lv_at hl 1 rfl) ?_
        refine lv_dup hx hb dX7_readsOrder_260 rfl ?_
        refine fa_geti (k := 397) CX HX2333 fl_X7_141 (by omega) rfl rfl dX7_readsOrder_261 ?_
        rw [show v2332 397 11 = nI (no) from (go_x2331.trans (congrArg nI ho_x2331.e))]
        refine lv_iload_n hx hb dX7_readsOrder_264 rfl (lv_at hl 0 rfl) ?_
        refine lv_if_eq (tgt := 272) hx hb dX7_readsOrder_265 (by decide) (fun c_265 => ?_) (fun c_265 => ?_)
        · refine lv_iconst (v := nI (0)) hx hb dX7_readsOrder_272 (by decide) ?_
          refine fa_iaddN hx hb dX7_readsOrder_273 ?_
          refine fa_puti (k := 397) CX HX2333 fl_X7_141 (by omega) rfl rfl rfl rfl dX7_readsOrder_274 (fun H locs v2334 e2335 HX2336 => ?_)
          refine lv_iload_n hx hb dX7_readsOrder_277 rfl (lv_at hl 0 rfl) ?_
          exact RET _ _ _ _ _ _ _ HX2336 dX7_readsOrder_278 (by decide) (⟨rfl, ⟨⟨(by rw [((fa_ord_n hS110).trans (fa_two_f hn1))]; exact rfl), m_x2331, no + 0, ⟨by omega, by omega, by omega, fa_is.mk (by rw [((fa_ord_n hS110).trans (fa_two_f hn1))]; exact hmn1.e), fa_is.mk (by rw [((fa_ord_n hS110).trans (fa_two_f hn1))]; exact (show no + 0 = no by omega))⟩, (show v2334 397 12 = nI (m_x2331) from (by rw [e2335, fa_u_n _ _ (by omega)]; exact gm_x2331)), (show v2334 397 11 = nI (no + 0) from (by rw [e2335, fa_u_s])), (show fa_f3 v v2334 from (by rw [e2335]; exact fa_f3.w (fa_f3.tr (fa_f3.tr (by rw [e2209]; exact fa_f3.u (by rw [e2206]; exact fa_f3.u fa_f3.rf)) hf_x2212) hf_x2331) (by decide))), (by rw [((fa_ord_n hS110).trans (fa_two_f hn1))]; exact ⟨(fun i hi => (by show v2334 403 i = _; rw [e2335, fa_u_k _ _ (by decide), hr_x2331.2 i (by omega), hr_x2212]; exact hA i hi)), (by show v2334 403 (4 * no) = _; rw [e2335, fa_u_k _ _ (by decide), hr_x2331.2 (4 * no) (by omega), hr_x2212]; exact hB), (by show v2334 403 (4 * no + 1) = _; rw [e2335, fa_u_k _ _ (by decide), hr_x2331.2 (4 * no + 1) (by omega), hr_x2212]; exact hC), (fun z => absurd (show false = true from z) (by decide))⟩)⟩, (by rw [e2335]; exact fa_fr.u (fa_fr.tr (fa_fr.tr (by rw [e2209]; exact fa_fr.u (by rw [e2206]; exact fa_fr.u fa_fr.rf (by omega)) (by omega)) (fa_fr.wide h2211.2 (by omega) (by omega))) (fa_fr.wide h2330.2 (by omega) (by omega))) (by omega))⟩⟩)
        · exact absurd (by try decide) c_265
      · have hn1 := fa_ift hxn1 c_68
        refine lv_aload_n hx hb dX7_readsOrder_71 rfl (lv_at hl 0 rfl) ?_
        refine lv_bipush (v := nI (44)) hx hb dX7_readsOrder_72 (by decide) ?_
        refine fa_callViu (As := [.int (nI (44))]) (rest := []) CX HX2333 (r_accepts l G n hn v2332 r hM (n9) (m_x2331) (no) (by omega) (by omega) (by omega) ((hf_x2331.2 9 (by decide) (by decide)).trans ((hf_x2212.2 9 (by decide) (by decide)).trans (by rw [e2209, fa_u_n _ _ (by omega)]; exact (by rw [e2206, fa_u_n _ _ (by omega)]; exact g9)))) gm_x2331 (go_x2331.trans (congrArg nI ho_x2331.e)) t ((h2330.2 405 (by omega)).trans ((h2211.2 405 (by omega)).trans (((congrFun e2209 405).trans (fa_u_k _ _ (by decide))).trans (((congrFun e2206 405).trans (fa_u_k _ _ (by decide))).trans h5)))) (nI (44)) (by decide)) ln_X7_144 (by omega) rfl rfl rfl rfl (Nat.le_of_ble_eq_true rfl) hl.1 ⟨Nat.le_of_ble_eq_true rfl, Nat.le_of_ble_eq_true rfl⟩ ⟨Nat.le_refl _, Nat.le_refl _⟩ dX7_readsOrder_74 (fun x2338 v2339 H locs h2337 HX2340 => ?_)
        obtain ⟨hx_x2338, m_x2338, o_x2338, ⟨ha_x2338, hc_x2338, hd_x2338, hm_x2338, ho_x2338⟩, gm_x2338, go_x2338, hf_x2338, hr_x2338⟩ := h2337.1
        have hxc := hx_x2338
        have hmc := hm_x2338
        refine lv_if_eq (tgt := 95) hx hb dX7_readsOrder_77 (by decide) (fun c_77 => ?_) (fun c_77 => ?_)
        · have hcm := fa_ifn hxc c_77
          have hpc := hmc.e.trans (fa_acc_f hcm)
          refine lv_iconst (v := nI (0)) hx hb dX7_readsOrder_95 (by decide) ?_
          refine lv_istore_n (lv' := [(1, .int (nI (0))), (0, .ref (fa_B G + (397)))]) hx hb dX7_readsOrder_96 rfl hl (by decide) rfl (fun ls hl => ?_)
          refine lv_goto (tgt := 259) hx hb dX7_readsOrder_97 (by decide) ?_
          refine lv_aload_n hx hb dX7_readsOrder_259 rfl (lv_at hl 1 rfl) ?_
          refine lv_dup hx hb dX7_readsOrder_260 rfl ?_
          refine fa_geti (k := 397) CX HX2340 fl_X7_141 (by omega) rfl rfl dX7_readsOrder_261 ?_
          rw [show v2339 397 11 = nI (no) from (go_x2338.trans (congrArg nI ho_x2338.e))]
          refine lv_iload_n hx hb dX7_readsOrder_264 rfl (lv_at hl 0 rfl) ?_
          refine lv_if_eq (tgt := 272) hx hb dX7_readsOrder_265 (by decide) (fun c_265 => ?_) (fun c_265 => ?_)
          · refine lv_iconst (v := nI (0)) hx hb dX7_readsOrder_272 (by decide) ?_
            refine fa_iaddN hx hb dX7_readsOrder_273 ?_
            refine fa_puti (k := 397) CX HX2340 fl_X7_141 (by omega) rfl rfl rfl rfl dX7_readsOrder_274 (fun H locs v2341 e2342 HX2343 => ?_)
            refine lv_iload_n hx hb dX7_readsOrder_277 rfl (lv_at hl 0 rfl) ?_
            exact RET _ _ _ _ _ _ _ HX2343 dX7_readsOrder_278 (by decide) (⟨rfl, ⟨⟨(by rw [((fa_ord_n hS110).trans (fa_two_c hn1 hmn1.e hcm))]; exact rfl), m_x2331, no + 0, ⟨by omega, by omega, by omega, fa_is.mk (by rw [((fa_ord_n hS110).trans (fa_two_c hn1 hmn1.e hcm))]), fa_is.mk (by rw [((fa_ord_n hS110).trans (fa_two_c hn1 hmn1.e hcm))]; exact (show no + 0 = no by omega))⟩, (show v2341 397 12 = nI (m_x2331) from (by rw [e2342, fa_u_n _ _ (by omega)]; exact ((gm_x2338).trans (congrArg nI hpc)))), (show v2341 397 11 = nI (no + 0) from (by rw [e2342, fa_u_s])), (show fa_f3 v v2341 from (by rw [e2342]; exact fa_f3.w (fa_f3.tr (fa_f3.tr (fa_f3.tr (by rw [e2209]; exact fa_f3.u (by rw [e2206]; exact fa_f3.u fa_f3.rf)) hf_x2212) hf_x2331) hf_x2338) (by decide))), (by rw [((fa_ord_n hS110).trans (fa_two_c hn1 hmn1.e hcm))]; exact ⟨(fun i hi => (by show v2341 403 i = _; rw [e2342, fa_u_k _ _ (by decide), hr_x2338, hr_x2331.2 i (by omega), hr_x2212]; exact hA i hi)), (by show v2341 403 (4 * no) = _; rw [e2342, fa_u_k _ _ (by decide), hr_x2338, hr_x2331.2 (4 * no) (by omega), hr_x2212]; exact hB), (by show v2341 403 (4 * no + 1) = _; rw [e2342, fa_u_k _ _ (by decide), hr_x2338, hr_x2331.2 (4 * no + 1) (by omega), hr_x2212]; exact hC), (fun z => absurd (show false = true from z) (by decide))⟩)⟩, (by rw [e2342]; exact fa_fr.u (fa_fr.tr (fa_fr.tr (fa_fr.tr (by rw [e2209]; exact fa_fr.u (by rw [e2206]; exact fa_fr.u fa_fr.rf (by omega)) (by omega)) (fa_fr.wide h2211.2 (by omega) (by omega))) (fa_fr.wide h2330.2 (by omega) (by omega))) (fa_fr.wide h2337.2 (by omega) (by omega))) (by omega))⟩⟩)
          · exact absurd (by try decide) c_265
        · have hcm := fa_ift hxc c_77
          have hpc := hmc.e.trans (fa_acc_t hcm)
          refine lv_aload_n hx hb dX7_readsOrder_80 rfl (lv_at hl 0 rfl) ?_
          refine lv_iconst (v := nI (3)) hx hb dX7_readsOrder_81 (by decide) ?_
          refine lv_iconst (v := nI (1)) hx hb dX7_readsOrder_82 (by decide) ?_
          refine lv_bipush (v := nI (50)) hx hb dX7_readsOrder_83 (by decide) ?_
          refine fa_callViu (As := [.int (nI (3)), .int (nI (1)), .int (nI (50))]) (rest := []) CX HX2340 (r_number l G n hn v2339 r hM (n9) (m_x2331 + 1) (no) (by omega) (by omega) (by omega) ((hf_x2338.2 9 (by decide) (by decide)).trans ((hf_x2331.2 9 (by decide) (by decide)).trans ((hf_x2212.2 9 (by decide) (by decide)).trans (by rw [e2209, fa_u_n _ _ (by omega)]; exact (by rw [e2206, fa_u_n _ _ (by omega)]; exact g9))))) ((gm_x2338).trans (congrArg nI hpc)) (go_x2338.trans (congrArg nI ho_x2338.e)) t ((h2337.2 405 (by omega)).trans ((h2330.2 405 (by omega)).trans ((h2211.2 405 (by omega)).trans (((congrFun e2209 405).trans (fa_u_k _ _ (by decide))).trans (((congrFun e2206 405).trans (fa_u_k _ _ (by decide))).trans h5))))) (3) (nI (1)) (nI (50)) (by omega) ⟨1, by decide, rfl⟩ ⟨50, by decide, rfl⟩) ln_X7_148 (by omega) rfl rfl rfl rfl (Nat.le_of_ble_eq_true rfl) hl.1 ⟨Nat.le_of_ble_eq_true rfl, Nat.le_of_ble_eq_true rfl⟩ ⟨Nat.le_refl _, Nat.le_refl _⟩ dX7_readsOrder_85 (fun x2345 v2346 H locs h2344 HX2347 => ?_)
          obtain ⟨hx_x2345, m_x2345, o_x2345, ⟨ha_x2345, hc_x2345, hd_x2345, hm_x2345, ho_x2345⟩, gm_x2345, go_x2345, hf_x2345, hr_x2345⟩ := h2344.1
          have hxn2 := hx_x2345
          have hmn2 := hm_x2345
          refine lv_if_eq (tgt := 95) hx hb dX7_readsOrder_88 (by decide) (fun c_88 => ?_) (fun c_88 => ?_)
          · have hn2 := fa_ifn hxn2 c_88
            refine lv_iconst (v := nI (0)) hx hb dX7_readsOrder_95 (by decide) ?_
            refine lv_istore_n (lv' := [(1, .int (nI (0))), (0, .ref (fa_B G + (397)))]) hx hb dX7_readsOrder_96 rfl hl (by decide) rfl (fun ls hl => ?_)
            refine lv_goto (tgt := 259) hx hb dX7_readsOrder_97 (by decide) ?_
            refine lv_aload_n hx hb dX7_readsOrder_259 rfl (lv_at hl 1 rfl) ?_
            refine lv_dup hx hb dX7_readsOrder_260 rfl ?_
            refine fa_geti (k := 397) CX HX2347 fl_X7_141 (by omega) rfl rfl dX7_readsOrder_261 ?_
            rw [show v2346 397 11 = nI (no) from (go_x2345.trans (congrArg nI ho_x2345.e))]
            refine lv_iload_n hx hb dX7_readsOrder_264 rfl (lv_at hl 0 rfl) ?_
            refine lv_if_eq (tgt := 272) hx hb dX7_readsOrder_265 (by decide) (fun c_265 => ?_) (fun c_265 => ?_)
            · refine lv_iconst (v := nI (0)) hx hb dX7_readsOrder_272 (by decide) ?_
              refine fa_iaddN hx hb dX7_readsOrder_273 ?_
              refine fa_puti (k := 397) CX HX2347 fl_X7_141 (by omega) rfl rfl rfl rfl dX7_readsOrder_274 (fun H locs v2348 e2349 HX2350 => ?_)
              refine lv_iload_n hx hb dX7_readsOrder_277 rfl (lv_at hl 0 rfl) ?_
              exact RET _ _ _ _ _ _ _ HX2350 dX7_readsOrder_278 (by decide) (⟨rfl, ⟨⟨(by rw [((fa_ord_n hS110).trans (fa_two_n hn1 hmn1.e hcm hn2))]; exact rfl), m_x2345, no + 0, ⟨by omega, by omega, by omega, fa_is.mk (by rw [((fa_ord_n hS110).trans (fa_two_n hn1 hmn1.e hcm hn2))]; exact hmn2.e), fa_is.mk (by rw [((fa_ord_n hS110).trans (fa_two_n hn1 hmn1.e hcm hn2))]; exact (show no + 0 = no by omega))⟩, (show v2348 397 12 = nI (m_x2345) from (by rw [e2349, fa_u_n _ _ (by omega)]; exact gm_x2345)), (show v2348 397 11 = nI (no + 0) from (by rw [e2349, fa_u_s])), (show fa_f3 v v2348 from (by rw [e2349]; exact fa_f3.w (fa_f3.tr (fa_f3.tr (fa_f3.tr (fa_f3.tr (by rw [e2209]; exact fa_f3.u (by rw [e2206]; exact fa_f3.u fa_f3.rf)) hf_x2212) hf_x2331) hf_x2338) hf_x2345) (by decide))), (by rw [((fa_ord_n hS110).trans (fa_two_n hn1 hmn1.e hcm hn2))]; exact ⟨(fun i hi => (by show v2348 403 i = _; rw [e2349, fa_u_k _ _ (by decide), hr_x2345.2 i (by omega), hr_x2338, hr_x2331.2 i (by omega), hr_x2212]; exact hA i hi)), (by show v2348 403 (4 * no) = _; rw [e2349, fa_u_k _ _ (by decide), hr_x2345.2 (4 * no) (by omega), hr_x2338, hr_x2331.2 (4 * no) (by omega), hr_x2212]; exact hB), (by show v2348 403 (4 * no + 1) = _; rw [e2349, fa_u_k _ _ (by decide), hr_x2345.2 (4 * no + 1) (by omega), hr_x2338, hr_x2331.2 (4 * no + 1) (by omega), hr_x2212]; exact hC), (fun z => absurd (show false = true from z) (by decide))⟩)⟩, (by rw [e2349]; exact fa_fr.u (fa_fr.tr (fa_fr.tr (fa_fr.tr (fa_fr.tr (by rw [e2209]; exact fa_fr.u (by rw [e2206]; exact fa_fr.u fa_fr.rf (by omega)) (by omega)) (fa_fr.wide h2211.2 (by omega) (by omega))) (fa_fr.wide h2330.2 (by omega) (by omega))) (fa_fr.wide h2337.2 (by omega) (by omega))) (fa_fr.wide h2344.2 (by omega) (by omega))) (by omega))⟩⟩)
            · exact absurd (by try decide) c_265
          · have hn2 := fa_ift hxn2 c_88
            refine lv_iconst (v := nI (1)) hx hb dX7_readsOrder_91 (by decide) ?_
            refine lv_goto (tgt := 96) hx hb dX7_readsOrder_92 (by decide) ?_
            refine lv_istore_n (lv' := [(1, .int (nI (1))), (0, .ref (fa_B G + (397)))]) hx hb dX7_readsOrder_96 rfl hl (by decide) rfl (fun ls hl => ?_)
            refine lv_goto (tgt := 259) hx hb dX7_readsOrder_97 (by decide) ?_
            refine lv_aload_n hx hb dX7_readsOrder_259 rfl (lv_at hl 1 rfl) ?_
            refine lv_dup hx hb dX7_readsOrder_260 rfl ?_
            refine fa_geti (k := 397) CX HX2347 fl_X7_141 (by omega) rfl rfl dX7_readsOrder_261 ?_
            rw [show v2346 397 11 = nI (no) from (go_x2345.trans (congrArg nI ho_x2345.e))]
            refine lv_iload_n hx hb dX7_readsOrder_264 rfl (lv_at hl 0 rfl) ?_
            refine lv_if_eq (tgt := 272) hx hb dX7_readsOrder_265 (by decide) (fun c_265 => ?_) (fun c_265 => ?_)
            · exact absurd c_265 (by try decide)
            · refine lv_iconst (v := nI (1)) hx hb dX7_readsOrder_268 (by decide) ?_
              refine lv_goto (tgt := 273) hx hb dX7_readsOrder_269 (by decide) ?_
              refine fa_iaddN hx hb dX7_readsOrder_273 ?_
              refine fa_puti (k := 397) CX HX2347 fl_X7_141 (by omega) rfl rfl rfl rfl dX7_readsOrder_274 (fun H locs v2351 e2352 HX2353 => ?_)
              refine lv_iload_n hx hb dX7_readsOrder_277 rfl (lv_at hl 0 rfl) ?_
              exact RET _ _ _ _ _ _ _ HX2353 dX7_readsOrder_278 (by decide) (⟨rfl, ⟨⟨(by rw [((fa_ord_n hS110).trans (fa_two_y hn1 hmn1.e hcm hn2))]; exact rfl), m_x2345, no + 1, ⟨by omega, by omega, (by have hfx := (show na + 2 ≤ m_x2345 from by have z := (fa_ord_le (t := t) hna).2.2; rw [((fa_ord_n hS110).trans (fa_two_y hn1 hmn1.e hcm hn2))] at z; rw [hmn2.e]; exact z rfl); omega), fa_is.mk (by rw [((fa_ord_n hS110).trans (fa_two_y hn1 hmn1.e hcm hn2))]; exact hmn2.e), fa_is.mk (by rw [((fa_ord_n hS110).trans (fa_two_y hn1 hmn1.e hcm hn2))]; exact (show no + 1 = no + 1 by omega))⟩, (show v2351 397 12 = nI (m_x2345) from (by rw [e2352, fa_u_n _ _ (by omega)]; exact gm_x2345)), (show v2351 397 11 = nI (no + 1) from (by rw [e2352, fa_u_s])), (show fa_f3 v v2351 from (by rw [e2352]; exact fa_f3.w (fa_f3.tr (fa_f3.tr (fa_f3.tr (fa_f3.tr (by rw [e2209]; exact fa_f3.u (by rw [e2206]; exact fa_f3.u fa_f3.rf)) hf_x2212) hf_x2331) hf_x2338) hf_x2345) (by decide))), (by rw [((fa_ord_n hS110).trans (fa_two_y hn1 hmn1.e hcm hn2))]; exact ⟨(fun i hi => (by show v2351 403 i = _; rw [e2352, fa_u_k _ _ (by decide), hr_x2345.2 i (by omega), hr_x2338, hr_x2331.2 i (by omega), hr_x2212]; exact hA i hi)), (by show v2351 403 (4 * no) = _; rw [e2352, fa_u_k _ _ (by decide), hr_x2345.2 (4 * no) (by omega), hr_x2338, hr_x2331.2 (4 * no) (by omega), hr_x2212]; exact hB), (by show v2351 403 (4 * no + 1) = _; rw [e2352, fa_u_k _ _ (by decide), hr_x2345.2 (4 * no + 1) (by omega), hr_x2338, hr_x2331.2 (4 * no + 1) (by omega), hr_x2212]; exact hC), (fun _ => ⟨(by show v2351 403 (4 * no + 2) = _; rw [e2352, fa_u_k _ _ (by decide), hr_x2345.2 (4 * no + 2) (by omega), hr_x2338]; exact hr_x2331.1 hn1), (fun _ _ => (by show v2351 403 (4 * no + 3) = _; rw [e2352, fa_u_k _ _ (by decide)]; exact hr_x2345.1 hn2))⟩)⟩)⟩, (by rw [e2352]; exact fa_fr.u (fa_fr.tr (fa_fr.tr (fa_fr.tr (fa_fr.tr (by rw [e2209]; exact fa_fr.u (by rw [e2206]; exact fa_fr.u fa_fr.rf (by omega)) (by omega)) (fa_fr.wide h2211.2 (by omega) (by omega))) (fa_fr.wide h2330.2 (by omega) (by omega))) (fa_fr.wide h2337.2 (by omega) (by omega))) (fa_fr.wide h2344.2 (by omega) (by omega))) (by omega))⟩⟩)
  · have hlt0 := fa_ltN (by omega) (by omega) c_35
    refine lv_aload_n hx hb dX7_readsOrder_38 rfl (lv_at hl 0 rfl) ?_
    refine fa_getr (k := 397) (j := 405) CX HX2207 fl_X7_32 (by omega) rfl rfl hM.2.2.2.2.2.2.2 dX7_readsOrder_39 ?_
    refine lv_aload_n hx hb dX7_readsOrder_42 rfl (lv_at hl 0 rfl) ?_
    refine fa_geti (k := 397) CX HX2207 fl_X7_134 (by omega) rfl rfl dX7_readsOrder_43 ?_
    rw [show v2205 397 12 = nI (na) from (by rw [e2206, fa_u_n _ _ (by omega)]; exact gA)]
    refine fa_cald (k := 405) (j := na) CX HX2207 (by omega) rfl (by omega) (by first | decide | assumption) dX7_readsOrder_46 ?_
    refine lv_goto (tgt := 51) hx hb dX7_readsOrder_47 (by decide) ?_
    refine fa_iast (k := 403) (j := 4 * no + 1) CX HX2207 (by omega) rfl (by omega) (by first | decide | assumption) dX7_readsOrder_51 (fun H locs v2354 e2355 HX2356 => ?_)
    have hA : ∀ i, i < 4 * no → v2354 403 i = v 403 i := fun i hi => by rw [e2355, fa_u_n _ _ (by omega), e2206, fa_u_n _ _ (by omega)]
    have hB : v2354 403 (4 * no) = nI na := by rw [e2355, fa_u_n _ _ (by omega), e2206, fa_u_s]
    have hC : v2354 403 (4 * no + 1) = fa_sg t n9 na := by rw [e2355, fa_u_s]; exact (congrFun (((congrFun e2206 405).trans (fa_u_k _ _ (by decide))).trans h5) na).trans (fa_sg_in hlt0).symm
    refine lv_aload_n hx hb dX7_readsOrder_52 rfl (lv_at hl 0 rfl) ?_
    refine lv_bipush (v := nI (110)) hx hb dX7_readsOrder_53 (by decide) ?_
    refine fa_callViu (As := [.int (nI (110))]) (rest := []) CX HX2356 (r_accepts l G n hn v2354 r hM (n9) (na) (no) (by omega) (by omega) (by omega) (by rw [e2355, fa_u_n _ _ (by omega)]; exact (by rw [e2206, fa_u_n _ _ (by omega)]; exact g9)) (by rw [e2355, fa_u_n _ _ (by omega)]; exact (by rw [e2206, fa_u_n _ _ (by omega)]; exact gA)) (by rw [e2355, fa_u_n _ _ (by omega)]; exact (by rw [e2206, fa_u_n _ _ (by omega)]; exact gO)) t (((congrFun e2355 405).trans (fa_u_k _ _ (by decide))).trans (((congrFun e2206 405).trans (fa_u_k _ _ (by decide))).trans h5)) (nI (110)) (by decide)) ln_X7_144 (by omega) rfl rfl rfl rfl (Nat.le_of_ble_eq_true rfl) hl.1 ⟨Nat.le_of_ble_eq_true rfl, Nat.le_of_ble_eq_true rfl⟩ ⟨Nat.le_refl _, Nat.le_refl _⟩ dX7_readsOrder_55 (fun x2358 v2359 H locs h2357 HX2360 => ?_)
    obtain ⟨hx_x2358, m_x2358, o_x2358, ⟨ha_x2358, hc_x2358, hd_x2358, hm_x2358, ho_x2358⟩, gm_x2358, go_x2358, hf_x2358, hr_x2358⟩ := h2357.1
    have hxa := hx_x2358
    have hma := hm_x2358
    refine lv_if_eq (tgt := 100) hx hb dX7_readsOrder_58 (by decide) (fun c_58 => ?_) (fun c_58 => ?_)
    · have hS110 : ¬ fa_sg t n9 na = (110 : Int32) := fa_ifn hxa (by first | exact c_58 | exact Decidable.not_not.mp c_58)
      have hp110 := hma.e.trans (fa_acc_f hS110)
      clear ha_x2358 hc_x2358 hd_x2358 hxa hma
      refine lv_aload_n hx hb dX7_readsOrder_100 rfl (lv_at hl 0 rfl) ?_
      refine lv_bipush (v := nI (97)) hx hb dX7_readsOrder_101 (by decide) ?_
      refine fa_callViu (As := [.int (nI (97))]) (rest := []) CX HX2360 (r_accepts l G n hn v2359 r hM (n9) (na) (no) (by omega) (by omega) (by omega) ((hf_x2358.2 9 (by decide) (by decide)).trans (by rw [e2355, fa_u_n _ _ (by omega)]; exact (by rw [e2206, fa_u_n _ _ (by omega)]; exact g9))) ((gm_x2358).trans (congrArg nI hp110)) (go_x2358.trans (congrArg nI ho_x2358.e)) t ((h2357.2 405 (by omega)).trans (((congrFun e2355 405).trans (fa_u_k _ _ (by decide))).trans (((congrFun e2206 405).trans (fa_u_k _ _ (by decide))).trans h5))) (nI (97)) (by decide)) ln_X7_144 (by omega) rfl rfl rfl rfl (Nat.le_of_ble_eq_true rfl) hl.1 ⟨Nat.le_of_ble_eq_true rfl, Nat.le_of_ble_eq_true rfl⟩ ⟨Nat.le_refl _, Nat.le_refl _⟩ dX7_readsOrder_103 (fun x2362 v2363 H locs h2361 HX2364 => ?_)
      obtain ⟨hx_x2362, m_x2362, o_x2362, ⟨ha_x2362, hc_x2362, hd_x2362, hm_x2362, ho_x2362⟩, gm_x2362, go_x2362, hf_x2362, hr_x2362⟩ := h2361.1
      have hxa := hx_x2362
      have hma := hm_x2362
      refine lv_if_eq (tgt := 122) hx hb dX7_readsOrder_106 (by decide) (fun c_106 => ?_) (fun c_106 => ?_)
      · have hS97 : ¬ fa_sg t n9 na = (97 : Int32) := fa_ifn hxa (by first | exact c_106 | exact Decidable.not_not.mp c_106)
        have hp97 := hma.e.trans (fa_acc_f hS97)
        clear ha_x2362 hc_x2362 hd_x2362 hxa hma
        refine lv_aload_n hx hb dX7_readsOrder_122 rfl (lv_at hl 0 rfl) ?_
        refine lv_bipush (v := nI (115)) hx hb dX7_readsOrder_123 (by decide) ?_
        refine fa_callViu (As := [.int (nI (115))]) (rest := []) CX HX2364 (r_accepts l G n hn v2363 r hM (n9) (na) (no) (by omega) (by omega) (by omega) ((hf_x2362.2 9 (by decide) (by decide)).trans ((hf_x2358.2 9 (by decide) (by decide)).trans (by rw [e2355, fa_u_n _ _ (by omega)]; exact (by rw [e2206, fa_u_n _ _ (by omega)]; exact g9)))) ((gm_x2362).trans (congrArg nI hp97)) (go_x2362.trans (congrArg nI ho_x2362.e)) t ((h2361.2 405 (by omega)).trans ((h2357.2 405 (by omega)).trans (((congrFun e2355 405).trans (fa_u_k _ _ (by decide))).trans (((congrFun e2206 405).trans (fa_u_k _ _ (by decide))).trans h5)))) (nI (115)) (by decide)) ln_X7_144 (by omega) rfl rfl rfl rfl (Nat.le_of_ble_eq_true rfl) hl.1 ⟨Nat.le_of_ble_eq_true rfl, Nat.le_of_ble_eq_true rfl⟩ ⟨Nat.le_refl _, Nat.le_refl _⟩ dX7_readsOrder_125 (fun x2366 v2367 H locs h2365 HX2368 => ?_)
        obtain ⟨hx_x2366, m_x2366, o_x2366, ⟨ha_x2366, hc_x2366, hd_x2366, hm_x2366, ho_x2366⟩, gm_x2366, go_x2366, hf_x2366, hr_x2366⟩ := h2365.1
        have hxa := hx_x2366
        have hma := hm_x2366
        refine lv_if_ne (tgt := 140) hx hb dX7_readsOrder_128 (by decide) (fun c_128 => ?_) (fun c_128 => ?_)
        · have hS115 : fa_sg t n9 na = (115 : Int32) := fa_ift hxa c_128
          have hp115 := hma.e.trans (fa_acc_t hS115)
          have hlt : na < n9 := fa_sg_nz hS115 (by decide)
          clear ha_x2366 hc_x2366 hd_x2366
          refine lv_aload_n hx hb dX7_readsOrder_140 rfl (lv_at hl 0 rfl) ?_
          refine lv_iconst (v := nI (2)) hx hb dX7_readsOrder_141 (by decide) ?_
          refine lv_iconst (v := nI (0)) hx hb dX7_readsOrder_142 (by decide) ?_
          refine lv_bipush (v := nI (7)) hx hb dX7_readsOrder_143 (by decide) ?_
          refine fa_callViu (As := [.int (nI (2)), .int (nI (0)), .int (nI (7))]) (rest := []) CX HX2368 (r_number l G n hn v2367 r hM (n9) (na + 1) (no) (by omega) (by omega) (by omega) ((hf_x2366.2 9 (by decide) (by decide)).trans ((hf_x2362.2 9 (by decide) (by decide)).trans ((hf_x2358.2 9 (by decide) (by decide)).trans (by rw [e2355, fa_u_n _ _ (by omega)]; exact (by rw [e2206, fa_u_n _ _ (by omega)]; exact g9))))) ((gm_x2366).trans (congrArg nI hp115)) (go_x2366.trans (congrArg nI ho_x2366.e)) t ((h2365.2 405 (by omega)).trans ((h2361.2 405 (by omega)).trans ((h2357.2 405 (by omega)).trans (((congrFun e2355 405).trans (fa_u_k _ _ (by decide))).trans (((congrFun e2206 405).trans (fa_u_k _ _ (by decide))).trans h5))))) (2) (nI (0)) (nI (7)) (by omega) ⟨0, by decide, rfl⟩ ⟨7, by decide, rfl⟩) ln_X7_148 (by omega) rfl rfl rfl rfl (Nat.le_of_ble_eq_true rfl) hl.1 ⟨Nat.le_of_ble_eq_true rfl, Nat.le_of_ble_eq_true rfl⟩ ⟨Nat.le_refl _, Nat.le_refl _⟩ dX7_readsOrder_145 (fun x2370 v2371 H locs h2369 HX2372 => ?_)
          obtain ⟨hx_x2370, m_x2370, o_x2370, ⟨ha_x2370, hc_x2370, hd_x2370, hm_x2370, ho_x2370⟩, gm_x2370, go_x2370, hf_x2370, hr_x2370⟩ := h2369.1
          have hxn1 := hx_x2370
          have hmn1 := hm_x2370
          refine lv_if_eq (tgt := 176) hx hb dX7_readsOrder_148 (by decide) (fun c_148 => ?_) (fun c_148 => ?_)
          · have hn1 := fa_ifn hxn1 c_148
            refine lv_iconst (v := nI (0)) hx hb dX7_readsOrder_176 (by decide) ?_
            refine lv_istore_n (lv' := [(1, .int (nI (0))), (0, .ref (fa_B G + (397)))]) hx hb dX7_readsOrder_177 rfl hl (by decide) rfl (fun ls hl => ?_)
            refine lv_goto (tgt := 259) hx hb dX7_readsOrder_178 (by decide) ?_
            refine lv_aload_n hx hb dX7_readsOrder_259 rfl (lv_at hl 1 rfl) ?_
            refine lv_dup hx hb dX7_readsOrder_260 rfl ?_
            refine fa_geti (k := 397) CX HX2372 fl_X7_141 (by omega) rfl rfl dX7_readsOrder_261 ?_
            rw [show v2371 397 11 = nI (no) from (go_x2370.trans (congrArg nI ho_x2370.e))]
            refine lv_iload_n hx hb dX7_readsOrder_264 rfl (lv_at hl 0 rfl) ?_
            refine lv_if_eq (tgt := 272) hx hb dX7_readsOrder_265 (by decide) (fun c_265 => ?_) (fun c_265 => ?_)
            · refine lv_iconst (v := nI (0)) hx hb dX7_readsOrder_272 (by decide) ?_
              refine fa_iaddN hx hb dX7_readsOrder_273 ?_
              refine fa_puti (k := 397) CX HX2372 fl_X7_141 (by omega) rfl rfl rfl rfl dX7_readsOrder_274 (fun H locs v2373 e2374 HX2375 => ?_)
              refine lv_iload_n hx hb dX7_readsOrder_277 rfl (lv_at hl 0 rfl) ?_
              exact RET _ _ _ _ _ _ _ HX2375 dX7_readsOrder_278 (by decide) (⟨rfl, ⟨⟨(by rw [((fa_ord_s (Or.inl hS115)).trans (fa_two_f hn1))]; exact rfl), m_x2370, no + 0, ⟨by omega, by omega, by omega, fa_is.mk (by rw [((fa_ord_s (Or.inl hS115)).trans (fa_two_f hn1))]; exact hmn1.e), fa_is.mk (by rw [((fa_ord_s (Or.inl hS115)).trans (fa_two_f hn1))]; exact (show no + 0 = no by omega))⟩, (show v2373 397 12 = nI (m_x2370) from (by rw [e2374, fa_u_n _ _ (by omega)]; exact gm_x2370)), (show v2373 397 11 = nI (no + 0) from (by rw [e2374, fa_u_s])), (show fa_f3 v v2373 from (by rw [e2374]; exact fa_f3.w (fa_f3.tr (fa_f3.tr (fa_f3.tr (fa_f3.tr (by rw [e2355]; exact fa_f3.u (by rw [e2206]; exact fa_f3.u fa_f3.rf)) hf_x2358) hf_x2362) hf_x2366) hf_x2370) (by decide))), (by rw [((fa_ord_s (Or.inl hS115)).trans (fa_two_f hn1))]; exact ⟨(fun i hi => (by show v2373 403 i = _; rw [e2374, fa_u_k _ _ (by decide), hr_x2370.2 i (by omega), hr_x2366, hr_x2362, hr_x2358]; exact hA i hi)), (by show v2373 403 (4 * no) = _; rw [e2374, fa_u_k _ _ (by decide), hr_x2370.2 (4 * no) (by omega), hr_x2366, hr_x2362, hr_x2358]; exact hB), (by show v2373 403 (4 * no + 1) = _; rw [e2374, fa_u_k _ _ (by decide), hr_x2370.2 (4 * no + 1) (by omega), hr_x2366, hr_x2362, hr_x2358]; exact hC), (fun z => absurd (show false = true from z) (by decide))⟩)⟩, (by rw [e2374]; exact fa_fr.u (fa_fr.tr (fa_fr.tr (fa_fr.tr (fa_fr.tr (by rw [e2355]; exact fa_fr.u (by rw [e2206]; exact fa_fr.u fa_fr.rf (by omega)) (by omega)) (fa_fr.wide h2357.2 (by omega) (by omega))) (fa_fr.wide h2361.2 (by omega) (by omega))) (fa_fr.wide h2365.2 (by omega) (by omega))) (fa_fr.wide h2369.2 (by omega) (by omega))) (by omega))⟩⟩)
            · exact absurd (by try decide) c_265
          · have hn1 := fa_ift hxn1 c_148
            refine lv_aload_n hx hb dX7_readsOrder_151 rfl (lv_at hl 0 rfl) ?_
            refine lv_bipush (v := nI (44)) hx hb dX7_readsOrder_152 (by decide) ?_
            refine fa_callViu (As := [.int (nI (44))]) (rest := []) CX HX2372 (r_accepts l G n hn v2371 r hM (n9) (m_x2370) (no) (by omega) (by omega) (by omega) ((hf_x2370.2 9 (by decide) (by decide)).trans ((hf_x2366.2 9 (by decide) (by decide)).trans ((hf_x2362.2 9 (by decide) (by decide)).trans ((hf_x2358.2 9 (by decide) (by decide)).trans (by rw [e2355, fa_u_n _ _ (by omega)]; exact (by rw [e2206, fa_u_n _ _ (by omega)]; exact g9)))))) gm_x2370 (go_x2370.trans (congrArg nI ho_x2370.e)) t ((h2369.2 405 (by omega)).trans ((h2365.2 405 (by omega)).trans ((h2361.2 405 (by omega)).trans ((h2357.2 405 (by omega)).trans (((congrFun e2355 405).trans (fa_u_k _ _ (by decide))).trans (((congrFun e2206 405).trans (fa_u_k _ _ (by decide))).trans h5)))))) (nI (44)) (by decide)) ln_X7_144 (by omega) rfl rfl rfl rfl (Nat.le_of_ble_eq_true rfl) hl.1 ⟨Nat.le_of_ble_eq_true rfl, Nat.le_of_ble_eq_true rfl⟩ ⟨Nat.le_refl _, Nat.le_refl _⟩ dX7_readsOrder_154 (fun x2377 v2378 H locs h2376 HX2379 => ?_)
            obtain ⟨hx_x2377, m_x2377, o_x2377, ⟨ha_x2377, hc_x2377, hd_x2377, hm_x2377, ho_x2377⟩, gm_x2377, go_x2377, hf_x2377, hr_x2377⟩ := h2376.1
            have hxc := hx_x2377
            have hmc := hm_x2377
            refine lv_if_eq (tgt := 176) hx hb dX7_readsOrder_157 (by decide) (fun c_157 => ?_) (fun c_157 => ?_)
            · have hcm := fa_ifn hxc c_157
              have hpc := hmc.e.trans (fa_acc_f hcm)
              refine lv_iconst (v := nI (0)) hx hb dX7_readsOrder_176 (by decide) ?_
              refine lv_istore_n (lv' := [(1, .int (nI (0))), (0, .ref (fa_B G + (397)))]) hx hb dX7_readsOrder_177 rfl hl (by decide) rfl (fun ls hl => ?_)
              refine lv_goto (tgt := 259) hx hb dX7_readsOrder_178 (by decide) ?_
              refine lv_aload_n hx hb dX7_readsOrder_259 rfl (lv_at hl 1 rfl) ?_
              refine lv_dup hx hb dX7_readsOrder_260 rfl ?_
              refine fa_geti (k := 397) CX HX2379 fl_X7_141 (by omega) rfl rfl dX7_readsOrder_261 ?_
              rw [show v2378 397 11 = nI (no) from (go_x2377.trans (congrArg nI ho_x2377.e))]
              refine lv_iload_n hx hb dX7_readsOrder_264 rfl (lv_at hl 0 rfl) ?_
              refine lv_if_eq (tgt := 272) hx hb dX7_readsOrder_265 (by decide) (fun c_265 => ?_) (fun c_265 => ?_)
              · refine lv_iconst (v := nI (0)) hx hb dX7_readsOrder_272 (by decide) ?_
                refine fa_iaddN hx hb dX7_readsOrder_273 ?_
                refine fa_puti (k := 397) CX HX2379 fl_X7_141 (by omega) rfl rfl rfl rfl dX7_readsOrder_274 (fun H locs v2380 e2381 HX2382 => ?_)
                refine lv_iload_n hx hb dX7_readsOrder_277 rfl (lv_at hl 0 rfl) ?_
                exact RET _ _ _ _ _ _ _ HX2382 dX7_readsOrder_278 (by decide) (⟨rfl, ⟨⟨(by rw [((fa_ord_s (Or.inl hS115)).trans (fa_two_c hn1 hmn1.e hcm))]; exact rfl), m_x2370, no + 0, ⟨by omega, by omega, by omega, fa_is.mk (by rw [((fa_ord_s (Or.inl hS115)).trans (fa_two_c hn1 hmn1.e hcm))]), fa_is.mk (by rw [((fa_ord_s (Or.inl hS115)).trans (fa_two_c hn1 hmn1.e hcm))]; exact (show no + 0 = no by omega))⟩, (show v2380 397 12 = nI (m_x2370) from (by rw [e2381, fa_u_n _ _ (by omega)]; exact ((gm_x2377).trans (congrArg nI hpc)))), (show v2380 397 11 = nI (no + 0) from (by rw [e2381, fa_u_s])), (show fa_f3 v v2380 from (by rw [e2381]; exact fa_f3.w (fa_f3.tr (fa_f3.tr (fa_f3.tr (fa_f3.tr (fa_f3.tr (by rw [e2355]; exact fa_f3.u (by rw [e2206]; exact fa_f3.u fa_f3.rf)) hf_x2358) hf_x2362) hf_x2366) hf_x2370) hf_x2377) (by decide))), (by rw [((fa_ord_s (Or.inl hS115)).trans (fa_two_c hn1 hmn1.e hcm))]; exact ⟨(fun i hi => (by show v2380 403 i = _; rw [e2381, fa_u_k _ _ (by decide), hr_x2377, hr_x2370.2 i (by omega), hr_x2366, hr_x2362, hr_x2358]; exact hA i hi)), (by show v2380 403 (4 * no) = _; rw [e2381, fa_u_k _ _ (by decide), hr_x2377, hr_x2370.2 (4 * no) (by omega), hr_x2366, hr_x2362, hr_x2358]; exact hB), (by show v2380 403 (4 * no + 1) = _; rw [e2381, fa_u_k _ _ (by decide), hr_x2377, hr_x2370.2 (4 * no + 1) (by omega), hr_x2366, hr_x2362, hr_x2358]; exact hC), (fun z => absurd (show false = true from z) (by decide))⟩)⟩, (by rw [e2381]; exact fa_fr.u (fa_fr.tr (fa_fr.tr (fa_fr.tr (fa_fr.tr (fa_fr.tr (by rw [e2355]; exact fa_fr.u (by rw [e2206]; exact fa_fr.u fa_fr.rf (by omega)) (by omega)) (fa_fr.wide h2357.2 (by omega) (by omega))) (fa_fr.wide h2361.2 (by omega) (by omega))) (fa_fr.wide h2365.2 (by omega) (by omega))) (fa_fr.wide h2369.2 (by omega) (by omega))) (fa_fr.wide h2376.2 (by omega) (by omega))) (by omega))⟩⟩)
              · exact absurd (by try decide) c_265
            · have hcm := fa_ift hxc c_157
              have hpc := hmc.e.trans (fa_acc_t hcm)
              refine lv_aload_n hx hb dX7_readsOrder_160 rfl (lv_at hl 0 rfl) ?_
              refine lv_iconst (v := nI (3)) hx hb dX7_readsOrder_161 (by decide) ?_
              refine lv_iconst (v := nI (0)) hx hb dX7_readsOrder_162 (by decide) ?_
              refine lv_sipush (v := nI (199)) hx hb dX7_readsOrder_163 (by decide) ?_
              refine fa_callViu (As := [.int (nI (3)), .int (nI (0)), .int (nI (199))]) (rest := []) CX HX2379 (r_number l G n hn v2378 r hM (n9) (m_x2370 + 1) (no) (by omega) (by omega) (by omega) ((hf_x2377.2 9 (by decide) (by decide)).trans ((hf_x2370.2 9 (by decide) (by decide)).trans ((hf_x2366.2 9 (by decide) (by decide)).trans ((hf_x2362.2 9 (by decide) (by decide)).trans ((hf_x2358.2 9 (by decide) (by decide)).trans (by rw [e2355, fa_u_n _ _ (by omega)]; exact (by rw [e2206, fa_u_n _ _ (by omega)]; exact g9))))))) ((gm_x2377).trans (congrArg nI hpc)) (go_x2377.trans (congrArg nI ho_x2377.e)) t ((h2376.2 405 (by omega)).trans ((h2369.2 405 (by omega)).trans ((h2365.2 405 (by omega)).trans ((h2361.2 405 (by omega)).trans ((h2357.2 405 (by omega)).trans (((congrFun e2355 405).trans (fa_u_k _ _ (by decide))).trans (((congrFun e2206 405).trans (fa_u_k _ _ (by decide))).trans h5))))))) (3) (nI (0)) (nI (199)) (by omega) ⟨0, by decide, rfl⟩ ⟨199, by decide, rfl⟩) ln_X7_148 (by omega) rfl rfl rfl rfl (Nat.le_of_ble_eq_true rfl) hl.1 ⟨Nat.le_of_ble_eq_true rfl, Nat.le_of_ble_eq_true rfl⟩ ⟨Nat.le_refl _, Nat.le_refl _⟩ dX7_readsOrder_166 (fun x2384 v2385 H locs h2383 HX2386 => ?_)
              obtain ⟨hx_x2384, m_x2384, o_x2384, ⟨ha_x2384, hc_x2384, hd_x2384, hm_x2384, ho_x2384⟩, gm_x2384, go_x2384, hf_x2384, hr_x2384⟩ := h2383.1
              have hxn2 := hx_x2384
              have hmn2 := hm_x2384
              refine lv_if_eq (tgt := 176) hx hb dX7_readsOrder_169 (by decide) (fun c_169 => ?_) (fun c_169 => ?_)
              · have hn2 := fa_ifn hxn2 c_169
                refine lv_iconst (v := nI (0)) hx hb dX7_readsOrder_176 (by decide) ?_
                refine lv_istore_n (lv' := [(1, .int (nI (0))), (0, .ref (fa_B G + (397)))]) hx hb dX7_readsOrder_177 rfl hl (by decide) rfl (fun ls hl => ?_)
                refine lv_goto (tgt := 259) hx hb dX7_readsOrder_178 (by decide) ?_
                refine lv_aload_n hx hb dX7_readsOrder_259 rfl (lv_at hl 1 rfl) ?_
                refine lv_dup hx hb dX7_readsOrder_260 rfl ?_
                refine fa_geti (k := 397) CX HX2386 fl_X7_141 (by omega) rfl rfl dX7_readsOrder_261 ?_
                rw [show v2385 397 11 = nI (no) from (go_x2384.trans (congrArg nI ho_x2384.e))]
                refine lv_iload_n hx hb dX7_readsOrder_264 rfl (lv_at hl 0 rfl) ?_
                refine lv_if_eq (tgt := 272) hx hb dX7_readsOrder_265 (by decide) (fun c_265 => ?_) (fun c_265 => ?_)
                · refine lv_iconst (v := nI (0)) hx hb dX7_readsOrder_272 (by decide) ?_
                  refine fa_iaddN hx hb dX7_readsOrder_273 ?_
                  refine fa_puti (k := 397) CX HX2386 fl_X7_141 (by omega) rfl rfl rfl rfl dX7_readsOrder_274 (fun H locs v2387 e2388 HX2389 => ?_)
                  refine lv_iload_n hx hb dX7_readsOrder_277 rfl (lv_at hl 0 rfl) ?_
                  exact RET _ _ _ _ _ _ _ HX2389 dX7_readsOrder_278 (by decide) (⟨rfl, ⟨⟨(by rw [((fa_ord_s (Or.inl hS115)).trans (fa_two_n hn1 hmn1.e hcm hn2))]; exact rfl), m_x2384, no + 0, ⟨by omega, by omega, by omega, fa_is.mk (by rw [((fa_ord_s (Or.inl hS115)).trans (fa_two_n hn1 hmn1.e hcm hn2))]; exact hmn2.e), fa_is.mk (by rw [((fa_ord_s (Or.inl hS115)).trans (fa_two_n hn1 hmn1.e hcm hn2))]; exact (show no + 0 = no by omega))⟩, (show v2387 397 12 = nI (m_x2384) from (by rw [e2388, fa_u_n _ _ (by omega)]; exact gm_x2384)), (show v2387 397 11 = nI (no + 0) from (by rw [e2388, fa_u_s])), (show fa_f3 v v2387 from (by rw [e2388]; exact fa_f3.w (fa_f3.tr (fa_f3.tr (fa_f3.tr (fa_f3.tr (fa_f3.tr (fa_f3.tr (by rw [e2355]; exact fa_f3.u (by rw [e2206]; exact fa_f3.u fa_f3.rf)) hf_x2358) hf_x2362) hf_x2366) hf_x2370) hf_x2377) hf_x2384) (by decide))), (by rw [((fa_ord_s (Or.inl hS115)).trans (fa_two_n hn1 hmn1.e hcm hn2))]; exact ⟨(fun i hi => (by show v2387 403 i = _; rw [e2388, fa_u_k _ _ (by decide), hr_x2384.2 i (by omega), hr_x2377, hr_x2370.2 i (by omega), hr_x2366, hr_x2362, hr_x2358]; exact hA i hi)), (by show v2387 403 (4 * no) = _; rw [e2388, fa_u_k _ _ (by decide), hr_x2384.2 (4 * no) (by omega), hr_x2377, hr_x2370.2 (4 * no) (by omega), hr_x2366, hr_x2362, hr_x2358]; exact hB), (by show v2387 403 (4 * no + 1) = _; rw [e2388, fa_u_k _ _ (by decide), hr_x2384.2 (4 * no + 1) (by omega), hr_x2377, hr_x2370.2 (4 * no + 1) (by omega), hr_x2366, hr_x2362, hr_x2358]; exact hC), (fun z => absurd (show false = true from z) (by decide))⟩)⟩, (by rw [e2388]; exact fa_fr.u (fa_fr.tr (fa_fr.tr (fa_fr.tr (fa_fr.tr (fa_fr.tr (fa_fr.tr (by rw [e2355]; exact fa_fr.u (by rw [e2206]; exact fa_fr.u fa_fr.rf (by omega)) (by omega)) (fa_fr.wide h2357.2 (by omega) (by omega))) (fa_fr.wide h2361.2 (by omega) (by omega))) (fa_fr.wide h2365.2 (by omega) (by omega))) (fa_fr.wide h2369.2 (by omega) (by omega))) (fa_fr.wide h2376.2 (by omega) (by omega))) (fa_fr.wide h2383.2 (by omega) (by omega))) (by omega))⟩⟩)
                · exact absurd (by try decide) c_265
              · have hn2 := fa_ift hxn2 c_169
                refine lv_iconst (v := nI (1)) hx hb dX7_readsOrder_172 (by decide) ?_
                refine lv_goto (tgt := 177) hx hb dX7_readsOrder_173 (by decide) ?_
                refine lv_istore_n (lv' := [(1, .int (nI (1))), (0, .ref (fa_B G + (397)))]) hx hb dX7_readsOrder_177 rfl hl (by decide) rfl (fun ls hl => ?_)
                refine lv_goto (tgt := 259) hx hb dX7_readsOrder_178 (by decide) ?_
                refine lv_aload_n hx hb dX7_readsOrder_259 rfl (lv_at hl 1 rfl) ?_
                refine lv_dup hx hb dX7_readsOrder_260 rfl ?_
                refine fa_geti (k := 397) CX HX2386 fl_X7_141 (by omega) rfl rfl dX7_readsOrder_261 ?_
                rw [show v2385 397 11 = nI (no) from (go_x2384.trans (congrArg nI ho_x2384.e))]
                refine lv_iload_n hx hb dX7_readsOrder_264 rfl (lv_at hl 0 rfl) ?_
                refine lv_if_eq (tgt := 272) hx hb dX7_readsOrder_265 (by decide) (fun c_265 => ?_) (fun c_265 => ?_)
                · exact absurd c_265 (by try decide)
                · refine lv_iconst (v := nI (1)) hx hb dX7_readsOrder_268 (by decide) ?_
                  refine lv_goto (tgt := 273) hx hb dX7_readsOrder_269 (by decide) ?_
                  refine fa_iaddN hx hb dX7_readsOrder_273 ?_
                  refine fa_puti (k := 397) CX HX2386 fl_X7_141 (by omega) rfl rfl rfl rfl dX7_readsOrder_274 (fun H locs v2390 e2391 HX2392 => ?_)
                  refine lv_iload_n hx hb dX7_readsOrder_277 rfl (lv_at hl 0 rfl) ?_
                  exact RET _ _ _ _ _ _ _ HX2392 dX7_readsOrder_278 (by decide) (⟨rfl, ⟨⟨(by rw [((fa_ord_s (Or.inl hS115)).trans (fa_two_y hn1 hmn1.e hcm hn2))]; exact rfl), m_x2384, no + 1, ⟨by omega, by omega, (by have hfx := (show na + 2 ≤ m_x2384 from by have z := (fa_ord_le (t := t) hna).2.2; rw [((fa_ord_s (Or.inl hS115)).trans (fa_two_y hn1 hmn1.e hcm hn2))] at z; rw [hmn2.e]; exact z rfl); omega), fa_is.mk (by rw [((fa_ord_s (Or.inl hS115)).trans (fa_two_y hn1 hmn1.e hcm hn2))]; exact hmn2.e), fa_is.mk (by rw [((fa_ord_s (Or.inl hS115)).trans (fa_two_y hn1 hmn1.e hcm hn2))]; exact (show no + 1 = no + 1 by omega))⟩, (show v2390 397 12 = nI (m_x2384) from (by rw [e2391, fa_u_n _ _ (by omega)]; exact gm_x2384)), (show v2390 397 11 = nI (no + 1) from (by rw [e2391, fa_u_s])), (show fa_f3 v v2390 from (by rw [e2391]; exact fa_f3.w (fa_f3.tr (fa_f3.tr (fa_f3.tr (fa_f3.tr (fa_f3.tr (fa_f3.tr (by rw [e2355]; exact fa_f3.u (by rw [e2206]; exact fa_f3.u fa_f3.rf)) hf_x2358) hf_x2362) hf_x2366) hf_x2370) hf_x2377) hf_x2384) (by decide))), (by rw [((fa_ord_s (Or.inl hS115)).trans (fa_two_y hn1 hmn1.e hcm hn2))]; exact ⟨(fun i hi => (by show v2390 403 i = _; rw [e2391, fa_u_k _ _ (by decide), hr_x2384.2 i (by omega), hr_x2377, hr_x2370.2 i (by omega), hr_x2366, hr_x2362, hr_x2358]; exact hA i hi)), (by show v2390 403 (4 * no) = _; rw [e2391, fa_u_k _ _ (by decide), hr_x2384.2 (4 * no) (by omega), hr_x2377, hr_x2370.2 (4 * no) (by omega), hr_x2366, hr_x2362, hr_x2358]; exact hB), (by show v2390 403 (4 * no + 1) = _; rw [e2391, fa_u_k _ _ (by decide), hr_x2384.2 (4 * no + 1) (by omega), hr_x2377, hr_x2370.2 (4 * no + 1) (by omega), hr_x2366, hr_x2362, hr_x2358]; exact hC), (fun _ => ⟨(by show v2390 403 (4 * no + 2) = _; rw [e2391, fa_u_k _ _ (by decide), hr_x2384.2 (4 * no + 2) (by omega), hr_x2377]; exact hr_x2370.1 hn1), (fun _ _ => (by show v2390 403 (4 * no + 3) = _; rw [e2391, fa_u_k _ _ (by decide)]; exact hr_x2384.1 hn2))⟩)⟩)⟩, (by rw [e2391]; exact fa_fr.u (fa_fr.tr (fa_fr.tr (fa_fr.tr (fa_fr.tr (fa_fr.tr (fa_fr.tr (by rw [e2355]; exact fa_fr.u (by rw [e2206]; exact fa_fr.u fa_fr.rf (by omega)) (by omega)) (fa_fr.wide h2357.2 (by omega) (by omega))) (fa_fr.wide h2361.2 (by omega) (by omega))) (fa_fr.wide h2365.2 (by omega) (by omega))) (fa_fr.wide h2369.2 (by omega) (by omega))) (fa_fr.wide h2376.2 (by omega) (by omega))) (fa_fr.wide h2383.2 (by omega) (by omega))) (by omega))⟩⟩)
        · have hS115 : ¬ fa_sg t n9 na = (115 : Int32) := fa_ifn hxa (by first | exact c_128 | exact Decidable.not_not.mp c_128)
          have hp115 := hma.e.trans (fa_acc_f hS115)
          clear ha_x2366 hc_x2366 hd_x2366 hxa hma
          refine lv_aload_n hx hb dX7_readsOrder_131 rfl (lv_at hl 0 rfl) ?_
          refine lv_bipush (v := nI (108)) hx hb dX7_readsOrder_132 (by decide) ?_
          refine fa_callViu (As := [.int (nI (108))]) (rest := []) CX HX2368 (r_accepts l G n hn v2367 r hM (n9) (na) (no) (by omega) (by omega) (by omega) ((hf_x2366.2 9 (by decide) (by decide)).trans ((hf_x2362.2 9 (by decide) (by decide)).trans ((hf_x2358.2 9 (by decide) (by decide)).trans (by rw [e2355, fa_u_n _ _ (by omega)]; exact (by rw [e2206, fa_u_n _ _ (by omega)]; exact g9))))) ((gm_x2366).trans (congrArg nI hp115)) (go_x2366.trans (congrArg nI ho_x2366.e)) t ((h2365.2 405 (by omega)).trans ((h2361.2 405 (by omega)).trans ((h2357.2 405 (by omega)).trans (((congrFun e2355 405).trans (fa_u_k _ _ (by decide))).trans (((congrFun e2206 405).trans (fa_u_k _ _ (by decide))).trans h5))))) (nI (108)) (by decide)) ln_X7_144 (by omega) rfl rfl rfl rfl (Nat.le_of_ble_eq_true rfl) hl.1 ⟨Nat.le_of_ble_eq_true rfl, Nat.le_of_ble_eq_true rfl⟩ ⟨Nat.le_refl _, Nat.le_refl _⟩ dX7_readsOrder_134 (fun x2394 v2395 H locs h2393 HX2396 => ?_)
          obtain ⟨hx_x2394, m_x2394, o_x2394, ⟨ha_x2394, hc_x2394, hd_x2394, hm_x2394, ho_x2394⟩, gm_x2394, go_x2394, hf_x2394, hr_x2394⟩ := h2393.1
          have hxa := hx_x2394
          have hma := hm_x2394
          refine lv_if_eq (tgt := 181) hx hb dX7_readsOrder_137 (by decide) (fun c_137 => ?_) (fun c_137 => ?_)
          · have hS108 : ¬ fa_sg t n9 na = (108 : Int32) := fa_ifn hxa (by first | exact c_137 | exact Decidable.not_not.mp c_137)
            have hp108 := hma.e.trans (fa_acc_f hS108)
            clear ha_x2394 hc_x2394 hd_x2394 hxa hma
            refine lv_aload_n hx hb dX7_readsOrder_181 rfl (lv_at hl 0 rfl) ?_
            refine lv_bipush (v := nI (102)) hx hb dX7_readsOrder_182 (by decide) ?_
            refine fa_callViu (As := [.int (nI (102))]) (rest := []) CX HX2396 (r_accepts l G n hn v2395 r hM (n9) (na) (no) (by omega) (by omega) (by omega) ((hf_x2394.2 9 (by decide) (by decide)).trans ((hf_x2366.2 9 (by decide) (by decide)).trans ((hf_x2362.2 9 (by decide) (by decide)).trans ((hf_x2358.2 9 (by decide) (by decide)).trans (by rw [e2355, fa_u_n _ _ (by omega)]; exact (by rw [e2206, fa_u_n _ _ (by omega)]; exact g9)))))) ((gm_x2394).trans (congrArg nI hp108)) (go_x2394.trans (congrArg nI ho_x2394.e)) t ((h2393.2 405 (by omega)).trans ((h2365.2 405 (by omega)).trans ((h2361.2 405 (by omega)).trans ((h2357.2 405 (by omega)).trans (((congrFun e2355 405).trans (fa_u_k _ _ (by decide))).trans (((congrFun e2206 405).trans (fa_u_k _ _ (by decide))).trans h5)))))) (nI (102)) (by decide)) ln_X7_144 (by omega) rfl rfl rfl rfl (Nat.le_of_ble_eq_true rfl) hl.1 ⟨Nat.le_of_ble_eq_true rfl, Nat.le_of_ble_eq_true rfl⟩ ⟨Nat.le_refl _, Nat.le_refl _⟩ dX7_readsOrder_184 (fun x2398 v2399 H locs h2397 HX2400 => ?_)
            obtain ⟨hx_x2398, m_x2398, o_x2398, ⟨ha_x2398, hc_x2398, hd_x2398, hm_x2398, ho_x2398⟩, gm_x2398, go_x2398, hf_x2398, hr_x2398⟩ := h2397.1
            have hxa := hx_x2398
            have hma := hm_x2398
            refine lv_if_eq (tgt := 232) hx hb dX7_readsOrder_187 (by decide) (fun c_187 => ?_) (fun c_187 => ?_)
            · have hS102 : ¬ fa_sg t n9 na = (102 : Int32) := fa_ifn hxa (by first | exact c_187 | exact Decidable.not_not.mp c_187)
              have hp102 := hma.e.trans (fa_acc_f hS102)
              clear ha_x2398 hc_x2398 hd_x2398 hxa hma
              refine lv_aload_n hx hb dX7_readsOrder_232 rfl (lv_at hl 0 rfl) ?_
              refine lv_bipush (v := nI (100)) hx hb dX7_readsOrder_233 (by decide) ?_
              refine fa_callViu (As := [.int (nI (100))]) (rest := []) CX HX2400 (r_accepts l G n hn v2399 r hM (n9) (na) (no) (by omega) (by omega) (by omega) ((hf_x2398.2 9 (by decide) (by decide)).trans ((hf_x2394.2 9 (by decide) (by decide)).trans ((hf_x2366.2 9 (by decide) (by decide)).trans ((hf_x2362.2 9 (by decide) (by decide)).trans ((hf_x2358.2 9 (by decide) (by decide)).trans (by rw [e2355, fa_u_n _ _ (by omega)]; exact (by rw [e2206, fa_u_n _ _ (by omega)]; exact g9))))))) ((gm_x2398).trans (congrArg nI hp102)) (go_x2398.trans (congrArg nI ho_x2398.e)) t ((h2397.2 405 (by omega)).trans ((h2393.2 405 (by omega)).trans ((h2365.2 405 (by omega)).trans ((h2361.2 405 (by omega)).trans ((h2357.2 405 (by omega)).trans (((congrFun e2355 405).trans (fa_u_k _ _ (by decide))).trans (((congrFun e2206 405).trans (fa_u_k _ _ (by decide))).trans h5))))))) (nI (100)) (by decide)) ln_X7_144 (by omega) rfl rfl rfl rfl (Nat.le_of_ble_eq_true rfl) hl.1 ⟨Nat.le_of_ble_eq_true rfl, Nat.le_of_ble_eq_true rfl⟩ ⟨Nat.le_refl _, Nat.le_refl _⟩ dX7_readsOrder_235 (fun x2402 v2403 H locs h2401 HX2404 => ?_)
              obtain ⟨hx_x2402, m_x2402, o_x2402, ⟨ha_x2402, hc_x2402, hd_x2402, hm_x2402, ho_x2402⟩, gm_x2402, go_x2402, hf_x2402, hr_x2402⟩ := h2401.1
              have hxa := hx_x2402
              have hma := hm_x2402
              refine lv_if_eq (tgt := 257) hx hb dX7_readsOrder_238 (by decide) (fun c_238 => ?_) (fun c_238 => ?_)
              · have hS100 : ¬ fa_sg t n9 na = (100 : Int32) := fa_ifn hxa (by first | exact c_238 | exact Decidable.not_not.mp c_238)
                have hp100 := hma.e.trans (fa_acc_f hS100)
                clear ha_x2402 hc_x2402 hd_x2402 hxa hma
                refine lv_iconst (v := nI (0)) hx hb dX7_readsOrder_257 (by decide) ?_
                refine lv_istore_n (lv' := [(1, .int (nI (0))), (0, .ref (fa_B G + (397)))]) hx hb dX7_readsOrder_258 rfl hl (by decide) rfl (fun ls hl => ?_)
                refine lv_aload_n hx hb dX7_readsOrder_259 rfl (lv_at hl 1 rfl) ?_
                refine lv_dup hx hb dX7_readsOrder_260 rfl ?_
                refine fa_geti (k := 397) CX HX2404 fl_X7_141 (by omega) rfl rfl dX7_readsOrder_261 ?_
                rw [show v2403 397 11 = nI (no) from (go_x2402.trans (congrArg nI ho_x2402.e))]
                refine lv_iload_n hx hb dX7_readsOrder_264 rfl (lv_at hl 0 rfl) ?_
                refine lv_if_eq (tgt := 272) hx hb dX7_readsOrder_265 (by decide) (fun c_265 => ?_) (fun c_265 => ?_)
                · refine lv_iconst (v := nI (0)) hx hb dX7_readsOrder_272 (by decide) ?_
                  refine fa_iaddN hx hb dX7_readsOrder_273 ?_
                  refine fa_puti (k := 397) CX HX2404 fl_X7_141 (by omega) rfl rfl rfl rfl dX7_readsOrder_274 (fun H locs v2405 e2406 HX2407 => ?_)
                  refine lv_iload_n hx hb dX7_readsOrder_277 rfl (lv_at hl 0 rfl) ?_
                  exact RET _ _ _ _ _ _ _ HX2407 dX7_readsOrder_278 (by decide) (⟨rfl, ⟨⟨(by rw [(fa_ord_no hS110 hS97 hS115 hS108 hS102 hS100)]; exact rfl), na, no + 0, ⟨by omega, by omega, by omega, fa_is.mk (by rw [(fa_ord_no hS110 hS97 hS115 hS108 hS102 hS100)]), fa_is.mk (by rw [(fa_ord_no hS110 hS97 hS115 hS108 hS102 hS100)]; exact (show no + 0 = no by omega))⟩, (show v2405 397 12 = nI (na) from (by rw [e2406, fa_u_n _ _ (by omega)]; exact ((gm_x2402).trans (congrArg nI hp100)))), (show v2405 397 11 = nI (no + 0) from (by rw [e2406, fa_u_s])), (show fa_f3 v v2405 from (by rw [e2406]; exact fa_f3.w (fa_f3.tr (fa_f3.tr (fa_f3.tr (fa_f3.tr (fa_f3.tr (fa_f3.tr (by rw [e2355]; exact fa_f3.u (by rw [e2206]; exact fa_f3.u fa_f3.rf)) hf_x2358) hf_x2362) hf_x2366) hf_x2394) hf_x2398) hf_x2402) (by decide))), (by rw [(fa_ord_no hS110 hS97 hS115 hS108 hS102 hS100)]; exact ⟨(fun i hi => (by show v2405 403 i = _; rw [e2406, fa_u_k _ _ (by decide), hr_x2402, hr_x2398, hr_x2394, hr_x2366, hr_x2362, hr_x2358]; exact hA i hi)), (by show v2405 403 (4 * no) = _; rw [e2406, fa_u_k _ _ (by decide), hr_x2402, hr_x2398, hr_x2394, hr_x2366, hr_x2362, hr_x2358]; exact hB), (by show v2405 403 (4 * no + 1) = _; rw [e2406, fa_u_k _ _ (by decide), hr_x2402, hr_x2398, hr_x2394, hr_x2366, hr_x2362, hr_x2358]; exact hC), (fun z => absurd (show false = true from z) (by decide))⟩)⟩, (by rw [e2406]; exact fa_fr.u (fa_fr.tr (fa_fr.tr (fa_fr.tr (fa_fr.tr (fa_fr.tr (fa_fr.tr (by rw [e2355]; exact fa_fr.u (by rw [e2206]; exact fa_fr.u fa_fr.rf (by omega)) (by omega)) (fa_fr.wide h2357.2 (by omega) (by omega))) (fa_fr.wide h2361.2 (by omega) (by omega))) (fa_fr.wide h2365.2 (by omega) (by omega))) (fa_fr.wide h2393.2 (by omega) (by omega))) (fa_fr.wide h2397.2 (by omega) (by omega))) (fa_fr.wide h2401.2 (by omega) (by omega))) (by omega))⟩⟩)
                · exact absurd (by try decide) c_265
              · have hS100 : fa_sg t n9 na = (100 : Int32) := fa_ift hxa c_238
                have hp100 := hma.e.trans (fa_acc_t hS100)
                have hlt : na < n9 := fa_sg_nz hS100 (by decide)
                clear ha_x2402 hc_x2402 hd_x2402
                refine lv_aload_n hx hb dX7_readsOrder_241 rfl (lv_at hl 0 rfl) ?_
                refine lv_iconst (v := nI (2)) hx hb dX7_readsOrder_242 (by decide) ?_
                refine lv_iconst (v := nI (1)) hx hb dX7_readsOrder_243 (by decide) ?_
                refine lv_sipush (v := nI (400)) hx hb dX7_readsOrder_244 (by decide) ?_
                refine fa_callViu (As := [.int (nI (2)), .int (nI (1)), .int (nI (400))]) (rest := []) CX HX2404 (r_number l G n hn v2403 r hM (n9) (na + 1) (no) (by omega) (by omega) (by omega) ((hf_x2402.2 9 (by decide) (by decide)).trans ((hf_x2398.2 9 (by decide) (by decide)).trans ((hf_x2394.2 9 (by decide) (by decide)).trans ((hf_x2366.2 9 (by decide) (by decide)).trans ((hf_x2362.2 9 (by decide) (by decide)).trans ((hf_x2358.2 9 (by decide) (by decide)).trans (by rw [e2355, fa_u_n _ _ (by omega)]; exact (by rw [e2206, fa_u_n _ _ (by omega)]; exact g9)))))))) ((gm_x2402).trans (congrArg nI hp100)) (go_x2402.trans (congrArg nI ho_x2402.e)) t ((h2401.2 405 (by omega)).trans ((h2397.2 405 (by omega)).trans ((h2393.2 405 (by omega)).trans ((h2365.2 405 (by omega)).trans ((h2361.2 405 (by omega)).trans ((h2357.2 405 (by omega)).trans (((congrFun e2355 405).trans (fa_u_k _ _ (by decide))).trans (((congrFun e2206 405).trans (fa_u_k _ _ (by decide))).trans h5)))))))) (2) (nI (1)) (nI (400)) (by omega) ⟨1, by decide, rfl⟩ ⟨400, by decide, rfl⟩) ln_X7_148 (by omega) rfl rfl rfl rfl (Nat.le_of_ble_eq_true rfl) hl.1 ⟨Nat.le_of_ble_eq_true rfl, Nat.le_of_ble_eq_true rfl⟩ ⟨Nat.le_refl _, Nat.le_refl _⟩ dX7_readsOrder_247 (fun x2409 v2410 H locs h2408 HX2411 => ?_)
                obtain ⟨hx_x2409, m_x2409, o_x2409, ⟨ha_x2409, hc_x2409, hd_x2409, hm_x2409, ho_x2409⟩, gm_x2409, go_x2409, hf_x2409, hr_x2409⟩ := h2408.1
                have hxn1 := hx_x2409
                have hmn1 := hm_x2409
                refine lv_if_eq (tgt := 257) hx hb dX7_readsOrder_250 (by decide) (fun c_250 => ?_) (fun c_250 => ?_)
                · have hn1 := fa_ifn hxn1 c_250
                  refine lv_iconst (v := nI (0)) hx hb dX7_readsOrder_257 (by decide) ?_
                  refine lv_istore_n (lv' := [(1, .int (nI (0))), (0, .ref (fa_B G + (397)))]) hx hb dX7_readsOrder_258 rfl hl (by decide) rfl (fun ls hl => ?_)
                  refine lv_aload_n hx hb dX7_readsOrder_259 rfl (lv_at hl 1 rfl) ?_
                  refine lv_dup hx hb dX7_readsOrder_260 rfl ?_
                  refine fa_geti (k := 397) CX HX2411 fl_X7_141 (by omega) rfl rfl dX7_readsOrder_261 ?_
                  rw [show v2410 397 11 = nI (no) from (go_x2409.trans (congrArg nI ho_x2409.e))]
                  refine lv_iload_n hx hb dX7_readsOrder_264 rfl (lv_at hl 0 rfl) ?_
                  refine lv_if_eq (tgt := 272) hx hb dX7_readsOrder_265 (by decide) (fun c_265 => ?_) (fun c_265 => ?_)
                  · refine lv_iconst (v := nI (0)) hx hb dX7_readsOrder_272 (by decide) ?_
                    refine fa_iaddN hx hb dX7_readsOrder_273 ?_
                    refine fa_puti (k := 397) CX HX2411 fl_X7_141 (by omega) rfl rfl rfl rfl dX7_readsOrder_274 (fun H locs v2412 e2413 HX2414 => ?_)
                    refine lv_iload_n hx hb dX7_readsOrder_277 rfl (lv_at hl 0 rfl) ?_
                    exact RET _ _ _ _ _ _ _ HX2414 dX7_readsOrder_278 (by decide) (⟨rfl, ⟨⟨(by rw [((fa_ord_d hS100).trans (fa_one_f hn1))]; exact rfl), m_x2409, no + 0, ⟨by omega, by omega, by omega, fa_is.mk (by rw [((fa_ord_d hS100).trans (fa_one_f hn1))]; exact hmn1.e), fa_is.mk (by rw [((fa_ord_d hS100).trans (fa_one_f hn1))]; exact (show no + 0 = no by omega))⟩, (show v2412 397 12 = nI (m_x2409) from (by rw [e2413, fa_u_n _ _ (by omega)]; exact gm_x2409)), (show v2412 397 11 = nI (no + 0) from (by rw [e2413, fa_u_s])), (show fa_f3 v v2412 from (by rw [e2413]; exact fa_f3.w (fa_f3.tr (fa_f3.tr (fa_f3.tr (fa_f3.tr (fa_f3.tr (fa_f3.tr (fa_f3.tr (by rw [e2355]; exact fa_f3.u (by rw [e2206]; exact fa_f3.u fa_f3.rf)) hf_x2358) hf_x2362) hf_x2366) hf_x2394) hf_x2398) hf_x2402) hf_x2409) (by decide))), (by rw [((fa_ord_d hS100).trans (fa_one_f hn1))]; exact ⟨(fun i hi => (by show v2412 403 i = _; rw [e2413, fa_u_k _ _ (by decide), hr_x2409.2 i (by omega), hr_x2402, hr_x2398, hr_x2394, hr_x2366, hr_x2362, hr_x2358]; exact hA i hi)), (by show v2412 403 (4 * no) = _; rw [e2413, fa_u_k _ _ (by decide), hr_x2409.2 (4 * no) (by omega), hr_x2402, hr_x2398, hr_x2394, hr_x2366, hr_x2362, hr_x2358]; exact hB), (by show v2412 403 (4 * no + 1) = _; rw [e2413, fa_u_k _ _ (by decide), hr_x2409.2 (4 * no + 1) (by omega), hr_x2402, hr_x2398, hr_x2394, hr_x2366, hr_x2362, hr_x2358]; exact hC), (fun z => absurd (show false = true from z) (by decide))⟩)⟩, (by rw [e2413]; exact fa_fr.u (fa_fr.tr (fa_fr.tr (fa_fr.tr (fa_fr.tr (fa_fr.tr (fa_fr.tr (fa_fr.tr (by rw [e2355]; exact fa_fr.u (by rw [e2206]; exact fa_fr.u fa_fr.rf (by omega)) (by omega)) (fa_fr.wide h2357.2 (by omega) (by omega))) (fa_fr.wide h2361.2 (by omega) (by omega))) (fa_fr.wide h2365.2 (by omega) (by omega))) (fa_fr.wide h2393.2 (by omega) (by omega))) (fa_fr.wide h2397.2 (by omega) (by omega))) (fa_fr.wide h2401.2 (by omega) (by omega))) (fa_fr.wide h2408.2 (by omega) (by omega))) (by omega))⟩⟩)
                  · exact absurd (by try decide) c_265
                · have hn1 := fa_ift hxn1 c_250
                  refine lv_iconst (v := nI (1)) hx hb dX7_readsOrder_253 (by decide) ?_
                  refine lv_goto (tgt := 258) hx hb dX7_readsOrder_254 (by decide) ?_
                  refine lv_istore_n (lv' := [(1, .int (nI (1))), (0, .ref (fa_B G + (397)))]) hx hb dX7_readsOrder_258 rfl hl (by decide) rfl (fun ls hl => ?_)
                  refine lv_aload_n hx hb dX7_readsOrder_259 rfl (lv_at hl 1 rfl) ?_
                  refine lv_dup hx hb dX7_readsOrder_260 rfl ?_
                  refine fa_geti (k := 397) CX HX2411 fl_X7_141 (by omega) rfl rfl dX7_readsOrder_261 ?_
                  rw [show v2410 397 11 = nI (no) from (go_x2409.trans (congrArg nI ho_x2409.e))]
                  refine lv_iload_n hx hb dX7_readsOrder_264 rfl (lv_at hl 0 rfl) ?_
                  refine lv_if_eq (tgt := 272) hx hb dX7_readsOrder_265 (by decide) (fun c_265 => ?_) (fun c_265 => ?_)
                  · exact absurd c_265 (by try decide)
                  · refine lv_iconst (v := nI (1)) hx hb dX7_readsOrder_268 (by decide) ?_
                    refine lv_goto (tgt := 273) hx hb dX7_readsOrder_269 (by decide) ?_
                    refine fa_iaddN hx hb dX7_readsOrder_273 ?_
                    refine fa_puti (k := 397) CX HX2411 fl_X7_141 (by omega) rfl rfl rfl rfl dX7_readsOrder_274 (fun H locs v2415 e2416 HX2417 => ?_)
                    refine lv_iload_n hx hb dX7_readsOrder_277 rfl (lv_at hl 0 rfl) ?_
                    exact RET _ _ _ _ _ _ _ HX2417 dX7_readsOrder_278 (by decide) (⟨rfl, ⟨⟨(by rw [((fa_ord_d hS100).trans (fa_one_t hn1))]; exact rfl), m_x2409, no + 1, ⟨by omega, by omega, (by have hfx := (show na + 2 ≤ m_x2409 from by have z := (fa_ord_le (t := t) hna).2.2; rw [((fa_ord_d hS100).trans (fa_one_t hn1))] at z; rw [hmn1.e]; exact z rfl); omega), fa_is.mk (by rw [((fa_ord_d hS100).trans (fa_one_t hn1))]; exact hmn1.e), fa_is.mk (by rw [((fa_ord_d hS100).trans (fa_one_t hn1))]; exact (show no + 1 = no + 1 by omega))⟩, (show v2415 397 12 = nI (m_x2409) from (by rw [e2416, fa_u_n _ _ (by omega)]; exact gm_x2409)), (show v2415 397 11 = nI (no + 1) from (by rw [e2416, fa_u_s])), (show fa_f3 v v2415 from (by rw [e2416]; exact fa_f3.w (fa_f3.tr (fa_f3.tr (fa_f3.tr (fa_f3.tr (fa_f3.tr (fa_f3.tr (fa_f3.tr (by rw [e2355]; exact fa_f3.u (by rw [e2206]; exact fa_f3.u fa_f3.rf)) hf_x2358) hf_x2362) hf_x2366) hf_x2394) hf_x2398) hf_x2402) hf_x2409) (by decide))), (by rw [((fa_ord_d hS100).trans (fa_one_t hn1))]; exact ⟨(fun i hi => (by show v2415 403 i = _; rw [e2416, fa_u_k _ _ (by decide), hr_x2409.2 i (by omega), hr_x2402, hr_x2398, hr_x2394, hr_x2366, hr_x2362, hr_x2358]; exact hA i hi)), (by show v2415 403 (4 * no) = _; rw [e2416, fa_u_k _ _ (by decide), hr_x2409.2 (4 * no) (by omega), hr_x2402, hr_x2398, hr_x2394, hr_x2366, hr_x2362, hr_x2358]; exact hB), (by show v2415 403 (4 * no + 1) = _; rw [e2416, fa_u_k _ _ (by decide), hr_x2409.2 (4 * no + 1) (by omega), hr_x2402, hr_x2398, hr_x2394, hr_x2366, hr_x2362, hr_x2358]; exact hC), (fun _ => ⟨(by show v2415 403 (4 * no + 2) = _; rw [e2416, fa_u_k _ _ (by decide)]; exact hr_x2409.1 hn1), (fun y1 y2 => by first | exact absurd hS97 y1 | exact absurd hS100 y2)⟩)⟩)⟩, (by rw [e2416]; exact fa_fr.u (fa_fr.tr (fa_fr.tr (fa_fr.tr (fa_fr.tr (fa_fr.tr (fa_fr.tr (fa_fr.tr (by rw [e2355]; exact fa_fr.u (by rw [e2206]; exact fa_fr.u fa_fr.rf (by omega)) (by omega)) (fa_fr.wide h2357.2 (by omega) (by omega))) (fa_fr.wide h2361.2 (by omega) (by omega))) (fa_fr.wide h2365.2 (by omega) (by omega))) (fa_fr.wide h2393.2 (by omega) (by omega))) (fa_fr.wide h2397.2 (by omega) (by omega))) (fa_fr.wide h2401.2 (by omega) (by omega))) (fa_fr.wide h2408.2 (by omega) (by omega))) (by omega))⟩⟩)
            · have hS102 : fa_sg t n9 na = (102 : Int32) := fa_ift hxa c_187
              have hp102 := hma.e.trans (fa_acc_t hS102)
              have hlt : na < n9 := fa_sg_nz hS102 (by decide)
              clear ha_x2398 hc_x2398 hd_x2398
              refine lv_aload_n hx hb dX7_readsOrder_190 rfl (lv_at hl 0 rfl) ?_
              refine lv_iconst (v := nI (2)) hx hb dX7_readsOrder_191 (by decide) ?_
              refine lv_iconst (v := nI (0)) hx hb dX7_readsOrder_192 (by decide) ?_
              refine lv_sipush (v := nI (199)) hx hb dX7_readsOrder_193 (by decide) ?_
              refine fa_callViu (As := [.int (nI (2)), .int (nI (0)), .int (nI (199))]) (rest := []) CX HX2400 (r_number l G n hn v2399 r hM (n9) (na + 1) (no) (by omega) (by omega) (by omega) ((hf_x2398.2 9 (by decide) (by decide)).trans ((hf_x2394.2 9 (by decide) (by decide)).trans ((hf_x2366.2 9 (by decide) (by decide)).trans ((hf_x2362.2 9 (by decide) (by decide)).trans ((hf_x2358.2 9 (by decide) (by decide)).trans (by rw [e2355, fa_u_n _ _ (by omega)]; exact (by rw [e2206, fa_u_n _ _ (by omega)]; exact g9))))))) ((gm_x2398).trans (congrArg nI hp102)) (go_x2398.trans (congrArg nI ho_x2398.e)) t ((h2397.2 405 (by omega)).trans ((h2393.2 405 (by omega)).trans ((h2365.2 405 (by omega)).trans ((h2361.2 405 (by omega)).trans ((h2357.2 405 (by omega)).trans (((congrFun e2355 405).trans (fa_u_k _ _ (by decide))).trans (((congrFun e2206 405).trans (fa_u_k _ _ (by decide))).trans h5))))))) (2) (nI (0)) (nI (199)) (by omega) ⟨0, by decide, rfl⟩ ⟨199, by decide, rfl⟩) ln_X7_148 (by omega) rfl rfl rfl rfl (Nat.le_of_ble_eq_true rfl) hl.1 ⟨Nat.le_of_ble_eq_true rfl, Nat.le_of_ble_eq_true rfl⟩ ⟨Nat.le_refl _, Nat.le_refl _⟩ dX7_readsOrder_196 (fun x2419 v2420 H locs h2418 HX2421 => ?_)
              obtain ⟨hx_x2419, m_x2419, o_x2419, ⟨ha_x2419, hc_x2419, hd_x2419, hm_x2419, ho_x2419⟩, gm_x2419, go_x2419, hf_x2419, hr_x2419⟩ := h2418.1
              have hxn1 := hx_x2419
              have hmn1 := hm_x2419
              refine lv_if_eq (tgt := 227) hx hb dX7_readsOrder_199 (by decide) (fun c_199 => ?_) (fun c_199 => ?_)
              · have hn1 := fa_ifn hxn1 c_199
                refine lv_iconst (v := nI (0)) hx hb dX7_readsOrder_227 (by decide) ?_
                refine lv_istore_n (lv' := [(1, .int (nI (0))), (0, .ref (fa_B G + (397)))]) hx hb dX7_readsOrder_228 rfl hl (by decide) rfl (fun ls hl => ?_)
                refine lv_goto (tgt := 259) hx hb dX7_readsOrder_229 (by decide) ?_
                refine lv_aload_n hx hb dX7_readsOrder_259 rfl (lv_at hl 1 rfl) ?_
                refine lv_dup hx hb dX7_readsOrder_260 rfl ?_
                refine fa_geti (k := 397) CX HX2421 fl_X7_141 (by omega) rfl rfl dX7_readsOrder_261 ?_
                rw [show v2420 397 11 = nI (no) from (go_x2419.trans (congrArg nI ho_x2419.e))]
                refine lv_iload_n hx hb dX7_readsOrder_264 rfl (lv_at hl 0 rfl) ?_
                refine lv_if_eq (tgt := 272) hx hb dX7_readsOrder_265 (by decide) (fun c_265 => ?_) (fun c_265 => ?_)
                · refine lv_iconst (v := nI (0)) hx hb dX7_readsOrder_272 (by decide) ?_
                  refine fa_iaddN hx hb dX7_readsOrder_273 ?_
                  refine fa_puti (k := 397) CX HX2421 fl_X7_141 (by omega) rfl rfl rfl rfl dX7_readsOrder_274 (fun H locs v2422 e2423 HX2424 => ?_)
                  refine lv_iload_n hx hb dX7_readsOrder_277 rfl (lv_at hl 0 rfl) ?_
                  exact RET _ _ _ _ _ _ _ HX2424 dX7_readsOrder_278 (by decide) (⟨rfl, ⟨⟨(by rw [((fa_ord_f hS102).trans (fa_two_f hn1))]; exact rfl), m_x2419, no + 0, ⟨by omega, by omega, by omega, fa_is.mk (by rw [((fa_ord_f hS102).trans (fa_two_f hn1))]; exact hmn1.e), fa_is.mk (by rw [((fa_ord_f hS102).trans (fa_two_f hn1))]; exact (show no + 0 = no by omega))⟩, (show v2422 397 12 = nI (m_x2419) from (by rw [e2423, fa_u_n _ _ (by omega)]; exact gm_x2419)), (show v2422 397 11 = nI (no + 0) from (by rw [e2423, fa_u_s])), (show fa_f3 v v2422 from (by rw [e2423]; exact fa_f3.w (fa_f3.tr (fa_f3.tr (fa_f3.tr (fa_f3.tr (fa_f3.tr (fa_f3.tr (by rw [e2355]; exact fa_f3.u (by rw [e2206]; exact fa_f3.u fa_f3.rf)) hf_x2358) hf_x2362) hf_x2366) hf_x2394) hf_x2398) hf_x2419) (by decide))), (by rw [((fa_ord_f hS102).trans (fa_two_f hn1))]; exact ⟨(fun i hi => (by show v2422 403 i = _; rw [e2423, fa_u_k _ _ (by decide), hr_x2419.2 i (by omega), hr_x2398, hr_x2394, hr_x2366, hr_x2362, hr_x2358]; exact hA i hi)), (by show v2422 403 (4 * no) = _; rw [e2423, fa_u_k _ _ (by decide), hr_x2419.2 (4 * no) (by omega), hr_x2398, hr_x2394, hr_x2366, hr_x2362, hr_x2358]; exact hB), (by show v2422 403 (4 * no + 1) = _; rw [e2423, fa_u_k _ _ (by decide), hr_x2419.2 (4 * no + 1) (by omega), hr_x2398, hr_x2394, hr_x2366, hr_x2362, hr_x2358]; exact hC), (fun z => absurd (show false = true from z) (by decide))⟩)⟩, (by rw [e2423]; exact fa_fr.u (fa_fr.tr (fa_fr.tr (fa_fr.tr (fa_fr.tr (fa_fr.tr (fa_fr.tr (by rw [e2355]; exact fa_fr.u (by rw [e2206]; exact fa_fr.u fa_fr.rf (by omega)) (by omega)) (fa_fr.wide h2357.2 (by omega) (by omega))) (fa_fr.wide h2361.2 (by omega) (by omega))) (fa_fr.wide h2365.2 (by omega) (by omega))) (fa_fr.wide h2393.2 (by omega) (by omega))) (fa_fr.wide h2397.2 (by omega) (by omega))) (fa_fr.wide h2418.2 (by omega) (by omega))) (by omega))⟩⟩)
                · exact absurd (by try decide) c_265
              · have hn1 := fa_ift hxn1 c_199
                refine lv_aload_n hx hb dX7_readsOrder_202 rfl (lv_at hl 0 rfl) ?_
                refine lv_bipush (v := nI (44)) hx hb dX7_readsOrder_203 (by decide) ?_
                refine fa_callViu (As := [.int (nI (44))]) (rest := []) CX HX2421 (r_accepts l G n hn v2420 r hM (n9) (m_x2419) (no) (by omega) (by omega) (by omega) ((hf_x2419.2 9 (by decide) (by decide)).trans ((hf_x2398.2 9 (by decide) (by decide)).trans ((hf_x2394.2 9 (by decide) (by decide)).trans ((hf_x2366.2 9 (by decide) (by decide)).trans ((hf_x2362.2 9 (by decide) (by decide)).trans ((hf_x2358.2 9 (by decide) (by decide)).trans (by rw [e2355, fa_u_n _ _ (by omega)]; exact (by rw [e2206, fa_u_n _ _ (by omega)]; exact g9)))))))) gm_x2419 (go_x2419.trans (congrArg nI ho_x2419.e)) t ((h2418.2 405 (by omega)).trans ((h2397.2 405 (by omega)).trans ((h2393.2 405 (by omega)).trans ((h2365.2 405 (by omega)).trans ((h2361.2 405 (by omega)).trans ((h2357.2 405 (by omega)).trans (((congrFun e2355 405).trans (fa_u_k _ _ (by decide))).trans (((congrFun e2206 405).trans (fa_u_k _ _ (by decide))).trans h5)))))))) (nI (44)) (by decide)) ln_X7_144 (by omega) rfl rfl rfl rfl (Nat.le_of_ble_eq_true rfl) hl.1 ⟨Nat.le_of_ble_eq_true rfl, Nat.le_of_ble_eq_true rfl⟩ ⟨Nat.le_refl _, Nat.le_refl _⟩ dX7_readsOrder_205 (fun x2426 v2427 H locs h2425 HX2428 => ?_)
                obtain ⟨hx_x2426, m_x2426, o_x2426, ⟨ha_x2426, hc_x2426, hd_x2426, hm_x2426, ho_x2426⟩, gm_x2426, go_x2426, hf_x2426, hr_x2426⟩ := h2425.1
                have hxc := hx_x2426
                have hmc := hm_x2426
                refine lv_if_eq (tgt := 227) hx hb dX7_readsOrder_208 (by decide) (fun c_208 => ?_) (fun c_208 => ?_)
                · have hcm := fa_ifn hxc c_208
                  have hpc := hmc.e.trans (fa_acc_f hcm)
                  refine lv_iconst (v := nI (0)) hx hb dX7_readsOrder_227 (by decide) ?_
                  refine lv_istore_n (lv' := [(1, .int (nI (0))), (0, .ref (fa_B G + (397)))]) hx hb dX7_readsOrder_228 rfl hl (by decide) rfl (fun ls hl => ?_)
                  refine lv_goto (tgt := 259) hx hb dX7_readsOrder_229 (by decide) ?_
                  refine lv_aload_n hx hb dX7_readsOrder_259 rfl (lv_at hl 1 rfl) ?_
                  refine lv_dup hx hb dX7_readsOrder_260 rfl ?_
                  refine fa_geti (k := 397) CX HX2428 fl_X7_141 (by omega) rfl rfl dX7_readsOrder_261 ?_
                  rw [show v2427 397 11 = nI (no) from (go_x2426.trans (congrArg nI ho_x2426.e))]
                  refine lv_iload_n hx hb dX7_readsOrder_264 rfl (lv_at hl 0 rfl) ?_
                  refine lv_if_eq (tgt := 272) hx hb dX7_readsOrder_265 (by decide) (fun c_265 => ?_) (fun c_265 => ?_)
                  · refine lv_iconst (v := nI (0)) hx hb dX7_readsOrder_272 (by decide) ?_
                    refine fa_iaddN hx hb dX7_readsOrder_273 ?_
                    refine fa_puti (k := 397) CX HX2428 fl_X7_141 (by omega) rfl rfl rfl rfl dX7_readsOrder_274 (fun H locs v2429 e2430 HX2431 => ?_)
                    refine lv_iload_n hx hb dX7_readsOrder_277 rfl (lv_at hl 0 rfl) ?_
                    exact RET _ _ _ _ _ _ _ HX2431 dX7_readsOrder_278 (by decide) (⟨rfl, ⟨⟨(by rw [((fa_ord_f hS102).trans (fa_two_c hn1 hmn1.e hcm))]; exact rfl), m_x2419, no + 0, ⟨by omega, by omega, by omega, fa_is.mk (by rw [((fa_ord_f hS102).trans (fa_two_c hn1 hmn1.e hcm))]), fa_is.mk (by rw [((fa_ord_f hS102).trans (fa_two_c hn1 hmn1.e hcm))]; exact (show no + 0 = no by omega))⟩, (show v2429 397 12 = nI (m_x2419) from (by rw [e2430, fa_u_n _ _ (by omega)]; exact ((gm_x2426).trans (congrArg nI hpc)))), (show v2429 397 11 = nI (no + 0) from (by rw [e2430, fa_u_s])), (show fa_f3 v v2429 from (by rw [e2430]; exact fa_f3.w (fa_f3.tr (fa_f3.tr (fa_f3.tr (fa_f3.tr (fa_f3.tr (fa_f3.tr (fa_f3.tr (by rw [e2355]; exact fa_f3.u (by rw [e2206]; exact fa_f3.u fa_f3.rf)) hf_x2358) hf_x2362) hf_x2366) hf_x2394) hf_x2398) hf_x2419) hf_x2426) (by decide))), (by rw [((fa_ord_f hS102).trans (fa_two_c hn1 hmn1.e hcm))]; exact ⟨(fun i hi => (by show v2429 403 i = _; rw [e2430, fa_u_k _ _ (by decide), hr_x2426, hr_x2419.2 i (by omega), hr_x2398, hr_x2394, hr_x2366, hr_x2362, hr_x2358]; exact hA i hi)), (by show v2429 403 (4 * no) = _; rw [e2430, fa_u_k _ _ (by decide), hr_x2426, hr_x2419.2 (4 * no) (by omega), hr_x2398, hr_x2394, hr_x2366, hr_x2362, hr_x2358]; exact hB), (by show v2429 403 (4 * no + 1) = _; rw [e2430, fa_u_k _ _ (by decide), hr_x2426, hr_x2419.2 (4 * no + 1) (by omega), hr_x2398, hr_x2394, hr_x2366, hr_x2362, hr_x2358]; exact hC), (fun z => absurd (show false = true from z) (by decide))⟩)⟩, (by rw [e2430]; exact fa_fr.u (fa_fr.tr (fa_fr.tr (fa_fr.tr (fa_fr.tr (fa_fr.tr (fa_fr.tr (fa_fr.tr (by rw [e2355]; exact fa_fr.u (by rw [e2206]; exact fa_fr.u fa_fr.rf (by omega)) (by omega)) (fa_fr.wide h2357.2 (by omega) (by omega))) (fa_fr.wide h2361.2 (by omega) (by omega))) (fa_fr.wide h2365.2 (by omega) (by omega))) (fa_fr.wide h2393.2 (by omega) (by omega))) (fa_fr.wide h2397.2 (by omega) (by omega))) (fa_fr.wide h2418.2 (by omega) (by omega))) (fa_fr.wide h2425.2 (by omega) (by omega))) (by omega))⟩⟩)
                  · exact absurd (by try decide) c_265
                · have hcm := fa_ift hxc c_208
                  have hpc := hmc.e.trans (fa_acc_t hcm)
                  refine lv_aload_n hx hb dX7_readsOrder_211 rfl (lv_at hl 0 rfl) ?_
                  refine lv_iconst (v := nI (3)) hx hb dX7_readsOrder_212 (by decide) ?_
                  refine lv_iconst (v := nI (0)) hx hb dX7_readsOrder_213 (by decide) ?_
                  refine lv_sipush (v := nI (199)) hx hb dX7_readsOrder_214 (by decide) ?_
                  refine fa_callViu (As := [.int (nI (3)), .int (nI (0)), .int (nI (199))]) (rest := []) CX HX2428 (r_number l G n hn v2427 r hM (n9) (m_x2419 + 1) (no) (by omega) (by omega) (by omega) ((hf_x2426.2 9 (by decide) (by decide)).trans ((hf_x2419.2 9 (by decide) (by decide)).trans ((hf_x2398.2 9 (by decide) (by decide)).trans ((hf_x2394.2 9 (by decide) (by decide)).trans ((hf_x2366.2 9 (by decide) (by decide)).trans ((hf_x2362.2 9 (by decide) (by decide)).trans ((hf_x2358.2 9 (by decide) (by decide)).trans (by rw [e2355, fa_u_n _ _ (by omega)]; exact (by rw [e2206, fa_u_n _ _ (by omega)]; exact g9))))))))) ((gm_x2426).trans (congrArg nI hpc)) (go_x2426.trans (congrArg nI ho_x2426.e)) t ((h2425.2 405 (by omega)).trans ((h2418.2 405 (by omega)).trans ((h2397.2 405 (by omega)).trans ((h2393.2 405 (by omega)).trans ((h2365.2 405 (by omega)).trans ((h2361.2 405 (by omega)).trans ((h2357.2 405 (by omega)).trans (((congrFun e2355 405).trans (fa_u_k _ _ (by decide))).trans (((congrFun e2206 405).trans (fa_u_k _ _ (by decide))).trans h5))))))))) (3) (nI (0)) (nI (199)) (by omega) ⟨0, by decide, rfl⟩ ⟨199, by decide, rfl⟩) ln_X7_148 (by omega) rfl rfl rfl rfl (Nat.le_of_ble_eq_true rfl) hl.1 ⟨Nat.le_of_ble_eq_true rfl, Nat.le_of_ble_eq_true rfl⟩ ⟨Nat.le_refl _, Nat.le_refl _⟩ dX7_readsOrder_217 (fun x2433 v2434 H locs h2432 HX2435 => ?_)
                  obtain ⟨hx_x2433, m_x2433, o_x2433, ⟨ha_x2433, hc_x2433, hd_x2433, hm_x2433, ho_x2433⟩, gm_x2433, go_x2433, hf_x2433, hr_x2433⟩ := h2432.1
                  have hxn2 := hx_x2433
                  have hmn2 := hm_x2433
                  refine lv_if_eq (tgt := 227) hx hb dX7_readsOrder_220 (by decide) (fun c_220 => ?_) (fun c_220 => ?_)
                  · have hn2 := fa_ifn hxn2 c_220
                    refine lv_iconst (v := nI (0)) hx hb dX7_readsOrder_227 (by decide) ?_
                    refine lv_istore_n (lv' := [(1, .int (nI (0))), (0, .ref (fa_B G + (397)))]) hx hb dX7_readsOrder_228 rfl hl (by decide) rfl (fun ls hl => ?_)
                    refine lv_goto (tgt := 259) hx hb dX7_readsOrder_229 (by decide) ?_
                    refine lv_aload_n hx hb dX7_readsOrder_259 rfl (lv_at hl 1 rfl) ?_
                    refine lv_dup hx hb dX7_readsOrder_260 rfl ?_
                    refine fa_geti (k := 397) CX HX2435 fl_X7_141 (by omega) rfl rfl dX7_readsOrder_261 ?_
                    rw [show v2434 397 11 = nI (no) from (go_x2433.trans (congrArg nI ho_x2433.e))]
                    refine lv_iload_n hx hb dX7_readsOrder_264 rfl (lv_at hl 0 rfl) ?_
                    refine lv_if_eq (tgt := 272) hx hb dX7_readsOrder_265 (by decide) (fun c_265 => ?_) (fun c_265 => ?_)
                    · refine lv_iconst (v := nI (0)) hx hb dX7_readsOrder_272 (by decide) ?_
                      refine fa_iaddN hx hb dX7_readsOrder_273 ?_
                      refine fa_puti (k := 397) CX HX2435 fl_X7_141 (by omega) rfl rfl rfl rfl dX7_readsOrder_274 (fun H locs v2436 e2437 HX2438 => ?_)
                      refine lv_iload_n hx hb dX7_readsOrder_277 rfl (lv_at hl 0 rfl) ?_
                      exact RET _ _ _ _ _ _ _ HX2438 dX7_readsOrder_278 (by decide) (⟨rfl, ⟨⟨(by rw [((fa_ord_f hS102).trans (fa_two_n hn1 hmn1.e hcm hn2))]; exact rfl), m_x2433, no + 0, ⟨by omega, by omega, by omega, fa_is.mk (by rw [((fa_ord_f hS102).trans (fa_two_n hn1 hmn1.e hcm hn2))]; exact hmn2.e), fa_is.mk (by rw [((fa_ord_f hS102).trans (fa_two_n hn1 hmn1.e hcm hn2))]; exact (show no + 0 = no by omega))⟩, (show v2436 397 12 = nI (m_x2433) from (by rw [e2437, fa_u_n _ _ (by omega)]; exact gm_x2433)), (show v2436 397 11 = nI (no + 0) from (by rw [e2437, fa_u_s])), (show fa_f3 v v2436 from (by rw [e2437]; exact fa_f3.w (fa_f3.tr (fa_f3.tr (fa_f3.tr (fa_f3.tr (fa_f3.tr (fa_f3.tr (fa_f3.tr (fa_f3.tr (by rw [e2355]; exact fa_f3.u (by rw [e2206]; exact fa_f3.u fa_f3.rf)) hf_x2358) hf_x2362) hf_x2366) hf_x2394) hf_x2398) hf_x2419) hf_x2426) hf_x2433) (by decide))), (by rw [((fa_ord_f hS102).trans (fa_two_n hn1 hmn1.e hcm hn2))]; exact ⟨(fun i hi => (by show v2436 403 i = _; rw [e2437, fa_u_k _ _ (by decide), hr_x2433.2 i (by omega), hr_x2426, hr_x2419.2 i (by omega), hr_x2398, hr_x2394, hr_x2366, hr_x2362, hr_x2358]; exact hA i hi)), (by show v2436 403 (4 * no) = _; rw [e2437, fa_u_k _ _ (by decide), hr_x2433.2 (4 * no) (by omega), hr_x2426, hr_x2419.2 (4 * no) (by omega), hr_x2398, hr_x2394, hr_x2366, hr_x2362, hr_x2358]; exact hB), (by show v2436 403 (4 * no + 1) = _; rw [e2437, fa_u_k _ _ (by decide), hr_x2433.2 (4 * no + 1) (by omega), hr_x2426, hr_x2419.2 (4 * no + 1) (by omega), hr_x2398, hr_x2394, hr_x2366, hr_x2362, hr_x2358]; exact hC), (fun z => absurd (show false = true from z) (by decide))⟩)⟩, (by rw [e2437]; exact fa_fr.u (fa_fr.tr (fa_fr.tr (fa_fr.tr (fa_fr.tr (fa_fr.tr (fa_fr.tr (fa_fr.tr (fa_fr.tr (by rw [e2355]; exact fa_fr.u (by rw [e2206]; exact fa_fr.u fa_fr.rf (by omega)) (by omega)) (fa_fr.wide h2357.2 (by omega) (by omega))) (fa_fr.wide h2361.2 (by omega) (by omega))) (fa_fr.wide h2365.2 (by omega) (by omega))) (fa_fr.wide h2393.2 (by omega) (by omega))) (fa_fr.wide h2397.2 (by omega) (by omega))) (fa_fr.wide h2418.2 (by omega) (by omega))) (fa_fr.wide h2425.2 (by omega) (by omega))) (fa_fr.wide h2432.2 (by omega) (by omega))) (by omega))⟩⟩)
                    · exact absurd (by try decide) c_265
                  · have hn2 := fa_ift hxn2 c_220
                    refine lv_iconst (v := nI (1)) hx hb dX7_readsOrder_223 (by decide) ?_
                    refine lv_goto (tgt := 228) hx hb dX7_readsOrder_224 (by decide) ?_
                    refine lv_istore_n (lv' := [(1, .int (nI (1))), (0, .ref (fa_B G + (397)))]) hx hb dX7_readsOrder_228 rfl hl (by decide) rfl (fun ls hl => ?_)
                    refine lv_goto (tgt := 259) hx hb dX7_readsOrder_229 (by decide) ?_
                    refine lv_aload_n hx hb dX7_readsOrder_259 rfl (lv_at hl 1 rfl) ?_
                    refine lv_dup hx hb dX7_readsOrder_260 rfl ?_
                    refine fa_geti (k := 397) CX HX2435 fl_X7_141 (by omega) rfl rfl dX7_readsOrder_261 ?_
                    rw [show v2434 397 11 = nI (no) from (go_x2433.trans (congrArg nI ho_x2433.e))]
                    refine lv_iload_n hx hb dX7_readsOrder_264 rfl (lv_at hl 0 rfl) ?_
                    refine lv_if_eq (tgt := 272) hx hb dX7_readsOrder_265 (by decide) (fun c_265 => ?_) (fun c_265 => ?_)
                    · exact absurd c_265 (by try decide)
                    · refine lv_iconst (v := nI (1)) hx hb dX7_readsOrder_268 (by decide) ?_
                      refine lv_goto (tgt := 273) hx hb dX7_readsOrder_269 (by decide) ?_
                      refine fa_iaddN hx hb dX7_readsOrder_273 ?_
                      refine fa_puti (k := 397) CX HX2435 fl_X7_141 (by omega) rfl rfl rfl rfl dX7_readsOrder_274 (fun H locs v2439 e2440 HX2441 => ?_)
                      refine lv_iload_n hx hb dX7_readsOrder_277 rfl (lv_at hl 0 rfl) ?_
                      exact RET _ _ _ _ _ _ _ HX2441 dX7_readsOrder_278 (by decide) (⟨rfl, ⟨⟨(by rw [((fa_ord_f hS102).trans (fa_two_y hn1 hmn1.e hcm hn2))]; exact rfl), m_x2433, no + 1, ⟨by omega, by omega, (by have hfx := (show na + 2 ≤ m_x2433 from by have z := (fa_ord_le (t := t) hna).2.2; rw [((fa_ord_f hS102).trans (fa_two_y hn1 hmn1.e hcm hn2))] at z; rw [hmn2.e]; exact z rfl); omega), fa_is.mk (by rw [((fa_ord_f hS102).trans (fa_two_y hn1 hmn1.e hcm hn2))]; exact hmn2.e), fa_is.mk (by rw [((fa_ord_f hS102).trans (fa_two_y hn1 hmn1.e hcm hn2))]; exact (show no + 1 = no + 1 by omega))⟩, (show v2439 397 12 = nI (m_x2433) from (by rw [e2440, fa_u_n _ _ (by omega)]; exact gm_x2433)), (show v2439 397 11 = nI (no + 1) from (by rw [e2440, fa_u_s])), (show fa_f3 v v2439 from (by rw [e2440]; exact fa_f3.w (fa_f3.tr (fa_f3.tr (fa_f3.tr (fa_f3.tr (fa_f3.tr (fa_f3.tr (fa_f3.tr (fa_f3.tr (by rw [e2355]; exact fa_f3.u (by rw [e2206]; exact fa_f3.u fa_f3.rf)) hf_x2358) hf_x2362) hf_x2366) hf_x2394) hf_x2398) hf_x2419) hf_x2426) hf_x2433) (by decide))), (by rw [((fa_ord_f hS102).trans (fa_two_y hn1 hmn1.e hcm hn2))]; exact ⟨(fun i hi => (by show v2439 403 i = _; rw [e2440, fa_u_k _ _ (by decide), hr_x2433.2 i (by omega), hr_x2426, hr_x2419.2 i (by omega), hr_x2398, hr_x2394, hr_x2366, hr_x2362, hr_x2358]; exact hA i hi)), (by show v2439 403 (4 * no) = _; rw [e2440, fa_u_k _ _ (by decide), hr_x2433.2 (4 * no) (by omega), hr_x2426, hr_x2419.2 (4 * no) (by omega), hr_x2398, hr_x2394, hr_x2366, hr_x2362, hr_x2358]; exact hB), (by show v2439 403 (4 * no + 1) = _; rw [e2440, fa_u_k _ _ (by decide), hr_x2433.2 (4 * no + 1) (by omega), hr_x2426, hr_x2419.2 (4 * no + 1) (by omega), hr_x2398, hr_x2394, hr_x2366, hr_x2362, hr_x2358]; exact hC), (fun _ => ⟨(by show v2439 403 (4 * no + 2) = _; rw [e2440, fa_u_k _ _ (by decide), hr_x2433.2 (4 * no + 2) (by omega), hr_x2426]; exact hr_x2419.1 hn1), (fun _ _ => (by show v2439 403 (4 * no + 3) = _; rw [e2440, fa_u_k _ _ (by decide)]; exact hr_x2433.1 hn2))⟩)⟩)⟩, (by rw [e2440]; exact fa_fr.u (fa_fr.tr (fa_fr.tr (fa_fr.tr (fa_fr.tr (fa_fr.tr (fa_fr.tr (fa_fr.tr (fa_fr.tr (by rw [e2355]; exact fa_fr.u (by rw [e2206]; exact fa_fr.u fa_fr.rf (by omega)) (by omega)) (fa_fr.wide h2357.2 (by omega) (by omega))) (fa_fr.wide h2361.2 (by omega) (by omega))) (fa_fr.wide h2365.2 (by omega) (by omega))) (fa_fr.wide h2393.2 (by omega) (by omega))) (fa_fr.wide h2397.2 (by omega) (by omega))) (fa_fr.wide h2418.2 (by omega) (by omega))) (fa_fr.wide h2425.2 (by omega) (by omega))) (fa_fr.wide h2432.2 (by omega) (by omega))) (by omega))⟩⟩)
          · have hS108 : fa_sg t n9 na = (108 : Int32) := fa_ift hxa c_137
            have hp108 := hma.e.trans (fa_acc_t hS108)
            have hlt : na < n9 := fa_sg_nz hS108 (by decide)
            clear ha_x2394 hc_x2394 hd_x2394
            refine lv_aload_n hx hb dX7_readsOrder_140 rfl (lv_at hl 0 rfl) ?_
            refine lv_iconst (v := nI (2)) hx hb dX7_readsOrder_141 (by decide) ?_
            refine lv_iconst (v := nI (0)) hx hb dX7_readsOrder_142 (by decide) ?_
            refine lv_bipush (v := nI (7)) hx hb dX7_readsOrder_143 (by decide) ?_
            refine fa_callViu (As := [.int (nI (2)), .int (nI (0)), .int (nI (7))]) (rest := []) CX HX2396 (r_number l G n hn v2395 r hM (n9) (na + 1) (no) (by omega) (by omega) (by omega) ((hf_x2394.2 9 (by decide) (by decide)).trans ((hf_x2366.2 9 (by decide) (by decide)).trans ((hf_x2362.2 9 (by decide) (by decide)).trans ((hf_x2358.2 9 (by decide) (by decide)).trans (by rw [e2355, fa_u_n _ _ (by omega)]; exact (by rw [e2206, fa_u_n _ _ (by omega)]; exact g9)))))) ((gm_x2394).trans (congrArg nI hp108)) (go_x2394.trans (congrArg nI ho_x2394.e)) t ((h2393.2 405 (by omega)).trans ((h2365.2 405 (by omega)).trans ((h2361.2 405 (by omega)).trans ((h2357.2 405 (by omega)).trans (((congrFun e2355 405).trans (fa_u_k _ _ (by decide))).trans (((congrFun e2206 405).trans (fa_u_k _ _ (by decide))).trans h5)))))) (2) (nI (0)) (nI (7)) (by omega) ⟨0, by decide, rfl⟩ ⟨7, by decide, rfl⟩) ln_X7_148 (by omega) rfl rfl rfl rfl (Nat.le_of_ble_eq_true rfl) hl.1 ⟨Nat.le_of_ble_eq_true rfl, Nat.le_of_ble_eq_true rfl⟩ ⟨Nat.le_refl _, Nat.le_refl _⟩ dX7_readsOrder_145 (fun x2443 v2444 H locs h2442 HX2445 => ?_)
            obtain ⟨hx_x2443, m_x2443, o_x2443, ⟨ha_x2443, hc_x2443, hd_x2443, hm_x2443, ho_x2443⟩, gm_x2443, go_x2443, hf_x2443, hr_x2443⟩ := h2442.1
            have hxn1 := hx_x2443
            have hmn1 := hm_x2443
            refine lv_if_eq (tgt := 176) hx hb dX7_readsOrder_148 (by decide) (fun c_148 => ?_) (fun c_148 => ?_)
            · have hn1 := fa_ifn hxn1 c_148
              refine lv_iconst (v := nI (0)) hx hb dX7_readsOrder_176 (by decide) ?_
              refine lv_istore_n (lv' := [(1, .int (nI (0))), (0, .ref (fa_B G + (397)))]) hx hb dX7_readsOrder_177 rfl hl (by decide) rfl (fun ls hl => ?_)
              refine lv_goto (tgt := 259) hx hb dX7_readsOrder_178 (by decide) ?_
              refine lv_aload_n hx hb dX7_readsOrder_259 rfl (lv_at hl 1 rfl) ?_
              refine lv_dup hx hb dX7_readsOrder_260 rfl ?_
              refine fa_geti (k := 397) CX HX2445 fl_X7_141 (by omega) rfl rfl dX7_readsOrder_261 ?_
              rw [show v2444 397 11 = nI (no) from (go_x2443.trans (congrArg nI ho_x2443.e))]
              refine lv_iload_n hx hb dX7_readsOrder_264 rfl (lv_at hl 0 rfl) ?_
              refine lv_if_eq (tgt := 272) hx hb dX7_readsOrder_265 (by decide) (fun c_265 => ?_) (fun c_265 => ?_)
              · refine lv_iconst (v := nI (0)) hx hb dX7_readsOrder_272 (by decide) ?_
                refine fa_iaddN hx hb dX7_readsOrder_273 ?_
                refine fa_puti (k := 397) CX HX2445 fl_X7_141 (by omega) rfl rfl rfl rfl dX7_readsOrder_274 (fun H locs v2446 e2447 HX2448 => ?_)
                refine lv_iload_n hx hb dX7_readsOrder_277 rfl (lv_at hl 0 rfl) ?_
                exact RET _ _ _ _ _ _ _ HX2448 dX7_readsOrder_278 (by decide) (⟨rfl, ⟨⟨(by rw [((fa_ord_s (Or.inr hS108)).trans (fa_two_f hn1))]; exact rfl), m_x2443, no + 0, ⟨by omega, by omega, by omega, fa_is.mk (by rw [((fa_ord_s (Or.inr hS108)).trans (fa_two_f hn1))]; exact hmn1.e), fa_is.mk (by rw [((fa_ord_s (Or.inr hS108)).trans (fa_two_f hn1))]; exact (show no + 0 = no by omega))⟩, (show v2446 397 12 = nI (m_x2443) from (by rw [e2447, fa_u_n _ _ (by omega)]; exact gm_x2443)), (show v2446 397 11 = nI (no + 0) from (by rw [e2447, fa_u_s])), (show fa_f3 v v2446 from (by rw [e2447]; exact fa_f3.w (fa_f3.tr (fa_f3.tr (fa_f3.tr (fa_f3.tr (fa_f3.tr (by rw [e2355]; exact fa_f3.u (by rw [e2206]; exact fa_f3.u fa_f3.rf)) hf_x2358) hf_x2362) hf_x2366) hf_x2394) hf_x2443) (by decide))), (by rw [((fa_ord_s (Or.inr hS108)).trans (fa_two_f hn1))]; exact ⟨(fun i hi => (by show v2446 403 i = _; rw [e2447, fa_u_k _ _ (by decide), hr_x2443.2 i (by omega), hr_x2394, hr_x2366, hr_x2362, hr_x2358]; exact hA i hi)), (by show v2446 403 (4 * no) = _; rw [e2447, fa_u_k _ _ (by decide), hr_x2443.2 (4 * no) (by omega), hr_x2394, hr_x2366, hr_x2362, hr_x2358]; exact hB), (by show v2446 403 (4 * no + 1) = _; rw [e2447, fa_u_k _ _ (by decide), hr_x2443.2 (4 * no + 1) (by omega), hr_x2394, hr_x2366, hr_x2362, hr_x2358]; exact hC), (fun z => absurd (show false = true from z) (by decide))⟩)⟩, (by rw [e2447]; exact fa_fr.u (fa_fr.tr (fa_fr.tr (fa_fr.tr (fa_fr.tr (fa_fr.tr (by rw [e2355]; exact fa_fr.u (by rw [e2206]; exact fa_fr.u fa_fr.rf (by omega)) (by omega)) (fa_fr.wide h2357.2 (by omega) (by omega))) (fa_fr.wide h2361.2 (by omega) (by omega))) (fa_fr.wide h2365.2 (by omega) (by omega))) (fa_fr.wide h2393.2 (by omega) (by omega))) (fa_fr.wide h2442.2 (by omega) (by omega))) (by omega))⟩⟩)
              · exact absurd (by try decide) c_265
            · have hn1 := fa_ift hxn1 c_148
              refine lv_aload_n hx hb dX7_readsOrder_151 rfl (lv_at hl 0 rfl) ?_
              refine lv_bipush (v := nI (44)) hx hb dX7_readsOrder_152 (by decide) ?_
              refine fa_callViu (As := [.int (nI (44))]) (rest := []) CX HX2445 (r_accepts l G n hn v2444 r hM (n9) (m_x2443) (no) (by omega) (by omega) (by omega) ((hf_x2443.2 9 (by decide) (by decide)).trans ((hf_x2394.2 9 (by decide) (by decide)).trans ((hf_x2366.2 9 (by decide) (by decide)).trans ((hf_x2362.2 9 (by decide) (by decide)).trans ((hf_x2358.2 9 (by decide) (by decide)).trans (by rw [e2355, fa_u_n _ _ (by omega)]; exact (by rw [e2206, fa_u_n _ _ (by omega)]; exact g9))))))) gm_x2443 (go_x2443.trans (congrArg nI ho_x2443.e)) t ((h2442.2 405 (by omega)).trans ((h2393.2 405 (by omega)).trans ((h2365.2 405 (by omega)).trans ((h2361.2 405 (by omega)).trans ((h2357.2 405 (by omega)).trans (((congrFun e2355 405).trans (fa_u_k _ _ (by decide))).trans (((congrFun e2206 405).trans (fa_u_k _ _ (by decide))).trans h5))))))) (nI (44)) (by decide)) ln_X7_144 (by omega) rfl rfl rfl rfl (Nat.le_of_ble_eq_true rfl) hl.1 ⟨Nat.le_of_ble_eq_true rfl, Nat.le_of_ble_eq_true rfl⟩ ⟨Nat.le_refl _, Nat.le_refl _⟩ dX7_readsOrder_154 (fun x2450 v2451 H locs h2449 HX2452 => ?_)
              obtain ⟨hx_x2450, m_x2450, o_x2450, ⟨ha_x2450, hc_x2450, hd_x2450, hm_x2450, ho_x2450⟩, gm_x2450, go_x2450, hf_x2450, hr_x2450⟩ := h2449.1
              have hxc := hx_x2450
              have hmc := hm_x2450
              refine lv_if_eq (tgt := 176) hx hb dX7_readsOrder_157 (by decide) (fun c_157 => ?_) (fun c_157 => ?_)
              · have hcm := fa_ifn hxc c_157
                have hpc := hmc.e.trans (fa_acc_f hcm)
                refine lv_iconst (v := nI (0)) hx hb dX7_readsOrder_176 (by decide) ?_
                refine lv_istore_n (lv' := [(1, .int (nI (0))), (0, .ref (fa_B G + (397)))]) hx hb dX7_readsOrder_177 rfl hl (by decide) rfl (fun ls hl => ?_)
                refine lv_goto (tgt := 259) hx hb dX7_readsOrder_178 (by decide) ?_
                refine lv_aload_n hx hb dX7_readsOrder_259 rfl (lv_at hl 1 rfl) ?_
                refine lv_dup hx hb dX7_readsOrder_260 rfl ?_
                refine fa_geti (k := 397) CX HX2452 fl_X7_141 (by omega) rfl rfl dX7_readsOrder_261 ?_
                rw [show v2451 397 11 = nI (no) from (go_x2450.trans (congrArg nI ho_x2450.e))]
                refine lv_iload_n hx hb dX7_readsOrder_264 rfl (lv_at hl 0 rfl) ?_
                refine lv_if_eq (tgt := 272) hx hb dX7_readsOrder_265 (by decide) (fun c_265 => ?_) (fun c_265 => ?_)
                · refine lv_iconst (v := nI (0)) hx hb dX7_readsOrder_272 (by decide) ?_
                  refine fa_iaddN hx hb dX7_readsOrder_273 ?_
                  refine fa_puti (k := 397) CX HX2452 fl_X7_141 (by omega) rfl rfl rfl rfl dX7_readsOrder_274 (fun H locs v2453 e2454 HX2455 => ?_)
                  refine lv_iload_n hx hb dX7_readsOrder_277 rfl (lv_at hl 0 rfl) ?_
                  exact RET _ _ _ _ _ _ _ HX2455 dX7_readsOrder_278 (by decide) (⟨rfl, ⟨⟨(by rw [((fa_ord_s (Or.inr hS108)).trans (fa_two_c hn1 hmn1.e hcm))]; exact rfl), m_x2443, no + 0, ⟨by omega, by omega, by omega, fa_is.mk (by rw [((fa_ord_s (Or.inr hS108)).trans (fa_two_c hn1 hmn1.e hcm))]), fa_is.mk (by rw [((fa_ord_s (Or.inr hS108)).trans (fa_two_c hn1 hmn1.e hcm))]; exact (show no + 0 = no by omega))⟩, (show v2453 397 12 = nI (m_x2443) from (by rw [e2454, fa_u_n _ _ (by omega)]; exact ((gm_x2450).trans (congrArg nI hpc)))), (show v2453 397 11 = nI (no + 0) from (by rw [e2454, fa_u_s])), (show fa_f3 v v2453 from (by rw [e2454]; exact fa_f3.w (fa_f3.tr (fa_f3.tr (fa_f3.tr (fa_f3.tr (fa_f3.tr (fa_f3.tr (by rw [e2355]; exact fa_f3.u (by rw [e2206]; exact fa_f3.u fa_f3.rf)) hf_x2358) hf_x2362) hf_x2366) hf_x2394) hf_x2443) hf_x2450) (by decide))), (by rw [((fa_ord_s (Or.inr hS108)).trans (fa_two_c hn1 hmn1.e hcm))]; exact ⟨(fun i hi => (by show v2453 403 i = _; rw [e2454, fa_u_k _ _ (by decide), hr_x2450, hr_x2443.2 i (by omega), hr_x2394, hr_x2366, hr_x2362, hr_x2358]; exact hA i hi)), (by show v2453 403 (4 * no) = _; rw [e2454, fa_u_k _ _ (by decide), hr_x2450, hr_x2443.2 (4 * no) (by omega), hr_x2394, hr_x2366, hr_x2362, hr_x2358]; exact hB), (by show v2453 403 (4 * no + 1) = _; rw [e2454, fa_u_k _ _ (by decide), hr_x2450, hr_x2443.2 (4 * no + 1) (by omega), hr_x2394, hr_x2366, hr_x2362, hr_x2358]; exact hC), (fun z => absurd (show false = true from z) (by decide))⟩)⟩, (by rw [e2454]; exact fa_fr.u (fa_fr.tr (fa_fr.tr (fa_fr.tr (fa_fr.tr (fa_fr.tr (fa_fr.tr (by rw [e2355]; exact fa_fr.u (by rw [e2206]; exact fa_fr.u fa_fr.rf (by omega)) (by omega)) (fa_fr.wide h2357.2 (by omega) (by omega))) (fa_fr.wide h2361.2 (by omega) (by omega))) (fa_fr.wide h2365.2 (by omega) (by omega))) (fa_fr.wide h2393.2 (by omega) (by omega))) (fa_fr.wide h2442.2 (by omega) (by omega))) (fa_fr.wide h2449.2 (by omega) (by omega))) (by omega))⟩⟩)
                · exact absurd (by try decide) c_265
              · have hcm := fa_ift hxc c_157
                have hpc := hmc.e.trans (fa_acc_t hcm)
                refine lv_aload_n hx hb dX7_readsOrder_160 rfl (lv_at hl 0 rfl) ?_
                refine lv_iconst (v := nI (3)) hx hb dX7_readsOrder_161 (by decide) ?_
                refine lv_iconst (v := nI (0)) hx hb dX7_readsOrder_162 (by decide) ?_
                refine lv_sipush (v := nI (199)) hx hb dX7_readsOrder_163 (by decide) ?_
                refine fa_callViu (As := [.int (nI (3)), .int (nI (0)), .int (nI (199))]) (rest := []) CX HX2452 (r_number l G n hn v2451 r hM (n9) (m_x2443 + 1) (no) (by omega) (by omega) (by omega) ((hf_x2450.2 9 (by decide) (by decide)).trans ((hf_x2443.2 9 (by decide) (by decide)).trans ((hf_x2394.2 9 (by decide) (by decide)).trans ((hf_x2366.2 9 (by decide) (by decide)).trans ((hf_x2362.2 9 (by decide) (by decide)).trans ((hf_x2358.2 9 (by decide) (by decide)).trans (by rw [e2355, fa_u_n _ _ (by omega)]; exact (by rw [e2206, fa_u_n _ _ (by omega)]; exact g9)))))))) ((gm_x2450).trans (congrArg nI hpc)) (go_x2450.trans (congrArg nI ho_x2450.e)) t ((h2449.2 405 (by omega)).trans ((h2442.2 405 (by omega)).trans ((h2393.2 405 (by omega)).trans ((h2365.2 405 (by omega)).trans ((h2361.2 405 (by omega)).trans ((h2357.2 405 (by omega)).trans (((congrFun e2355 405).trans (fa_u_k _ _ (by decide))).trans (((congrFun e2206 405).trans (fa_u_k _ _ (by decide))).trans h5)))))))) (3) (nI (0)) (nI (199)) (by omega) ⟨0, by decide, rfl⟩ ⟨199, by decide, rfl⟩) ln_X7_148 (by omega) rfl rfl rfl rfl (Nat.le_of_ble_eq_true rfl) hl.1 ⟨Nat.le_of_ble_eq_true rfl, Nat.le_of_ble_eq_true rfl⟩ ⟨Nat.le_refl _, Nat.le_refl _⟩ dX7_readsOrder_166 (fun x2457 v2458 H locs h2456 HX2459 => ?_)
                obtain ⟨hx_x2457, m_x2457, o_x2457, ⟨ha_x2457, hc_x2457, hd_x2457, hm_x2457, ho_x2457⟩, gm_x2457, go_x2457, hf_x2457, hr_x2457⟩ := h2456.1
                have hxn2 := hx_x2457
                have hmn2 := hm_x2457
                refine lv_if_eq (tgt := 176) hx hb dX7_readsOrder_169 (by decide) (fun c_169 => ?_) (fun c_169 => ?_)
                · have hn2 := fa_ifn hxn2 c_169
                  refine lv_iconst (v := nI (0)) hx hb dX7_readsOrder_176 (by decide) ?_
                  refine lv_istore_n (lv' := [(1, .int (nI (0))), (0, .ref (fa_B G + (397)))]) hx hb dX7_readsOrder_177 rfl hl (by decide) rfl (fun ls hl => ?_)
                  refine lv_goto (tgt := 259) hx hb dX7_readsOrder_178 (by decide) ?_
                  refine lv_aload_n hx hb dX7_readsOrder_259 rfl (lv_at hl 1 rfl) ?_
                  refine lv_dup hx hb dX7_readsOrder_260 rfl ?_
                  refine fa_geti (k := 397) CX HX2459 fl_X7_141 (by omega) rfl rfl dX7_readsOrder_261 ?_
                  rw [show v2458 397 11 = nI (no) from (go_x2457.trans (congrArg nI ho_x2457.e))]
                  refine lv_iload_n hx hb dX7_readsOrder_264 rfl (lv_at hl 0 rfl) ?_
                  refine lv_if_eq (tgt := 272) hx hb dX7_readsOrder_265 (by decide) (fun c_265 => ?_) (fun c_265 => ?_)
                  · refine lv_iconst (v := nI (0)) hx hb dX7_readsOrder_272 (by decide) ?_
                    refine fa_iaddN hx hb dX7_readsOrder_273 ?_
                    refine fa_puti (k := 397) CX HX2459 fl_X7_141 (by omega) rfl rfl rfl rfl dX7_readsOrder_274 (fun H locs v2460 e2461 HX2462 => ?_)
                    refine lv_iload_n hx hb dX7_readsOrder_277 rfl (lv_at hl 0 rfl) ?_
                    exact RET _ _ _ _ _ _ _ HX2462 dX7_readsOrder_278 (by decide) (⟨rfl, ⟨⟨(by rw [((fa_ord_s (Or.inr hS108)).trans (fa_two_n hn1 hmn1.e hcm hn2))]; exact rfl), m_x2457, no + 0, ⟨by omega, by omega, by omega, fa_is.mk (by rw [((fa_ord_s (Or.inr hS108)).trans (fa_two_n hn1 hmn1.e hcm hn2))]; exact hmn2.e), fa_is.mk (by rw [((fa_ord_s (Or.inr hS108)).trans (fa_two_n hn1 hmn1.e hcm hn2))]; exact (show no + 0 = no by omega))⟩, (show v2460 397 12 = nI (m_x2457) from (by rw [e2461, fa_u_n _ _ (by omega)]; exact gm_x2457)), (show v2460 397 11 = nI (no + 0) from (by rw [e2461, fa_u_s])), (show fa_f3 v v2460 from (by rw [e2461]; exact fa_f3.w (fa_f3.tr (fa_f3.tr (fa_f3.tr (fa_f3.tr (fa_f3.tr (fa_f3.tr (fa_f3.tr (by rw [e2355]; exact fa_f3.u (by rw [e2206]; exact fa_f3.u fa_f3.rf)) hf_x2358) hf_x2362) hf_x2366) hf_x2394) hf_x2443) hf_x2450) hf_x2457) (by decide))), (by rw [((fa_ord_s (Or.inr hS108)).trans (fa_two_n hn1 hmn1.e hcm hn2))]; exact ⟨(fun i hi => (by show v2460 403 i = _; rw [e2461, fa_u_k _ _ (by decide), hr_x2457.2 i (by omega), hr_x2450, hr_x2443.2 i (by omega), hr_x2394, hr_x2366, hr_x2362, hr_x2358]; exact hA i hi)), (by show v2460 403 (4 * no) = _; rw [e2461, fa_u_k _ _ (by decide), hr_x2457.2 (4 * no) (by omega), hr_x2450, hr_x2443.2 (4 * no) (by omega), hr_x2394, hr_x2366, hr_x2362, hr_x2358]; exact hB), (by show v2460 403 (4 * no + 1) = _; rw [e2461, fa_u_k _ _ (by decide), hr_x2457.2 (4 * no + 1) (by omega), hr_x2450, hr_x2443.2 (4 * no + 1) (by omega), hr_x2394, hr_x2366, hr_x2362, hr_x2358]; exact hC), (fun z => absurd (show false = true from z) (by decide))⟩)⟩, (by rw [e2461]; exact fa_fr.u (fa_fr.tr (fa_fr.tr (fa_fr.tr (fa_fr.tr (fa_fr.tr (fa_fr.tr (fa_fr.tr (by rw [e2355]; exact fa_fr.u (by rw [e2206]; exact fa_fr.u fa_fr.rf (by omega)) (by omega)) (fa_fr.wide h2357.2 (by omega) (by omega))) (fa_fr.wide h2361.2 (by omega) (by omega))) (fa_fr.wide h2365.2 (by omega) (by omega))) (fa_fr.wide h2393.2 (by omega) (by omega))) (fa_fr.wide h2442.2 (by omega) (by omega))) (fa_fr.wide h2449.2 (by omega) (by omega))) (fa_fr.wide h2456.2 (by omega) (by omega))) (by omega))⟩⟩)
                  · exact absurd (by try decide) c_265
                · have hn2 := fa_ift hxn2 c_169
                  refine lv_iconst (v := nI (1)) hx hb dX7_readsOrder_172 (by decide) ?_
                  refine lv_goto (tgt := 177) hx hb dX7_readsOrder_173 (by decide) ?_
                  refine lv_istore_n (lv' := [(1, .int (nI (1))), (0, .ref (fa_B G + (397)))]) hx hb dX7_readsOrder_177 rfl hl (by decide) rfl (fun ls hl => ?_)
                  refine lv_goto (tgt := 259) hx hb dX7_readsOrder_178 (by decide) ?_
                  refine lv_aload_n hx hb dX7_readsOrder_259 rfl (lv_at hl 1 rfl) ?_
                  refine lv_dup hx hb dX7_readsOrder_260 rfl ?_
                  refine fa_geti (k := 397) CX HX2459 fl_X7_141 (by omega) rfl rfl dX7_readsOrder_261 ?_
                  rw [show v2458 397 11 = nI (no) from (go_x2457.trans (congrArg nI ho_x2457.e))]
                  refine lv_iload_n hx hb dX7_readsOrder_264 rfl (lv_at hl 0 rfl) ?_
                  refine lv_if_eq (tgt := 272) hx hb dX7_readsOrder_265 (by decide) (fun c_265 => ?_) (fun c_265 => ?_)
                  · exact absurd c_265 (by try decide)
                  · refine lv_iconst (v := nI (1)) hx hb dX7_readsOrder_268 (by decide) ?_
                    refine lv_goto (tgt := 273) hx hb dX7_readsOrder_269 (by decide) ?_
                    refine fa_iaddN hx hb dX7_readsOrder_273 ?_
                    refine fa_puti (k := 397) CX HX2459 fl_X7_141 (by omega) rfl rfl rfl rfl dX7_readsOrder_274 (fun H locs v2463 e2464 HX2465 => ?_)
                    refine lv_iload_n hx hb dX7_readsOrder_277 rfl (lv_at hl 0 rfl) ?_
                    exact RET _ _ _ _ _ _ _ HX2465 dX7_readsOrder_278 (by decide) (⟨rfl, ⟨⟨(by rw [((fa_ord_s (Or.inr hS108)).trans (fa_two_y hn1 hmn1.e hcm hn2))]; exact rfl), m_x2457, no + 1, ⟨by omega, by omega, (by have hfx := (show na + 2 ≤ m_x2457 from by have z := (fa_ord_le (t := t) hna).2.2; rw [((fa_ord_s (Or.inr hS108)).trans (fa_two_y hn1 hmn1.e hcm hn2))] at z; rw [hmn2.e]; exact z rfl); omega), fa_is.mk (by rw [((fa_ord_s (Or.inr hS108)).trans (fa_two_y hn1 hmn1.e hcm hn2))]; exact hmn2.e), fa_is.mk (by rw [((fa_ord_s (Or.inr hS108)).trans (fa_two_y hn1 hmn1.e hcm hn2))]; exact (show no + 1 = no + 1 by omega))⟩, (show v2463 397 12 = nI (m_x2457) from (by rw [e2464, fa_u_n _ _ (by omega)]; exact gm_x2457)), (show v2463 397 11 = nI (no + 1) from (by rw [e2464, fa_u_s])), (show fa_f3 v v2463 from (by rw [e2464]; exact fa_f3.w (fa_f3.tr (fa_f3.tr (fa_f3.tr (fa_f3.tr (fa_f3.tr (fa_f3.tr (fa_f3.tr (by rw [e2355]; exact fa_f3.u (by rw [e2206]; exact fa_f3.u fa_f3.rf)) hf_x2358) hf_x2362) hf_x2366) hf_x2394) hf_x2443) hf_x2450) hf_x2457) (by decide))), (by rw [((fa_ord_s (Or.inr hS108)).trans (fa_two_y hn1 hmn1.e hcm hn2))]; exact ⟨(fun i hi => (by show v2463 403 i = _; rw [e2464, fa_u_k _ _ (by decide), hr_x2457.2 i (by omega), hr_x2450, hr_x2443.2 i (by omega), hr_x2394, hr_x2366, hr_x2362, hr_x2358]; exact hA i hi)), (by show v2463 403 (4 * no) = _; rw [e2464, fa_u_k _ _ (by decide), hr_x2457.2 (4 * no) (by omega), hr_x2450, hr_x2443.2 (4 * no) (by omega), hr_x2394, hr_x2366, hr_x2362, hr_x2358]; exact hB), (by show v2463 403 (4 * no + 1) = _; rw [e2464, fa_u_k _ _ (by decide), hr_x2457.2 (4 * no + 1) (by omega), hr_x2450, hr_x2443.2 (4 * no + 1) (by omega), hr_x2394, hr_x2366, hr_x2362, hr_x2358]; exact hC), (fun _ => ⟨(by show v2463 403 (4 * no + 2) = _; rw [e2464, fa_u_k _ _ (by decide), hr_x2457.2 (4 * no + 2) (by omega), hr_x2450]; exact hr_x2443.1 hn1), (fun _ _ => (by show v2463 403 (4 * no + 3) = _; rw [e2464, fa_u_k _ _ (by decide)]; exact hr_x2457.1 hn2))⟩)⟩)⟩, (by rw [e2464]; exact fa_fr.u (fa_fr.tr (fa_fr.tr (fa_fr.tr (fa_fr.tr (fa_fr.tr (fa_fr.tr (fa_fr.tr (by rw [e2355]; exact fa_fr.u (by rw [e2206]; exact fa_fr.u fa_fr.rf (by omega)) (by omega)) (fa_fr.wide h2357.2 (by omega) (by omega))) (fa_fr.wide h2361.2 (by omega) (by omega))) (fa_fr.wide h2365.2 (by omega) (by omega))) (fa_fr.wide h2393.2 (by omega) (by omega))) (fa_fr.wide h2442.2 (by omega) (by omega))) (fa_fr.wide h2449.2 (by omega) (by omega))) (fa_fr.wide h2456.2 (by omega) (by omega))) (by omega))⟩⟩)
      · have hS97 : fa_sg t n9 na = (97 : Int32) := fa_ift hxa c_106
        have hp97 := hma.e.trans (fa_acc_t hS97)
        have hlt : na < n9 := fa_sg_nz hS97 (by decide)
        clear ha_x2362 hc_x2362 hd_x2362
        refine lv_aload_n hx hb dX7_readsOrder_109 rfl (lv_at hl 0 rfl) ?_
        refine lv_iconst (v := nI (2)) hx hb dX7_readsOrder_110 (by decide) ?_
        refine lv_iconst (v := nI (0)) hx hb dX7_readsOrder_111 (by decide) ?_
        refine lv_sipush (v := nI (199)) hx hb dX7_readsOrder_112 (by decide) ?_
        refine fa_callViu (As := [.int (nI (2)), .int (nI (0)), .int (nI (199))]) (rest := []) CX HX2364 (r_number l G n hn v2363 r hM (n9) (na + 1) (no) (by omega) (by omega) (by omega) ((hf_x2362.2 9 (by decide) (by decide)).trans ((hf_x2358.2 9 (by decide) (by decide)).trans (by rw [e2355, fa_u_n _ _ (by omega)]; exact (by rw [e2206, fa_u_n _ _ (by omega)]; exact g9)))) ((gm_x2362).trans (congrArg nI hp97)) (go_x2362.trans (congrArg nI ho_x2362.e)) t ((h2361.2 405 (by omega)).trans ((h2357.2 405 (by omega)).trans (((congrFun e2355 405).trans (fa_u_k _ _ (by decide))).trans (((congrFun e2206 405).trans (fa_u_k _ _ (by decide))).trans h5)))) (2) (nI (0)) (nI (199)) (by omega) ⟨0, by decide, rfl⟩ ⟨199, by decide, rfl⟩) ln_X7_148 (by omega) rfl rfl rfl rfl (Nat.le_of_ble_eq_true rfl) hl.1 ⟨Nat.le_of_ble_eq_true rfl, Nat.le_of_ble_eq_true rfl⟩ ⟨Nat.le_refl _, Nat.le_refl _⟩ dX7_readsOrder_115 (fun x2467 v2468 H locs h2466 HX2469 => ?_)
        obtain ⟨hx_x2467, m_x2467, o_x2467, ⟨ha_x2467, hc_x2467, hd_x2467, hm_x2467, ho_x2467⟩, gm_x2467, go_x2467, hf_x2467, hr_x2467⟩ := h2466.1
        have hxn1 := hx_x2467
        have hmn1 := hm_x2467
        refine lv_istore_n (lv' := [(1, .int (x2467)), (0, .ref (fa_B G + (397)))]) hx hb dX7_readsOrder_118 rfl hl (by decide) rfl (fun ls hl => ?_)
        refine lv_goto (tgt := 259) hx hb dX7_readsOrder_119 (by decide) ?_
        refine lv_aload_n hx hb dX7_readsOrder_259 rfl (lv_at hl 1 rfl) ?_
        refine lv_dup hx hb dX7_readsOrder_260 rfl ?_
        refine fa_geti (k := 397) CX HX2469 fl_X7_141 (by omega) rfl rfl dX7_readsOrder_261 ?_
        rw [show v2468 397 11 = nI (no) from (go_x2467.trans (congrArg nI ho_x2467.e))]
        refine lv_iload_n hx hb dX7_readsOrder_264 rfl (lv_at hl 0 rfl) ?_
        refine lv_if_eq (tgt := 272) hx hb dX7_readsOrder_265 (by decide) (fun c_265 => ?_) (fun c_265 => ?_)
        · have hn1 := fa_ifn hxn1 c_265
          refine lv_iconst (v := nI (0)) hx hb dX7_readsOrder_272 (by decide) ?_
          refine fa_iaddN hx hb dX7_readsOrder_273 ?_
          refine fa_puti (k := 397) CX HX2469 fl_X7_141 (by omega) rfl rfl rfl rfl dX7_readsOrder_274 (fun H locs v2470 e2471 HX2472 => ?_)
          refine lv_iload_n hx hb dX7_readsOrder_277 rfl (lv_at hl 0 rfl) ?_
          exact RET _ _ _ _ _ _ _ HX2472 dX7_readsOrder_278 (fa_if_nar hxn1) (⟨rfl, ⟨⟨(by rw [((fa_ord_a hS97).trans (fa_one_f hn1))]; exact (hxn1.trans (if_neg hn1))), m_x2467, no + 0, ⟨by omega, by omega, by omega, fa_is.mk (by rw [((fa_ord_a hS97).trans (fa_one_f hn1))]; exact hmn1.e), fa_is.mk (by rw [((fa_ord_a hS97).trans (fa_one_f hn1))]; exact (show no + 0 = no by omega))⟩, (show v2470 397 12 = nI (m_x2467) from (by rw [e2471, fa_u_n _ _ (by omega)]; exact gm_x2467)), (show v2470 397 11 = nI (no + 0) from (by rw [e2471, fa_u_s])), (show fa_f3 v v2470 from (by rw [e2471]; exact fa_f3.w (fa_f3.tr (fa_f3.tr (fa_f3.tr (by rw [e2355]; exact fa_f3.u (by rw [e2206]; exact fa_f3.u fa_f3.rf)) hf_x2358) hf_x2362) hf_x2467) (by decide))), (by rw [((fa_ord_a hS97).trans (fa_one_f hn1))]; exact ⟨(fun i hi => (by show v2470 403 i = _; rw [e2471, fa_u_k _ _ (by decide), hr_x2467.2 i (by omega), hr_x2362, hr_x2358]; exact hA i hi)), (by show v2470 403 (4 * no) = _; rw [e2471, fa_u_k _ _ (by decide), hr_x2467.2 (4 * no) (by omega), hr_x2362, hr_x2358]; exact hB), (by show v2470 403 (4 * no + 1) = _; rw [e2471, fa_u_k _ _ (by decide), hr_x2467.2 (4 * no + 1) (by omega), hr_x2362, hr_x2358]; exact hC), (fun z => absurd (show false = true from z) (by decide))⟩)⟩, (by rw [e2471]; exact fa_fr.u (fa_fr.tr (fa_fr.tr (fa_fr.tr (by rw [e2355]; exact fa_fr.u (by rw [e2206]; exact fa_fr.u fa_fr.rf (by omega)) (by omega)) (fa_fr.wide h2357.2 (by omega) (by omega))) (fa_fr.wide h2361.2 (by omega) (by omega))) (fa_fr.wide h2466.2 (by omega) (by omega))) (by omega))⟩⟩)
        · have hn1 := fa_ift hxn1 c_265
          refine lv_iconst (v := nI (1)) hx hb dX7_readsOrder_268 (by decide) ?_
          refine lv_goto (tgt := 273) hx hb dX7_readsOrder_269 (by decide) ?_
          refine fa_iaddN hx hb dX7_readsOrder_273 ?_
          refine fa_puti (k := 397) CX HX2469 fl_X7_141 (by omega) rfl rfl rfl rfl dX7_readsOrder_274 (fun H locs v2473 e2474 HX2475 => ?_)
          refine lv_iload_n hx hb dX7_readsOrder_277 rfl (lv_at hl 0 rfl) ?_
          exact RET _ _ _ _ _ _ _ HX2475 dX7_readsOrder_278 (fa_if_nar hxn1) (⟨rfl, ⟨⟨(by rw [((fa_ord_a hS97).trans (fa_one_t hn1))]; exact (hxn1.trans (if_pos hn1))), m_x2467, no + 1, ⟨by omega, by omega, (by have hfx := (show na + 2 ≤ m_x2467 from by have z := (fa_ord_le (t := t) hna).2.2; rw [((fa_ord_a hS97).trans (fa_one_t hn1))] at z; rw [hmn1.e]; exact z rfl); omega), fa_is.mk (by rw [((fa_ord_a hS97).trans (fa_one_t hn1))]; exact hmn1.e), fa_is.mk (by rw [((fa_ord_a hS97).trans (fa_one_t hn1))]; exact (show no + 1 = no + 1 by omega))⟩, (show v2473 397 12 = nI (m_x2467) from (by rw [e2474, fa_u_n _ _ (by omega)]; exact gm_x2467)), (show v2473 397 11 = nI (no + 1) from (by rw [e2474, fa_u_s])), (show fa_f3 v v2473 from (by rw [e2474]; exact fa_f3.w (fa_f3.tr (fa_f3.tr (fa_f3.tr (by rw [e2355]; exact fa_f3.u (by rw [e2206]; exact fa_f3.u fa_f3.rf)) hf_x2358) hf_x2362) hf_x2467) (by decide))), (by rw [((fa_ord_a hS97).trans (fa_one_t hn1))]; exact ⟨(fun i hi => (by show v2473 403 i = _; rw [e2474, fa_u_k _ _ (by decide), hr_x2467.2 i (by omega), hr_x2362, hr_x2358]; exact hA i hi)), (by show v2473 403 (4 * no) = _; rw [e2474, fa_u_k _ _ (by decide), hr_x2467.2 (4 * no) (by omega), hr_x2362, hr_x2358]; exact hB), (by show v2473 403 (4 * no + 1) = _; rw [e2474, fa_u_k _ _ (by decide), hr_x2467.2 (4 * no + 1) (by omega), hr_x2362, hr_x2358]; exact hC), (fun _ => ⟨(by show v2473 403 (4 * no + 2) = _; rw [e2474, fa_u_k _ _ (by decide)]; exact hr_x2467.1 hn1), (fun y1 y2 => by first | exact absurd hS97 y1 | exact absurd hS100 y2)⟩)⟩)⟩, (by rw [e2474]; exact fa_fr.u (fa_fr.tr (fa_fr.tr (fa_fr.tr (by rw [e2355]; exact fa_fr.u (by rw [e2206]; exact fa_fr.u fa_fr.rf (by omega)) (by omega)) (fa_fr.wide h2357.2 (by omega) (by omega))) (fa_fr.wide h2361.2 (by omega) (by omega))) (fa_fr.wide h2466.2 (by omega) (by omega))) (by omega))⟩⟩)
    · have hS110 : fa_sg t n9 na = (110 : Int32) := fa_ift hxa c_58
      have hp110 := hma.e.trans (fa_acc_t hS110)
      have hlt : na < n9 := fa_sg_nz hS110 (by decide)
      clear ha_x2358 hc_x2358 hd_x2358
      refine lv_aload_n hx hb dX7_readsOrder_61 rfl (lv_at hl 0 rfl) ?_
      refine lv_iconst (v := nI (2)) hx hb dX7_readsOrder_62 (by decide) ?_
      refine lv_iconst (v := nI (0)) hx hb dX7_readsOrder_63 (by decide) ?_
      refine lv_iconst (v := nI (4)) hx hb dX7_readsOrder_64 (by decide) ?_
      refine fa_callViu (As := [.int (nI (2)), .int (nI (0)), .int (nI (4))]) (rest := []) CX HX2360 (r_number l G n hn v2359 r hM (n9) (na + 1) (no) (by omega) (by omega) (by omega) ((hf_x2358.2 9 (by decide) (by decide)).trans (by rw [e2355, fa_u_n _ _ (by omega)]; exact (by rw [e2206, fa_u_n _ _ (by omega)]; exact g9))) ((gm_x2358).trans (congrArg nI hp110)) (go_x2358.trans (congrArg nI ho_x2358.e)) t ((h2357.2 405 (by omega)).trans (((congrFun e2355 405).trans (fa_u_k _ _ (by decide))).trans (((congrFun e2206 405).trans (fa_u_k _ _ (by decide))).trans h5))) (2) (nI (0)) (nI (4)) (by omega) ⟨0, by decide, rfl⟩ ⟨4, by decide, rfl⟩) ln_X7_148 (by omega) rfl rfl rfl rfl (Nat.le_of_ble_eq_true rfl) hl.1 ⟨Nat.le_of_ble_eq_true rfl, Nat.le_of_ble_eq_true rfl⟩ ⟨Nat.le_refl _, Nat.le_refl _⟩ dX7_readsOrder_65 (fun x2477 v2478 H locs h2476 HX2479 => ?_)
      obtain ⟨hx_x2477, m_x2477, o_x2477, ⟨ha_x2477, hc_x2477, hd_x2477, hm_x2477, ho_x2477⟩, gm_x2477, go_x2477, hf_x2477, hr_x2477⟩ := h2476.1
      have hxn1 := hx_x2477
      have hmn1 := hm_x2477
      refine lv_if_eq (tgt := 95) hx hb dX7_readsOrder_68 (by decide) (fun c_68 => ?_) (fun c_68 => ?_)
      · have hn1 := fa_ifn hxn1 c_68
        refine lv_iconst (v := nI (0)) hx hb dX7_readsOrder_95 (by decide) ?_
        refine lv_istore_n (lv' := [(1, .int (nI (0))), (0, .ref (fa_B G + (397)))]) hx hb dX7_readsOrder_96 rfl hl (by decide) rfl (fun ls hl => ?_)
        refine lv_goto (tgt := 259) hx hb dX7_readsOrder_97 (by decide) ?_
        refine lv_aload_n hx hb dX7_readsOrder_259 rfl (lv_at hl 1 rfl) ?_
        refine lv_dup hx hb dX7_readsOrder_260 rfl ?_
        refine fa_geti (k := 397) CX HX2479 fl_X7_141 (by omega) rfl rfl dX7_readsOrder_261 ?_
        rw [show v2478 397 11 = nI (no) from (go_x2477.trans (congrArg nI ho_x2477.e))]
        refine lv_iload_n hx hb dX7_readsOrder_264 rfl (lv_at hl 0 rfl) ?_
        refine lv_if_eq (tgt := 272) hx hb dX7_readsOrder_265 (by decide) (fun c_265 => ?_) (fun c_265 => ?_)
        · refine lv_iconst (v := nI (0)) hx hb dX7_readsOrder_272 (by decide) ?_
          refine fa_iaddN hx hb dX7_readsOrder_273 ?_
          refine fa_puti (k := 397) CX HX2479 fl_X7_141 (by omega) rfl rfl rfl rfl dX7_readsOrder_274 (fun H locs v2480 e2481 HX2482 => ?_)
          refine lv_iload_n hx hb dX7_readsOrder_277 rfl (lv_at hl 0 rfl) ?_
          exact RET _ _ _ _ _ _ _ HX2482 dX7_readsOrder_278 (by decide) (⟨rfl, ⟨⟨(by rw [((fa_ord_n hS110).trans (fa_two_f hn1))]; exact rfl), m_x2477, no + 0, ⟨by omega, by omega, by omega, fa_is.mk (by rw [((fa_ord_n hS110).trans (fa_two_f hn1))]; exact hmn1.e), fa_is.mk (by rw [((fa_ord_n hS110).trans (fa_two_f hn1))]; exact (show no + 0 = no by omega))⟩, (show v2480 397 12 = nI (m_x2477) from (by rw [e2481, fa_u_n _ _ (by omega)]; exact gm_x2477)), (show v2480 397 11 = nI (no + 0) from (by rw [e2481, fa_u_s])), (show fa_f3 v v2480 from (by rw [e2481]; exact fa_f3.w (fa_f3.tr (fa_f3.tr (by rw [e2355]; exact fa_f3.u (by rw [e2206]; exact fa_f3.u fa_f3.rf)) hf_x2358) hf_x2477) (by decide))), (by rw [((fa_ord_n hS110).trans (fa_two_f hn1))]; exact ⟨(fun i hi => (by show v2480 403 i = _; rw [e2481, fa_u_k _ _ (by decide), hr_x2477.2 i (by omega), hr_x2358]; exact hA i hi)), (by show v2480 403 (4 * no) = _; rw [e2481, fa_u_k _ _ (by decide), hr_x2477.2 (4 * no) (by omega), hr_x2358]; exact hB), (by show v2480 403 (4 * no + 1) = _; rw [e2481, fa_u_k _ _ (by decide), hr_x2477.2 (4 * no + 1) (by omega), hr_x2358]; exact hC), (fun z => absurd (show false = true from z) (by decide))⟩)⟩, (by rw [e2481]; exact fa_fr.u (fa_fr.tr (fa_fr.tr (by rw [e2355]; exact fa_fr.u (by rw [e2206]; exact fa_fr.u fa_fr.rf (by omega)) (by omega)) (fa_fr.wide h2357.2 (by omega) (by omega))) (fa_fr.wide h2476.2 (by omega) (by omega))) (by omega))⟩⟩)
        · exact absurd (by try decide) c_265
      · have hn1 := fa_ift hxn1 c_68
        refine lv_aload_n hx hb dX7_readsOrder_71 rfl (lv_at hl 0 rfl) ?_
        refine lv_bipush (v := nI (44)) hx hb dX7_readsOrder_72 (by decide) ?_
        refine fa_callViu (As := [.int (nI (44))]) (rest := []) CX HX2479 (r_accepts l G n hn v2478 r hM (n9) (m_x2477) (no) (by omega) (by omega) (by omega) ((hf_x2477.2 9 (by decide) (by decide)).trans ((hf_x2358.2 9 (by decide) (by decide)).trans (by rw [e2355, fa_u_n _ _ (by omega)]; exact (by rw [e2206, fa_u_n _ _ (by omega)]; exact g9)))) gm_x2477 (go_x2477.trans (congrArg nI ho_x2477.e)) t ((h2476.2 405 (by omega)).trans ((h2357.2 405 (by omega)).trans (((congrFun e2355 405).trans (fa_u_k _ _ (by decide))).trans (((congrFun e2206 405).trans (fa_u_k _ _ (by decide))).trans h5)))) (nI (44)) (by decide)) ln_X7_144 (by omega) rfl rfl rfl rfl (Nat.le_of_ble_eq_true rfl) hl.1 ⟨Nat.le_of_ble_eq_true rfl, Nat.le_of_ble_eq_true rfl⟩ ⟨Nat.le_refl _, Nat.le_refl _⟩ dX7_readsOrder_74 (fun x2484 v2485 H locs h2483 HX2486 => ?_)
        obtain ⟨hx_x2484, m_x2484, o_x2484, ⟨ha_x2484, hc_x2484, hd_x2484, hm_x2484, ho_x2484⟩, gm_x2484, go_x2484, hf_x2484, hr_x2484⟩ := h2483.1
        have hxc := hx_x2484
        have hmc := hm_x2484
        refine lv_if_eq (tgt := 95) hx hb dX7_readsOrder_77 (by decide) (fun c_77 => ?_) (fun c_77 => ?_)
        · have hcm := fa_ifn hxc c_77
          have hpc := hmc.e.trans (fa_acc_f hcm)
          refine lv_iconst (v := nI (0)) hx hb dX7_readsOrder_95 (by decide) ?_
          refine lv_istore_n (lv' := [(1, .int (nI (0))), (0, .ref (fa_B G + (397)))]) hx hb dX7_readsOrder_96 rfl hl (by decide) rfl (fun ls hl => ?_)
          refine lv_goto (tgt := 259) hx hb dX7_readsOrder_97 (by decide) ?_
          refine lv_aload_n hx hb dX7_readsOrder_259 rfl (lv_at hl 1 rfl) ?_
          refine lv_dup hx hb dX7_readsOrder_260 rfl ?_
          refine fa_geti (k := 397) CX HX2486 fl_X7_141 (by omega) rfl rfl dX7_readsOrder_261 ?_
          rw [show v2485 397 11 = nI (no) from (go_x2484.trans (congrArg nI ho_x2484.e))]
          refine lv_iload_n hx hb dX7_readsOrder_264 rfl (lv_at hl 0 rfl) ?_
          refine lv_if_eq (tgt := 272) hx hb dX7_readsOrder_265 (by decide) (fun c_265 => ?_) (fun c_265 => ?_)
          · refine lv_iconst (v := nI (0)) hx hb dX7_readsOrder_272 (by decide) ?_
            refine fa_iaddN hx hb dX7_readsOrder_273 ?_
            refine fa_puti (k := 397) CX HX2486 fl_X7_141 (by omega) rfl rfl rfl rfl dX7_readsOrder_274 (fun H locs v2487 e2488 HX2489 => ?_)
            refine lv_iload_n hx hb dX7_readsOrder_277 rfl (lv_at hl 0 rfl) ?_
            exact RET _ _ _ _ _ _ _ HX2489 dX7_readsOrder_278 (by decide) (⟨rfl, ⟨⟨(by rw [((fa_ord_n hS110).trans (fa_two_c hn1 hmn1.e hcm))]; exact rfl), m_x2477, no + 0, ⟨by omega, by omega, by omega, fa_is.mk (by rw [((fa_ord_n hS110).trans (fa_two_c hn1 hmn1.e hcm))]), fa_is.mk (by rw [((fa_ord_n hS110).trans (fa_two_c hn1 hmn1.e hcm))]; exact (show no + 0 = no by omega))⟩, (show v2487 397 12 = nI (m_x2477) from (by rw [e2488, fa_u_n _ _ (by omega)]; exact ((gm_x2484).trans (congrArg nI hpc)))), (show v2487 397 11 = nI (no + 0) from (by rw [e2488, fa_u_s])), (show fa_f3 v v2487 from (by rw [e2488]; exact fa_f3.w (fa_f3.tr (fa_f3.tr (fa_f3.tr (by rw [e2355]; exact fa_f3.u (by rw [e2206]; exact fa_f3.u fa_f3.rf)) hf_x2358) hf_x2477) hf_x2484) (by decide))), (by rw [((fa_ord_n hS110).trans (fa_two_c hn1 hmn1.e hcm))]; exact ⟨(fun i hi => (by show v2487 403 i = _; rw [e2488, fa_u_k _ _ (by decide), hr_x2484, hr_x2477.2 i (by omega), hr_x2358]; exact hA i hi)), (by show v2487 403 (4 * no) = _; rw [e2488, fa_u_k _ _ (by decide), hr_x2484, hr_x2477.2 (4 * no) (by omega), hr_x2358]; exact hB), (by show v2487 403 (4 * no + 1) = _; rw [e2488, fa_u_k _ _ (by decide), hr_x2484, hr_x2477.2 (4 * no + 1) (by omega), hr_x2358]; exact hC), (fun z => absurd (show false = true from z) (by decide))⟩)⟩, (by rw [e2488]; exact fa_fr.u (fa_fr.tr (fa_fr.tr (fa_fr.tr (by rw [e2355]; exact fa_fr.u (by rw [e2206]; exact fa_fr.u fa_fr.rf (by omega)) (by omega)) (fa_fr.wide h2357.2 (by omega) (by omega))) (fa_fr.wide h2476.2 (by omega) (by omega))) (fa_fr.wide h2483.2 (by omega) (by omega))) (by omega))⟩⟩)
          · exact absurd (by try decide) c_265
        · have hcm := fa_ift hxc c_77
          have hpc := hmc.e.trans (fa_acc_t hcm)
          refine lv_aload_n hx hb dX7_readsOrder_80 rfl (lv_at hl 0 rfl) ?_
          refine lv_iconst (v := nI (3)) hx hb dX7_readsOrder_81 (by decide) ?_
          refine lv_iconst (v := nI (1)) hx hb dX7_readsOrder_82 (by decide) ?_
          refine lv_bipush (v := nI (50)) hx hb dX7_readsOrder_83 (by decide) ?_
          refine fa_callViu (As := [.int (nI (3)), .int (nI (1)), .int (nI (50))]) (rest := []) CX HX2486 (r_number l G n hn v2485 r hM (n9) (m_x2477 + 1) (no) (by omega) (by omega) (by omega) ((hf_x2484.2 9 (by decide) (by decide)).trans ((hf_x2477.2 9 (by decide) (by decide)).trans ((hf_x2358.2 9 (by decide) (by decide)).trans (by rw [e2355, fa_u_n _ _ (by omega)]; exact (by rw [e2206, fa_u_n _ _ (by omega)]; exact g9))))) ((gm_x2484).trans (congrArg nI hpc)) (go_x2484.trans (congrArg nI ho_x2484.e)) t ((h2483.2 405 (by omega)).trans ((h2476.2 405 (by omega)).trans ((h2357.2 405 (by omega)).trans (((congrFun e2355 405).trans (fa_u_k _ _ (by decide))).trans (((congrFun e2206 405).trans (fa_u_k _ _ (by decide))).trans h5))))) (3) (nI (1)) (nI (50)) (by omega) ⟨1, by decide, rfl⟩ ⟨50, by decide, rfl⟩) ln_X7_148 (by omega) rfl rfl rfl rfl (Nat.le_of_ble_eq_true rfl) hl.1 ⟨Nat.le_of_ble_eq_true rfl, Nat.le_of_ble_eq_true rfl⟩ ⟨Nat.le_refl _, Nat.le_refl _⟩ dX7_readsOrder_85 (fun x2491 v2492 H locs h2490 HX2493 => ?_)
          obtain ⟨hx_x2491, m_x2491, o_x2491, ⟨ha_x2491, hc_x2491, hd_x2491, hm_x2491, ho_x2491⟩, gm_x2491, go_x2491, hf_x2491, hr_x2491⟩ := h2490.1
          have hxn2 := hx_x2491
          have hmn2 := hm_x2491
          refine lv_if_eq (tgt := 95) hx hb dX7_readsOrder_88 (by decide) (fun c_88 => ?_) (fun c_88 => ?_)
          · have hn2 := fa_ifn hxn2 c_88
            refine lv_iconst (v := nI (0)) hx hb dX7_readsOrder_95 (by decide) ?_
            refine lv_istore_n (lv' := [(1, .int (nI (0))), (0, .ref (fa_B G + (397)))]) hx hb dX7_readsOrder_96 rfl hl (by decide) rfl (fun ls hl => ?_)
            refine lv_goto (tgt := 259) hx hb dX7_readsOrder_97 (by decide) ?_
            refine lv_aload_n hx hb dX7_readsOrder_259 rfl (lv_at hl 1 rfl) ?_
            refine lv_dup hx hb dX7_readsOrder_260 rfl ?_
            refine fa_geti (k := 397) CX HX2493 fl_X7_141 (by omega) rfl rfl dX7_readsOrder_261 ?_
            rw [show v2492 397 11 = nI (no) from (go_x2491.trans (congrArg nI ho_x2491.e))]
            refine lv_iload_n hx hb dX7_readsOrder_264 rfl (lv_at hl 0 rfl) ?_
            refine lv_if_eq (tgt := 272) hx hb dX7_readsOrder_265 (by decide) (fun c_265 => ?_) (fun c_265 => ?_)
            · refine lv_iconst (v := nI (0)) hx hb dX7_readsOrder_272 (by decide) ?_
              refine fa_iaddN hx hb dX7_readsOrder_273 ?_
              refine fa_puti (k := 397) CX HX2493 fl_X7_141 (by omega) rfl rfl rfl rfl dX7_readsOrder_274 (fun H locs v2494 e2495 HX2496 => ?_)
              refine lv_iload_n hx hb dX7_readsOrder_277 rfl (lv_at hl 0 rfl) ?_
              exact RET _ _ _ _ _ _ _ HX2496 dX7_readsOrder_278 (by decide) (⟨rfl, ⟨⟨(by rw [((fa_ord_n hS110).trans (fa_two_n hn1 hmn1.e hcm hn2))]; exact rfl), m_x2491, no + 0, ⟨by omega, by omega, by omega, fa_is.mk (by rw [((fa_ord_n hS110).trans (fa_two_n hn1 hmn1.e hcm hn2))]; exact hmn2.e), fa_is.mk (by rw [((fa_ord_n hS110).trans (fa_two_n hn1 hmn1.e hcm hn2))]; exact (show no + 0 = no by omega))⟩, (show v2494 397 12 = nI (m_x2491) from (by rw [e2495, fa_u_n _ _ (by omega)]; exact gm_x2491)), (show v2494 397 11 = nI (no + 0) from (by rw [e2495, fa_u_s])), (show fa_f3 v v2494 from (by rw [e2495]; exact fa_f3.w (fa_f3.tr (fa_f3.tr (fa_f3.tr (fa_f3.tr (by rw [e2355]; exact fa_f3.u (by rw [e2206]; exact fa_f3.u fa_f3.rf)) hf_x2358) hf_x2477) hf_x2484) hf_x2491) (by decide))), (by rw [((fa_ord_n hS110).trans (fa_two_n hn1 hmn1.e hcm hn2))]; exact ⟨(fun i hi => (by show v2494 403 i = _; rw [e2495, fa_u_k _ _ (by decide), hr_x2491.2 i (by omega), hr_x2484, hr_x2477.2 i (by omega), hr_x2358]; exact hA i hi)), (by show v2494 403 (4 * no) = _; rw [e2495, fa_u_k _ _ (by decide), hr_x2491.2 (4 * no) (by omega), hr_x2484, hr_x2477.2 (4 * no) (by omega), hr_x2358]; exact hB), (by show v2494 403 (4 * no + 1) = _; rw [e2495, fa_u_k _ _ (by decide), hr_x2491.2 (4 * no + 1) (by omega), hr_x2484, hr_x2477.2 (4 * no + 1) (by omega), hr_x2358]; exact hC), (fun z => absurd (show false = true from z) (by decide))⟩)⟩, (by rw [e2495]; exact fa_fr.u (fa_fr.tr (fa_fr.tr (fa_fr.tr (fa_fr.tr (by rw [e2355]; exact fa_fr.u (by rw [e2206]; exact fa_fr.u fa_fr.rf (by omega)) (by omega)) (fa_fr.wide h2357.2 (by omega) (by omega))) (fa_fr.wide h2476.2 (by omega) (by omega))) (fa_fr.wide h2483.2 (by omega) (by omega))) (fa_fr.wide h2490.2 (by omega) (by omega))) (by omega))⟩⟩)
            · exact absurd (by try decide) c_265
          · have hn2 := fa_ift hxn2 c_88
            refine lv_iconst (v := nI (1)) hx hb dX7_readsOrder_91 (by decide) ?_
            refine lv_goto (tgt := 96) hx hb dX7_readsOrder_92 (by decide) ?_
            refine lv_istore_n (lv' := [(1, .int (nI (1))), (0, .ref (fa_B G + (397)))]) hx hb dX7_readsOrder_96 rfl hl (by decide) rfl (fun ls hl => ?_)
            refine lv_goto (tgt := 259) hx hb dX7_readsOrder_97 (by decide) ?_
            refine lv_aload_n hx hb dX7_readsOrder_259 rfl (lv_at hl 1 rfl) ?_
            refine lv_dup hx hb dX7_readsOrder_260 rfl ?_
            refine fa_geti (k := 397) CX HX2493 fl_X7_141 (by omega) rfl rfl dX7_readsOrder_261 ?_
            rw [show v2492 397 11 = nI (no) from (go_x2491.trans (congrArg nI ho_x2491.e))]
            refine lv_iload_n hx hb dX7_readsOrder_264 rfl (lv_at hl 0 rfl) ?_
            refine lv_if_eq (tgt := 272) hx hb dX7_readsOrder_265 (by decide) (fun c_265 => ?_) (fun c_265 => ?_)
            · exact absurd c_265 (by try decide)
            · refine lv_iconst (v := nI (1)) hx hb dX7_readsOrder_268 (by decide) ?_
              refine lv_goto (tgt := 273) hx hb dX7_readsOrder_269 (by decide) ?_
              refine fa_iaddN hx hb dX7_readsOrder_273 ?_
              refine fa_puti (k := 397) CX HX2493 fl_X7_141 (by omega) rfl rfl rfl rfl dX7_readsOrder_274 (fun H locs v2497 e2498 HX2499 => ?_)
              refine lv_iload_n hx hb dX7_readsOrder_277 rfl (lv_at hl 0 rfl) ?_
              exact RET _ _ _ _ _ _ _ HX2499 dX7_readsOrder_278 (by decide) (⟨rfl, ⟨⟨(by rw [((fa_ord_n hS110).trans (fa_two_y hn1 hmn1.e hcm hn2))]; exact rfl), m_x2491, no + 1, ⟨by omega, by omega, (by have hfx := (show na + 2 ≤ m_x2491 from by have z := (fa_ord_le (t := t) hna).2.2; rw [((fa_ord_n hS110).trans (fa_two_y hn1 hmn1.e hcm hn2))] at z; rw [hmn2.e]; exact z rfl); omega), fa_is.mk (by rw [((fa_ord_n hS110).trans (fa_two_y hn1 hmn1.e hcm hn2))]; exact hmn2.e), fa_is.mk (by rw [((fa_ord_n hS110).trans (fa_two_y hn1 hmn1.e hcm hn2))]; exact (show no + 1 = no + 1 by omega))⟩, (show v2497 397 12 = nI (m_x2491) from (by rw [e2498, fa_u_n _ _ (by omega)]; exact gm_x2491)), (show v2497 397 11 = nI (no + 1) from (by rw [e2498, fa_u_s])), (show fa_f3 v v2497 from (by rw [e2498]; exact fa_f3.w (fa_f3.tr (fa_f3.tr (fa_f3.tr (fa_f3.tr (by rw [e2355]; exact fa_f3.u (by rw [e2206]; exact fa_f3.u fa_f3.rf)) hf_x2358) hf_x2477) hf_x2484) hf_x2491) (by decide))), (by rw [((fa_ord_n hS110).trans (fa_two_y hn1 hmn1.e hcm hn2))]; exact ⟨(fun i hi => (by show v2497 403 i = _; rw [e2498, fa_u_k _ _ (by decide), hr_x2491.2 i (by omega), hr_x2484, hr_x2477.2 i (by omega), hr_x2358]; exact hA i hi)), (by show v2497 403 (4 * no) = _; rw [e2498, fa_u_k _ _ (by decide), hr_x2491.2 (4 * no) (by omega), hr_x2484, hr_x2477.2 (4 * no) (by omega), hr_x2358]; exact hB), (by show v2497 403 (4 * no + 1) = _; rw [e2498, fa_u_k _ _ (by decide), hr_x2491.2 (4 * no + 1) (by omega), hr_x2484, hr_x2477.2 (4 * no + 1) (by omega), hr_x2358]; exact hC), (fun _ => ⟨(by show v2497 403 (4 * no + 2) = _; rw [e2498, fa_u_k _ _ (by decide), hr_x2491.2 (4 * no + 2) (by omega), hr_x2484]; exact hr_x2477.1 hn1), (fun _ _ => (by show v2497 403 (4 * no + 3) = _; rw [e2498, fa_u_k _ _ (by decide)]; exact hr_x2491.1 hn2))⟩)⟩)⟩, (by rw [e2498]; exact fa_fr.u (fa_fr.tr (fa_fr.tr (fa_fr.tr (fa_fr.tr (by rw [e2355]; exact fa_fr.u (by rw [e2206]; exact fa_fr.u fa_fr.rf (by omega)) (by omega)) (fa_fr.wide h2357.2 (by omega) (by omega))) (fa_fr.wide h2476.2 (by omega) (by omega))) (fa_fr.wide h2483.2 (by omega) (by omega))) (fa_fr.wide h2490.2 (by omega) (by omega))) (by omega))⟩⟩)
