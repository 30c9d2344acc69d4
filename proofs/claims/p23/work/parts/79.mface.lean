set_option maxHeartbeats 4000000 in
set_option maxRecDepth 100000 in
theorem r_faultOf (l : Launch) (G : fa_G) (n : Nat) (hn : 406 ≤ n) (v : fa_V) (r : fa_R) (hM : fa_RM r) (hJ : fa_MJ v) : fa_MI l G n yX7_faultOf cX7_faultOf 2 (some .int) 6 [.ref (fa_B G + (397))] v r (fa_voi r (fun x v1 => ((fa_MJ v1) ∧ (v1 397 9 = v 397 9) ∧ (∃ j y o, j ≤ 20 ∧ fa_FR (fa_sg (v 405) (fa_N (v 397 9))) (fa_N (v 397 9)) j y ∧ x = (if y = (-6 : Int32) then (-1 : Int32) else y) ∧ (o ≤ 30 ∧ v1 397 11 = nI o) ∧ (y = (-6 : Int32) → o = j + 1 ∧ ∀ k, k < j + 1 → fa_rd (v1 403) (fa_sg (v 405) (fa_N (v 397 9))) k) ∧ fa_f3 v v1)) ∧ (fa_fr (397) (404) v v1))) := by
  refine fa_startI (by decide +kernel) (Nat.le_of_ble_eq_true rfl) (fun p e s m args below meth c ls Q CX hl HX RET => ?_)
  have hl : lv_has ls 2 [(0, .ref (fa_B G + (397)))] := hl
  have hx := CX.1.1
  have hb := CX.1.2.1
  have hS := hJ.1
  obtain ⟨n4, en4⟩ : ∃ m, m = fa_N (v 398 14) := ⟨_, rfl⟩
  obtain ⟨hn4, g4⟩ := hS.n4 en4
  obtain ⟨n5, en5⟩ : ∃ m, m = fa_N (v 398 15) := ⟨_, rfl⟩
  obtain ⟨hn5, g5⟩ := hS.n5 en5
  obtain ⟨n6, en6⟩ : ∃ m, m = fa_N (v 398 16) := ⟨_, rfl⟩
  obtain ⟨hn6, g6⟩ := hS.n6 en6
  obtain ⟨n10, hn10, g10⟩ := hJ.2.2.2.2.1
  obtain ⟨n9, hn9, g9⟩ := hJ.2.2.2.2.2
  have en9 : fa_N (v 397 9) = n9 := by rw [g9]; exact fa_N_nI (by omega)
  have h5 : v 405 = v 405 := rfl
  rw [en9] at RET
  refine lv_aload_n hx hb dX7_faultOf_0 rfl (lv_at hl 0 rfl) ?_
  refine lv_iconst (v := nI (0)) hx hb dX7_faultOf_1 (by decide) ?_
  refine fa_puti (k := 397) CX HX fl_X7_134 (by omega) rfl rfl rfl rfl dX7_faultOf_2 (fun H locs v2714 e2715 HX2716 => ?_)
  refine lv_aload_n hx hb dX7_faultOf_5 rfl (lv_at hl 0 rfl) ?_
  refine lv_iconst (v := nI (0)) hx hb dX7_faultOf_6 (by decide) ?_
  refine fa_puti (k := 397) CX HX2716 fl_X7_141 (by omega) rfl rfl rfl rfl dX7_faultOf_7 (fun H locs v2717 e2718 HX2719 => ?_)
  refine lv_aload_n hx hb dX7_faultOf_10 rfl (lv_at hl 0 rfl) ?_
  refine fa_callViu (As := []) (rest := []) CX HX2719 (r_readsOrder l G n hn v2717 r hM (n9) (0) (0) (by omega) (by omega) (by omega) (by rw [e2718, fa_u_n _ _ (by omega)]; exact (by rw [e2715, fa_u_n _ _ (by omega)]; exact g9)) (by rw [e2718, fa_u_n _ _ (by omega)]; exact (by rw [e2715, fa_u_s])) (by rw [e2718, fa_u_s]) (v 405) (((congrFun e2718 405).trans (fa_u_k _ _ (by decide))).trans (((congrFun e2715 405).trans (fa_u_k _ _ (by decide))).trans h5)) ) ln_X7_151 (by omega) rfl rfl rfl rfl (Nat.le_of_ble_eq_true rfl) hl.1 ⟨Nat.le_of_ble_eq_true rfl, Nat.le_of_ble_eq_true rfl⟩ ⟨Nat.le_refl _, Nat.le_refl _⟩ dX7_faultOf_11 (fun x2721 v2722 H locs h2720 HX2723 => ?_)
  obtain ⟨hx_x2721, m_x2721, o_x2721, ⟨ha_x2721, hc_x2721, hd_x2721, hm_x2721, ho_x2721⟩, gm_x2721, go_x2721, hf_x2721, hr_x2721⟩ := h2720.1
  refine lv_istore_n (lv' := [(1, .int (x2721)), (0, .ref (fa_B G + (397)))]) hx hb dX7_faultOf_14 rfl hl (by decide) rfl (fun ls hl => ?_)
  have LOOP_15 : ∀ (fu : Nat) (mt : Nat) (ot : Nat) (jj : Nat) (ok : Int32) (v2724 : fa_V) (H : Heap) (locs : List Loc) (ls : Array Slot), (if ok = 0 then 0 else 61 - mt) < fu → ((mt ≤ n9 ∧ 2 * ot ≤ mt ∧ jj ≤ 20 ∧ fa_pre (fa_sg (v 405) n9) n9 jj) ∧ fa_fo (fa_sg (v 405) n9) n9 mt ot jj ok (v2724 403) ∧ v2724 397 12 = nI mt ∧ v2724 397 11 = nI ot ∧ fa_f3 v v2724 ∧ v2724 405 = v 405) → lv_has ls 2 [(0, .ref (fa_B G + (397))), (1, .int (ok))] → fa_HX G (n) v2724 r s H locs → W p l e (fa_rm 6) s m args below meth c H locs (0) (0) Q (F0 m 15 ls []) := by
    intro fu
    induction fu with
    | zero => intro mt ot jj ok v2724 H locs ls hk; exact absurd hk (Nat.not_lt_zero _)
    | succ fu ih_15 =>
      intro mt ot jj ok v2724 H locs ls hk_15 hi_15 hl HX2725
      refine lv_iload_n hx hb dX7_faultOf_15 rfl (lv_at hl 1 rfl) ?_
      refine lv_if_eq (tgt := 55) hx hb dX7_faultOf_16 (by decide) (fun c_16 => ?_) (fun c_16 => ?_)
      · obtain ⟨hk0, hk1⟩ := hi_15.2.1.resolve_left (fun z => by
          rw [z.1] at c_16
          exact absurd c_16 (by decide))
        refine lv_iload_n hx hb dX7_faultOf_55 rfl (lv_at hl 1 rfl) ?_
        refine lv_if_eq (tgt := 63) hx hb dX7_faultOf_56 (by decide) (fun c_56 => ?_) (fun c_56 => ?_)
        · refine lv_aload_n hx hb dX7_faultOf_63 rfl (lv_at hl 0 rfl) ?_
          refine fa_geti (k := 397) CX HX2725 fl_X7_134 (by omega) rfl rfl dX7_faultOf_64 ?_
          rw [show v2724 397 12 = nI (mt) from hi_15.2.2.1]
          exact RET _ _ _ _ _ _ _ HX2725 dX7_faultOf_67 (⟨rfl, ⟨⟨(show fa_MJ v2724 from ⟨(show fa_MS (v2724 398) from by rw [hi_15.2.2.2.2.1.1 398 (by decide) (by decide)]; exact hJ.1), (show fa_MS (v2724 399) from by rw [hi_15.2.2.2.2.1.1 399 (by decide) (by decide)]; exact hJ.2.1), (show fa_MS (v2724 400) from by rw [hi_15.2.2.2.2.1.1 400 (by decide) (by decide)]; exact hJ.2.2.1), (show fa_MB (v2724 401) from by rw [hi_15.2.2.2.2.1.1 401 (by decide) (by decide)]; exact hJ.2.2.2.1), ⟨n10, by omega, ((hi_15.2.2.2.2.1.2 10 (by decide) (by decide)).trans g10)⟩, ⟨n9, by omega, ((hi_15.2.2.2.2.1.2 9 (by decide) (by decide)).trans g9)⟩⟩), (show v2724 397 9 = v 397 9 from ((show v2724 397 9 = nI (n9) from ((hi_15.2.2.2.2.1.2 9 (by decide) (by decide)).trans g9)).trans g9.symm)), ⟨jj, nI mt, ot, hi_15.1.2.2.1, ⟨hi_15.1.2.2.2, (by rcases hk1 with z | z; exact Or.inl ⟨z.1, congrArg nI z.2.e⟩; exact Or.inr (Or.inr ⟨z.1, z.2.1, z.2.2.1, congrArg nI z.2.2.2.e⟩))⟩, (by rw [if_neg (fa_nI6 (by omega))]), ⟨by omega, (show v2724 397 11 = nI (ot) from hi_15.2.2.2.1)⟩, (fun z => absurd z (fa_nI6 (by omega))), (show fa_f3 v v2724 from (fa_f3.tr fa_f3.rf hi_15.2.2.2.2.1))⟩⟩, (fa_fr.tr fa_fr.rf (fa_fr.wide (fa_f3.fr hi_15.2.2.2.2.1) (by omega) (by omega)))⟩⟩)
        · exact absurd hk0 (by intro z; rw [z] at c_56; exact c_56 (by decide))
      · obtain ⟨hk0, hk1, hk2, hk3, hk4⟩ := hi_15.2.1.resolve_right (fun z => by
          rw [z.1] at c_16
          exact c_16 (by decide))
        refine lv_aload_n hx hb dX7_faultOf_19 rfl (lv_at hl 0 rfl) ?_
        refine fa_geti (k := 397) CX HX2725 fl_X7_134 (by omega) rfl rfl dX7_faultOf_20 ?_
        rw [show v2724 397 12 = nI (mt) from hi_15.2.2.1]
        refine lv_aload_n hx hb dX7_faultOf_23 rfl (lv_at hl 0 rfl) ?_
        refine fa_geti (k := 397) CX HX2725 fl_X7_131 (by omega) rfl rfl dX7_faultOf_24 ?_
        rw [show v2724 397 9 = nI (n9) from ((hi_15.2.2.2.2.1.2 9 (by decide) (by decide)).trans g9)]
        refine lv_icmp_ge (tgt := 55) hx hb dX7_faultOf_27 (by decide) (fun c_27 => ?_) (fun c_27 => ?_)
        · have hge := fa_leN (by omega) (by omega) c_27
          refine lv_iload_n hx hb dX7_faultOf_55 rfl (lv_at hl 1 rfl) ?_
          refine lv_if_eq (tgt := 63) hx hb dX7_faultOf_56 (by decide) (fun c_56 => ?_) (fun c_56 => ?_)
          · exact absurd c_56 (by rw [hk0]; decide)
          · refine lv_iconst (v := (-1 : Int32)) hx hb dX7_faultOf_59 (by decide) ?_
            refine lv_goto (tgt := 67) hx hb dX7_faultOf_60 (by decide) ?_
            exact RET _ _ _ _ _ _ _ HX2725 dX7_faultOf_67 (⟨rfl, ⟨⟨(show fa_MJ v2724 from ⟨(show fa_MS (v2724 398) from by rw [hi_15.2.2.2.2.1.1 398 (by decide) (by decide)]; exact hJ.1), (show fa_MS (v2724 399) from by rw [hi_15.2.2.2.2.1.1 399 (by decide) (by decide)]; exact hJ.2.1), (show fa_MS (v2724 400) from by rw [hi_15.2.2.2.2.1.1 400 (by decide) (by decide)]; exact hJ.2.2.1), (show fa_MB (v2724 401) from by rw [hi_15.2.2.2.2.1.1 401 (by decide) (by decide)]; exact hJ.2.2.2.1), ⟨n10, by omega, ((hi_15.2.2.2.2.1.2 10 (by decide) (by decide)).trans g10)⟩, ⟨n9, by omega, ((hi_15.2.2.2.2.1.2 9 (by decide) (by decide)).trans g9)⟩⟩), (show v2724 397 9 = v 397 9 from ((show v2724 397 9 = nI (n9) from ((hi_15.2.2.2.2.1.2 9 (by decide) (by decide)).trans g9)).trans g9.symm)), ⟨jj, (-6 : Int32), ot, hi_15.1.2.2.1, ⟨hi_15.1.2.2.2, Or.inr (Or.inl ⟨hk1, (by rw [← hk2.e]; exact hge), rfl⟩)⟩, (by decide), ⟨by omega, (show v2724 397 11 = nI (ot) from hi_15.2.2.2.1)⟩, (fun _ => ⟨hk3, hk4⟩), (show fa_f3 v v2724 from (fa_f3.tr fa_f3.rf hi_15.2.2.2.2.1))⟩⟩, (fa_fr.tr fa_fr.rf (fa_fr.wide (fa_f3.fr hi_15.2.2.2.2.1) (by omega) (by omega)))⟩⟩)
        · have hlt : mt < n9 := fa_ltN (by omega) (by omega) c_27
          refine lv_aload_n hx hb dX7_faultOf_30 rfl (lv_at hl 0 rfl) ?_
          refine lv_bipush (v := nI (59)) hx hb dX7_faultOf_31 (by decide) ?_
          refine fa_callViu (As := [.int (nI (59))]) (rest := []) CX HX2725 (r_accepts l G n hn v2724 r hM (n9) (mt) (ot) (by omega) (by omega) (by omega) ((hi_15.2.2.2.2.1.2 9 (by decide) (by decide)).trans g9) hi_15.2.2.1 hi_15.2.2.2.1 (v 405) hi_15.2.2.2.2.2 (nI (59)) (by decide)) ln_X7_144 (by omega) rfl rfl rfl rfl (Nat.le_of_ble_eq_true rfl) hl.1 ⟨Nat.le_of_ble_eq_true rfl, Nat.le_of_ble_eq_true rfl⟩ ⟨Nat.le_refl _, Nat.le_refl _⟩ dX7_faultOf_33 (fun x2727 v2728 H locs h2726 HX2729 => ?_)
          obtain ⟨hx_x2727, m_x2727, o_x2727, ⟨ha_x2727, hc_x2727, hd_x2727, hm_x2727, ho_x2727⟩, gm_x2727, go_x2727, hf_x2727, hr_x2727⟩ := h2726.1
          have hxc := hx_x2727
          have hmc := hm_x2727
          refine lv_if_eq (tgt := 50) hx hb dX7_faultOf_36 (by decide) (fun c_36 => ?_) (fun c_36 => ?_)
          · have hsc := fa_ifn hxc c_36
            have hpc := hmc.e.trans (fa_acc_f hsc)
            refine lv_iconst (v := nI (0)) hx hb dX7_faultOf_50 (by decide) ?_
            refine lv_istore_n (lv' := [(1, .int (nI (0))), (0, .ref (fa_B G + (397)))]) hx hb dX7_faultOf_51 rfl hl (by decide) rfl (fun ls hl => ?_)
            refine lv_goto (tgt := 15) hx hb dX7_faultOf_52 (by decide) ?_
            exact ih_15 (m_x2727) (ot) (jj) (nI 0) v2728 _ _ _ (by rw [if_pos (by decide)]; rw [if_neg (by rw [hk0]; decide)] at hk_15; omega) (⟨⟨by omega, by omega, hi_15.1.2.2.1, hi_15.1.2.2.2⟩, Or.inr ⟨rfl, Or.inr ⟨hk1, (by rw [← hk2.e]; exact hlt), (by rw [← hk2.e]; exact hsc), (fa_is.mk (hpc.trans hk2.e))⟩⟩, gm_x2727, (go_x2727.trans (congrArg nI ho_x2727.e)), (fa_f3.tr (fa_f3.tr fa_f3.rf hi_15.2.2.2.2.1) hf_x2727), ((h2726.2 405 (by omega)).trans hi_15.2.2.2.2.2)⟩) (lv_sub hl [1, 0] rfl) HX2729
          · have hsc := fa_ift hxc c_36
            have hpc := hmc.e.trans (fa_acc_t hsc)
            refine lv_aload_n hx hb dX7_faultOf_39 rfl (lv_at hl 0 rfl) ?_
            refine fa_callViu (As := []) (rest := []) CX HX2729 (r_readsOrder l G n hn v2728 r hM (n9) (mt + 1) (ot) (by omega) (by omega) (by omega) ((hf_x2727.2 9 (by decide) (by decide)).trans ((hi_15.2.2.2.2.1.2 9 (by decide) (by decide)).trans g9)) ((gm_x2727).trans (congrArg nI hpc)) (go_x2727.trans (congrArg nI ho_x2727.e)) (v 405) ((h2726.2 405 (by omega)).trans hi_15.2.2.2.2.2) ) ln_X7_151 (by omega) rfl rfl rfl rfl (Nat.le_of_ble_eq_true rfl) hl.1 ⟨Nat.le_of_ble_eq_true rfl, Nat.le_of_ble_eq_true rfl⟩ ⟨Nat.le_refl _, Nat.le_refl _⟩ dX7_faultOf_40 (fun x2731 v2732 H locs h2730 HX2733 => ?_)
            obtain ⟨hx_x2731, m_x2731, o_x2731, ⟨ha_x2731, hc_x2731, hd_x2731, hm_x2731, ho_x2731⟩, gm_x2731, go_x2731, hf_x2731, hr_x2731⟩ := h2730.1
            refine lv_if_eq (tgt := 50) hx hb dX7_faultOf_43 (by decide) (fun c_43 => ?_) (fun c_43 => ?_)
            · refine lv_iconst (v := nI (0)) hx hb dX7_faultOf_50 (by decide) ?_
              refine lv_istore_n (lv' := [(1, .int (nI (0))), (0, .ref (fa_B G + (397)))]) hx hb dX7_faultOf_51 rfl hl (by decide) rfl (fun ls hl => ?_)
              refine lv_goto (tgt := 15) hx hb dX7_faultOf_52 (by decide) ?_
              exact ih_15 (m_x2731) (o_x2731) (jj + 1) (nI 0) v2732 _ _ _ (by rw [if_neg (by rw [hk0]; decide)] at hk_15; first | (rw [if_pos (by decide)]; omega) | (rw [if_neg (by decide)]; omega)) (⟨⟨by omega, by omega, (by have := fa_pre.ps (hi_15.1.2.2.2.s hk1 (by rw [← hk2.e]; exact hlt) (by rw [← hk2.e]; exact hsc)); omega), hi_15.1.2.2.2.s hk1 (by rw [← hk2.e]; exact hlt) (by rw [← hk2.e]; exact hsc)⟩, (by have z := (fa_fo_s (n := n9) (jj := jj + 1) (R := v2728 403) (congrArg (· + 1) hk2.e) hk3 hx_x2731 hm_x2731.e ho_x2731.e hr_x2731 (by rw [hr_x2727]; exact hk4)); rw [show x2731 = nI 0 from c_43] at z; exact z), gm_x2731, go_x2731, (fa_f3.tr (fa_f3.tr (fa_f3.tr fa_f3.rf hi_15.2.2.2.2.1) hf_x2727) hf_x2731), ((h2730.2 405 (by omega)).trans ((h2726.2 405 (by omega)).trans hi_15.2.2.2.2.2))⟩) (lv_sub hl [1, 0] rfl) HX2733
            · refine lv_iconst (v := nI (1)) hx hb dX7_faultOf_46 (by decide) ?_
              refine lv_goto (tgt := 51) hx hb dX7_faultOf_47 (by decide) ?_
              refine lv_istore_n (lv' := [(1, .int (nI (1))), (0, .ref (fa_B G + (397)))]) hx hb dX7_faultOf_51 rfl hl (by decide) rfl (fun ls hl => ?_)
              refine lv_goto (tgt := 15) hx hb dX7_faultOf_52 (by decide) ?_
              exact ih_15 (m_x2731) (o_x2731) (jj + 1) (nI 1) v2732 _ _ _ (by rw [if_neg (by rw [hk0]; decide)] at hk_15; first | (rw [if_pos (by decide)]; omega) | (rw [if_neg (by decide)]; omega)) (⟨⟨by omega, by omega, (by have := fa_pre.ps (hi_15.1.2.2.2.s hk1 (by rw [← hk2.e]; exact hlt) (by rw [← hk2.e]; exact hsc)); omega), hi_15.1.2.2.2.s hk1 (by rw [← hk2.e]; exact hlt) (by rw [← hk2.e]; exact hsc)⟩, (by have z := (fa_fo_s (n := n9) (jj := jj + 1) (R := v2728 403) (congrArg (· + 1) hk2.e) hk3 hx_x2731 hm_x2731.e ho_x2731.e hr_x2731 (by rw [hr_x2727]; exact hk4)); rw [show x2731 = nI 1 from hx_x2731.trans (if_pos (fa_ift hx_x2731 c_43))] at z; exact z), gm_x2731, go_x2731, (fa_f3.tr (fa_f3.tr (fa_f3.tr fa_f3.rf hi_15.2.2.2.2.1) hf_x2727) hf_x2731), ((h2730.2 405 (by omega)).trans ((h2726.2 405 (by omega)).trans hi_15.2.2.2.2.2))⟩) (lv_sub hl [1, 0] rfl) HX2733
  exact LOOP_15 ((if x2721 = 0 then 0 else 61 - m_x2721) + 1) (m_x2721) (o_x2721) (0) (x2721) v2722 _ _ _ (Nat.lt_succ_self _) (⟨⟨by omega, by omega, by decide, fun k hk => absurd hk (Nat.not_lt_zero _)⟩, fa_fo_s (jj := 0) rfl rfl hx_x2721 hm_x2721.e ho_x2721.e hr_x2721 (fun k hk => absurd hk (Nat.not_lt_zero _)), gm_x2721, go_x2721, (fa_f3.tr (by rw [e2718]; exact fa_f3.w (by rw [e2715]; exact fa_f3.w fa_f3.rf (by decide)) (by decide)) hf_x2721), ((h2720.2 405 (by omega)).trans (((congrFun e2718 405).trans (fa_u_k _ _ (by decide))).trans (((congrFun e2715 405).trans (fa_u_k _ _ (by decide))).trans h5)))⟩) (lv_sub hl [1, 0] rfl) HX2723
set_option maxHeartbeats 4000000 in
set_option maxRecDepth 100000 in
theorem r_fault (l : Launch) (G : fa_G) (n : Nat) (hn : 406 ≤ n) (v : fa_V) (r : fa_R) (hM : fa_RM r) (hJ : fa_MJ v) : fa_MI l G n yX7_fault cX7_fault 2 (some .int) 8 [.ref (fa_B G + (397))] v r (fa_voi r (fun x v1 => ((fa_MJ v1) ∧ (v1 397 9 = v 397 9) ∧ (v1 397 8 = v 397 8) ∧ ((∃ j, j ≤ 20 ∧ fa_FR (fa_sg (v 405) (fa_N (v 397 9))) (fa_N (v 397 9)) j x) ∧ ∀ A H, fb_MV v A H → fb_MV v1 A H)) ∧ (fa_fr (397) (404) v v1))) := by
  refine fa_startI (by decide +kernel) (Nat.le_of_ble_eq_true rfl) (fun p e s m args below meth c ls Q CX hl HX RET => ?_)
  have hl : lv_has ls 2 [(0, .ref (fa_B G + (397)))] := hl
  have hx := CX.1.1
  have hb := CX.1.2.1
  have hS := hJ.1
  obtain ⟨n4, en4⟩ : ∃ m, m = fa_N (v 398 14) := ⟨_, rfl⟩
  obtain ⟨hn4, g4⟩ := hS.n4 en4
  obtain ⟨n5, en5⟩ : ∃ m, m = fa_N (v 398 15) := ⟨_, rfl⟩
  obtain ⟨hn5, g5⟩ := hS.n5 en5
  obtain ⟨n6, en6⟩ : ∃ m, m = fa_N (v 398 16) := ⟨_, rfl⟩
  obtain ⟨hn6, g6⟩ := hS.n6 en6
  obtain ⟨n10, hn10, g10⟩ := hJ.2.2.2.2.1
  obtain ⟨n9, hn9, g9⟩ := hJ.2.2.2.2.2
  have en9 : fa_N (v 397 9) = n9 := by rw [g9]; exact fa_N_nI (by omega)
  refine lv_aload_n hx hb dX7_fault_0 rfl (lv_at hl 0 rfl) ?_
  refine fa_callViu (As := []) (rest := []) CX HX (r_faultOf l G n hn v r hM hJ ) ln_X7_155 (by omega) rfl rfl rfl rfl (Nat.le_of_ble_eq_true rfl) hl.1 ⟨Nat.le_of_ble_eq_true rfl, Nat.le_of_ble_eq_true rfl⟩ ⟨Nat.le_refl _, Nat.le_refl _⟩ dX7_fault_1 (fun x2735 v2736 H locs h2734 HX2737 => ?_)
  have hJ_v2736 := h2734.1.1
  obtain ⟨n10_v2736, hn10_v2736, g10_v2736⟩ := hJ_v2736.2.2.2.2.1
  have h_faultOf := h2734.1.2.2
  obtain ⟨jx, yx, ox, hjx, hFR, hyx, ⟨hox, gox⟩, hrx, hfx⟩ := h_faultOf
  refine lv_istore_n (lv' := [(1, .int (x2735)), (0, .ref (fa_B G + (397)))]) hx hb dX7_fault_4 rfl hl (by decide) rfl (fun ls hl => ?_)
  refine lv_iload_n hx hb dX7_fault_5 rfl (lv_at hl 0 rfl) ?_
  refine lv_if_ge (tgt := 14) hx hb dX7_fault_6 (by decide) (fun c_6 => ?_) (fun c_6 => ?_)
  · refine lv_iload_n hx hb dX7_fault_14 rfl (lv_at hl 0 rfl) ?_
    exact RET _ _ _ _ _ _ _ HX2737 dX7_fault_15 (⟨rfl, ⟨⟨hJ_v2736, (show v2736 397 9 = v 397 9 from ((show v2736 397 9 = nI (n9) from ((h2734.1.2.1).trans g9)).trans g9.symm)), (show v2736 397 8 = v 397 8 from (hfx.2 8 (by decide) (by decide))), ⟨⟨jx, hjx, (by rw [fa_fy1 (by rw [en9]; omega) hyx hFR (by first | exact c_6 | exact Int32.not_lt.mpr c_6)]; exact hFR)⟩, (fun A H hV => (hV.cong (fun i _ => congrFun (hfx.1 398 (by decide) (by decide)) i) (hfx.2 10 (by decide) (by decide)) (hfx.1 401 (by decide) (by decide))))⟩⟩, (fa_fr.tr fa_fr.rf (fa_fr.wide h2734.2 (by omega) (by omega)))⟩⟩)
  · refine lv_bipush (v := (-6 : Int32)) hx hb dX7_fault_9 (by decide) ?_
    refine lv_goto (tgt := 15) hx hb dX7_fault_11 (by decide) ?_
    exact RET _ _ _ _ _ _ _ HX2737 dX7_fault_15 (⟨rfl, ⟨⟨hJ_v2736, (show v2736 397 9 = v 397 9 from ((show v2736 397 9 = nI (n9) from ((h2734.1.2.1).trans g9)).trans g9.symm)), (show v2736 397 8 = v 397 8 from (hfx.2 8 (by decide) (by decide))), ⟨⟨jx, hjx, (by rw [fa_fy0 (by rw [en9]; omega) hyx hFR (by first | exact c_6 | exact Int32.not_le.mp c_6)]; exact hFR)⟩, (fun A H hV => (hV.cong (fun i _ => congrFun (hfx.1 398 (by decide) (by decide)) i) (hfx.2 10 (by decide) (by decide)) (hfx.1 401 (by decide) (by decide))))⟩⟩, (fa_fr.tr fa_fr.rf (fa_fr.wide h2734.2 (by omega) (by omega)))⟩⟩)
set_option maxHeartbeats 4000000 in
set_option maxRecDepth 100000 in
theorem r_does (l : Launch) (G : fa_G) (n : Nat) (hn : 406 ≤ n) (v : fa_V) (r : fa_R) (hM : fa_RM r) (hS : fa_MS (v 398)) (u : Nat) (hu : u < 31) : fa_MI l G n yX7_does cX7_does 3 (some .int) 9 [.ref (fa_B G + (397)), .int (nI (u))] v r (fa_voi r (fun x v1 => ((fa_MS (v1 398)) ∧ (fa_f2 v v1) ∧ (∀ A, fb_okA A → fb_mA (v 398) A → x = (fb_doA A (v 403 (4 * u + 1)) (v 403 (4 * u + 2)) (v 403 (4 * u + 3))).1 ∧ fb_mA (v1 398) (fb_doA A (v 403 (4 * u + 1)) (v 403 (4 * u + 2)) (v 403 (4 * u + 3))).2)) ∧ (fa_fr (398) (403) v v1))) := by
  refine fa_startI (by decide +kernel) (Nat.le_of_ble_eq_true rfl) (fun p e s m args below meth c ls Q CX hl HX RET => ?_)
  have hl : lv_has ls 3 [(0, .ref (fa_B G + (397))), (1, .int (nI (u)))] := hl
  have hx := CX.1.1
  have hb := CX.1.2.1
  obtain ⟨n4, en4⟩ : ∃ m, m = fa_N (v 398 14) := ⟨_, rfl⟩
  obtain ⟨hn4, g4⟩ := hS.n4 en4
  obtain ⟨n5, en5⟩ : ∃ m, m = fa_N (v 398 15) := ⟨_, rfl⟩
  obtain ⟨hn5, g5⟩ := hS.n5 en5
  obtain ⟨n6, en6⟩ : ∃ m, m = fa_N (v 398 16) := ⟨_, rfl⟩
  obtain ⟨hn6, g6⟩ := hS.n6 en6
  refine lv_iconst (v := nI (4)) hx hb dX7_does_0 (by decide) ?_
  refine lv_iload_n hx hb dX7_does_1 rfl (lv_at hl 1 rfl) ?_
  refine fa_imulN hx hb dX7_does_2 ?_
  refine lv_istore_n (lv' := [(2, .int (nI (4 * u))), (0, .ref (fa_B G + (397))), (1, .int (nI (u)))]) hx hb dX7_does_3 rfl hl (by decide) rfl (fun ls hl => ?_)
  refine lv_aload_n hx hb dX7_does_4 rfl (lv_at hl 1 rfl) ?_
  refine fa_getr (k := 397) (j := 403) CX HX fl_X7_26 (by omega) rfl rfl hM.2.2.2.2.2.1 dX7_does_5 ?_
  refine lv_iload_n hx hb dX7_does_8 rfl (lv_at hl 0 rfl) ?_
  refine lv_iconst (v := nI (1)) hx hb dX7_does_9 (by decide) ?_
  refine fa_iaddN hx hb dX7_does_10 ?_
  refine fa_iald (k := 403) (j := 4 * u + 1) CX HX (by omega) rfl (by omega) (by first | decide | assumption) dX7_does_11 ?_
  by_cases c_12_97 : v 403 (4 * u + 1) = (97 : Int32)
  · refine lv_lookup (off := 73) (tgt := 85) hx hb dX7_does_12 (by decide) (by rw [c_12_97]; decide) (by decide) ?_
    refine lv_aload_n hx hb dX7_does_85 rfl (lv_at hl 1 rfl) ?_
    refine lv_aload_n hx hb dX7_does_86 rfl (lv_at hl 1 rfl) ?_
    refine fa_getr (k := 397) (j := 403) CX HX fl_X7_26 (by omega) rfl rfl hM.2.2.2.2.2.1 dX7_does_87 ?_
    refine lv_iload_n hx hb dX7_does_90 rfl (lv_at hl 0 rfl) ?_
    refine lv_iconst (v := nI (2)) hx hb dX7_does_91 (by decide) ?_
    refine fa_iaddN hx hb dX7_does_92 ?_
    refine fa_iald (k := 403) (j := 4 * u + 2) CX HX (by omega) rfl (by omega) (by first | decide | assumption) dX7_does_93 ?_
    refine fa_callViu (As := [.int (v 403 (4 * u + 2))]) (rest := []) CX HX (r_asksFor l G n hn v r hM hS (v 403 (4 * u + 2))) ln_X7_112 (by omega) rfl rfl rfl rfl (Nat.le_of_ble_eq_true rfl) hl.1 ⟨Nat.le_of_ble_eq_true rfl, Nat.le_of_ble_eq_true rfl⟩ ⟨Nat.le_refl _, Nat.le_refl _⟩ dX7_does_94 (fun x2739 v2740 H locs h2738 HX2741 => ?_)
    have hS_v2740 := h2738.1.1
    have h_asksFor := h2738.1.2.2.2.2
    exact RET _ _ _ _ _ _ _ HX2741 dX7_does_97 (⟨rfl, ⟨⟨hS_v2740, (fa_f2.tr fa_f2.rf (fa_f2.of398 h2738.2)), (fun A hok hc => by (rw [fb_doA_a c_12_97]; exact h_asksFor A hok hc))⟩, (fa_fr.tr fa_fr.rf (fa_fr.wide h2738.2 (by omega) (by omega)))⟩⟩)
  by_cases c_12_102 : v 403 (4 * u + 1) = (102 : Int32)
  · refine lv_lookup (off := 129) (tgt := 141) hx hb dX7_does_12 (by decide) (by rw [c_12_102]; decide) (by decide) ?_
    refine lv_aload_n hx hb dX7_does_141 rfl (lv_at hl 1 rfl) ?_
    refine lv_aload_n hx hb dX7_does_142 rfl (lv_at hl 1 rfl) ?_
    refine fa_getr (k := 397) (j := 403) CX HX fl_X7_26 (by omega) rfl rfl hM.2.2.2.2.2.1 dX7_does_143 ?_
    refine lv_iload_n hx hb dX7_does_146 rfl (lv_at hl 0 rfl) ?_
    refine lv_iconst (v := nI (2)) hx hb dX7_does_147 (by decide) ?_
    refine fa_iaddN hx hb dX7_does_148 ?_
    refine fa_iald (k := 403) (j := 4 * u + 2) CX HX (by omega) rfl (by omega) (by first | decide | assumption) dX7_does_149 ?_
    refine lv_aload_n hx hb dX7_does_150 rfl (lv_at hl 1 rfl) ?_
    refine fa_getr (k := 397) (j := 403) CX HX fl_X7_26 (by omega) rfl rfl hM.2.2.2.2.2.1 dX7_does_151 ?_
    refine lv_iload_n hx hb dX7_does_154 rfl (lv_at hl 0 rfl) ?_
    refine lv_iconst (v := nI (3)) hx hb dX7_does_155 (by decide) ?_
    refine fa_iaddN hx hb dX7_does_156 ?_
    refine fa_iald (k := 403) (j := 4 * u + 3) CX HX (by omega) rfl (by omega) (by first | decide | assumption) dX7_does_157 ?_
    refine fa_callViu (As := [.int (v 403 (4 * u + 2)), .int (v 403 (4 * u + 3))]) (rest := []) CX HX (r_refers l G n hn v r hM hS (v 403 (4 * u + 2)) (v 403 (4 * u + 3))) ln_X7_122 (by omega) rfl rfl rfl rfl (Nat.le_of_ble_eq_true rfl) hl.1 ⟨Nat.le_of_ble_eq_true rfl, Nat.le_of_ble_eq_true rfl⟩ ⟨Nat.le_refl _, Nat.le_refl _⟩ dX7_does_158 (fun x2743 v2744 H locs h2742 HX2745 => ?_)
    have hS_v2744 := h2742.1.1
    have h_refers := h2742.1.2.2.2.2
    exact RET _ _ _ _ _ _ _ HX2745 dX7_does_161 (⟨rfl, ⟨⟨hS_v2744, (fa_f2.tr fa_f2.rf (fa_f2.of398 h2742.2)), (fun A hok hc => by (rw [fb_doA_f c_12_102]; exact h_refers A hok hc))⟩, (fa_fr.tr fa_fr.rf (fa_fr.wide h2742.2 (by omega) (by omega)))⟩⟩)
  by_cases c_12_108 : v 403 (4 * u + 1) = (108 : Int32)
  · refine lv_lookup (off := 108) (tgt := 120) hx hb dX7_does_12 (by decide) (by rw [c_12_108]; decide) (by decide) ?_
    refine lv_aload_n hx hb dX7_does_120 rfl (lv_at hl 1 rfl) ?_
    refine lv_aload_n hx hb dX7_does_121 rfl (lv_at hl 1 rfl) ?_
    refine fa_getr (k := 397) (j := 403) CX HX fl_X7_26 (by omega) rfl rfl hM.2.2.2.2.2.1 dX7_does_122 ?_
    refine lv_iload_n hx hb dX7_does_125 rfl (lv_at hl 0 rfl) ?_
    refine lv_iconst (v := nI (2)) hx hb dX7_does_126 (by decide) ?_
    refine fa_iaddN hx hb dX7_does_127 ?_
    refine fa_iald (k := 403) (j := 4 * u + 2) CX HX (by omega) rfl (by omega) (by first | decide | assumption) dX7_does_128 ?_
    refine lv_aload_n hx hb dX7_does_129 rfl (lv_at hl 1 rfl) ?_
    refine fa_getr (k := 397) (j := 403) CX HX fl_X7_26 (by omega) rfl rfl hM.2.2.2.2.2.1 dX7_does_130 ?_
    refine lv_iload_n hx hb dX7_does_133 rfl (lv_at hl 0 rfl) ?_
    refine lv_iconst (v := nI (3)) hx hb dX7_does_134 (by decide) ?_
    refine fa_iaddN hx hb dX7_does_135 ?_
    refine fa_iald (k := 403) (j := 4 * u + 3) CX HX (by omega) rfl (by omega) (by first | decide | assumption) dX7_does_136 ?_
    refine fa_callViu (As := [.int (v 403 (4 * u + 2)), .int (v 403 (4 * u + 3))]) (rest := []) CX HX (r_lifts l G n hn v r hM hS (v 403 (4 * u + 2)) (v 403 (4 * u + 3))) ln_X7_119 (by omega) rfl rfl rfl rfl (Nat.le_of_ble_eq_true rfl) hl.1 ⟨Nat.le_of_ble_eq_true rfl, Nat.le_of_ble_eq_true rfl⟩ ⟨Nat.le_refl _, Nat.le_refl _⟩ dX7_does_137 (fun x2747 v2748 H locs h2746 HX2749 => ?_)
    have hS_v2748 := h2746.1.1
    have h_lifts := h2746.1.2.2.2.2
    exact RET _ _ _ _ _ _ _ HX2749 dX7_does_140 (⟨rfl, ⟨⟨hS_v2748, (fa_f2.tr fa_f2.rf (fa_f2.of398 h2746.2)), (fun A hok hc => by (rw [fb_doA_l c_12_108]; exact h_lifts A hok hc))⟩, (fa_fr.tr fa_fr.rf (fa_fr.wide h2746.2 (by omega) (by omega)))⟩⟩)
  by_cases c_12_110 : v 403 (4 * u + 1) = (110 : Int32)
  · refine lv_lookup (off := 52) (tgt := 64) hx hb dX7_does_12 (by decide) (by rw [c_12_110]; decide) (by decide) ?_
    refine lv_aload_n hx hb dX7_does_64 rfl (lv_at hl 1 rfl) ?_
    refine lv_aload_n hx hb dX7_does_65 rfl (lv_at hl 1 rfl) ?_
    refine fa_getr (k := 397) (j := 403) CX HX fl_X7_26 (by omega) rfl rfl hM.2.2.2.2.2.1 dX7_does_66 ?_
    refine lv_iload_n hx hb dX7_does_69 rfl (lv_at hl 0 rfl) ?_
    refine lv_iconst (v := nI (2)) hx hb dX7_does_70 (by decide) ?_
    refine fa_iaddN hx hb dX7_does_71 ?_
    refine fa_iald (k := 403) (j := 4 * u + 2) CX HX (by omega) rfl (by omega) (by first | decide | assumption) dX7_does_72 ?_
    refine lv_aload_n hx hb dX7_does_73 rfl (lv_at hl 1 rfl) ?_
    refine fa_getr (k := 397) (j := 403) CX HX fl_X7_26 (by omega) rfl rfl hM.2.2.2.2.2.1 dX7_does_74 ?_
    refine lv_iload_n hx hb dX7_does_77 rfl (lv_at hl 0 rfl) ?_
    refine lv_iconst (v := nI (3)) hx hb dX7_does_78 (by decide) ?_
    refine fa_iaddN hx hb dX7_does_79 ?_
    refine fa_iald (k := 403) (j := 4 * u + 3) CX HX (by omega) rfl (by omega) (by first | decide | assumption) dX7_does_80 ?_
    refine fa_callViu (As := [.int (v 403 (4 * u + 2)), .int (v 403 (4 * u + 3))]) (rest := []) CX HX (r_adds l G n hn v r hM hS (v 403 (4 * u + 2)) (v 403 (4 * u + 3))) ln_X7_105 (by omega) rfl rfl rfl rfl (Nat.le_of_ble_eq_true rfl) hl.1 ⟨Nat.le_of_ble_eq_true rfl, Nat.le_of_ble_eq_true rfl⟩ ⟨Nat.le_refl _, Nat.le_refl _⟩ dX7_does_81 (fun x2751 v2752 H locs h2750 HX2753 => ?_)
    have hS_v2752 := h2750.1.1
    have h_adds := h2750.1.2.2.2
    exact RET _ _ _ _ _ _ _ HX2753 dX7_does_84 (⟨rfl, ⟨⟨hS_v2752, (fa_f2.tr fa_f2.rf (fa_f2.of398 h2750.2)), (fun A hok hc => by (rw [fb_doA_n c_12_110]; exact h_adds A hok hc))⟩, (fa_fr.tr fa_fr.rf (fa_fr.wide h2750.2 (by omega) (by omega)))⟩⟩)
  by_cases c_12_115 : v 403 (4 * u + 1) = (115 : Int32)
  · refine lv_lookup (off := 86) (tgt := 98) hx hb dX7_does_12 (by decide) (by rw [c_12_115]; decide) (by decide) ?_
    refine lv_aload_n hx hb dX7_does_98 rfl (lv_at hl 1 rfl) ?_
    refine lv_aload_n hx hb dX7_does_99 rfl (lv_at hl 1 rfl) ?_
    refine fa_getr (k := 397) (j := 403) CX HX fl_X7_26 (by omega) rfl rfl hM.2.2.2.2.2.1 dX7_does_100 ?_
    refine lv_iload_n hx hb dX7_does_103 rfl (lv_at hl 0 rfl) ?_
    refine lv_iconst (v := nI (2)) hx hb dX7_does_104 (by decide) ?_
    refine fa_iaddN hx hb dX7_does_105 ?_
    refine fa_iald (k := 403) (j := 4 * u + 2) CX HX (by omega) rfl (by omega) (by first | decide | assumption) dX7_does_106 ?_
    refine lv_aload_n hx hb dX7_does_107 rfl (lv_at hl 1 rfl) ?_
    refine fa_getr (k := 397) (j := 403) CX HX fl_X7_26 (by omega) rfl rfl hM.2.2.2.2.2.1 dX7_does_108 ?_
    refine lv_iload_n hx hb dX7_does_111 rfl (lv_at hl 0 rfl) ?_
    refine lv_iconst (v := nI (3)) hx hb dX7_does_112 (by decide) ?_
    refine fa_iaddN hx hb dX7_does_113 ?_
    refine fa_iald (k := 403) (j := 4 * u + 3) CX HX (by omega) rfl (by omega) (by first | decide | assumption) dX7_does_114 ?_
    refine lv_iconst (v := (-1 : Int32)) hx hb dX7_does_115 (by decide) ?_
    refine fa_callViu (As := [.int (v 403 (4 * u + 2)), .int (v 403 (4 * u + 3)), .int ((-1 : Int32))]) (rest := []) CX HX (r_seals l G n hn v r hM hS (v 403 (4 * u + 2)) (v 403 (4 * u + 3)) ((-1 : Int32))) ln_X7_115 (by omega) rfl rfl rfl rfl (Nat.le_of_ble_eq_true rfl) hl.1 ⟨Nat.le_of_ble_eq_true rfl, Nat.le_of_ble_eq_true rfl⟩ ⟨Nat.le_refl _, Nat.le_refl _⟩ dX7_does_116 (fun x2755 v2756 H locs h2754 HX2757 => ?_)
    have hS_v2756 := h2754.1.1
    have h_seals := h2754.1.2.2.2.2
    exact RET _ _ _ _ _ _ _ HX2757 dX7_does_119 (⟨rfl, ⟨⟨hS_v2756, (fa_f2.tr fa_f2.rf (fa_f2.of398 h2754.2)), (fun A hok hc => by (rw [fb_doA_s c_12_115]; exact h_seals A hok hc))⟩, (fa_fr.tr fa_fr.rf (fa_fr.wide h2754.2 (by omega) (by omega)))⟩⟩)
  refine lv_lookup (off := 150) (tgt := 162) hx hb dX7_does_12 (by decide) (by show Op.lookupswitch.offset [(97, 73), (102, 129), (108, 108), (110, 52), (115, 86)] 150 _ = _; rw [lv_osw (k := 97) c_12_97 (by decide), lv_osw (k := 102) c_12_102 (by decide), lv_osw (k := 108) c_12_108 (by decide), lv_osw (k := 110) c_12_110 (by decide), lv_osw (k := 115) c_12_115 (by decide)]; rfl) (by decide) ?_
  refine lv_aload_n hx hb dX7_does_162 rfl (lv_at hl 1 rfl) ?_
  refine lv_aload_n hx hb dX7_does_163 rfl (lv_at hl 1 rfl) ?_
  refine fa_getr (k := 397) (j := 403) CX HX fl_X7_26 (by omega) rfl rfl hM.2.2.2.2.2.1 dX7_does_164 ?_
  refine lv_iload_n hx hb dX7_does_167 rfl (lv_at hl 0 rfl) ?_
  refine lv_iconst (v := nI (2)) hx hb dX7_does_168 (by decide) ?_
  refine fa_iaddN hx hb dX7_does_169 ?_
  refine fa_iald (k := 403) (j := 4 * u + 2) CX HX (by omega) rfl (by omega) (by first | decide | assumption) dX7_does_170 ?_
  refine fa_callViu (As := [.int (v 403 (4 * u + 2))]) (rest := []) CX HX (r_passes l G n hn v r hM hS (v 403 (4 * u + 2))) ln_X7_128 (by omega) rfl rfl rfl rfl (Nat.le_of_ble_eq_true rfl) hl.1 ⟨Nat.le_of_ble_eq_true rfl, Nat.le_of_ble_eq_true rfl⟩ ⟨Nat.le_refl _, Nat.le_refl _⟩ dX7_does_171 (fun x2759 v2760 H locs h2758 HX2761 => ?_)
  have hS_v2760 := h2758.1.1
  have h_passes := h2758.1.2.2
  exact RET _ _ _ _ _ _ _ HX2761 dX7_does_174 (⟨rfl, ⟨⟨hS_v2760, (fa_f2.tr fa_f2.rf h2758.1.2.1), (fun A hok hc => by (rw [fb_doA_o c_12_110 c_12_97 c_12_115 c_12_108 c_12_102]; exact h_passes A hok hc))⟩, (fa_fr.tr fa_fr.rf (fa_fr.wide h2758.2 (by omega) (by omega)))⟩⟩)
set_option maxHeartbeats 4000000 in
set_option maxRecDepth 100000 in
theorem r_run (l : Launch) (G : fa_G) (n : Nat) (hn : 406 ≤ n) (v : fa_V) (r : fa_R) (hM : fa_RM r) (hJ : fa_MJ v) : fa_MI l G n yX7_run cX7_run 3 (some .int) 10 [.ref (fa_B G + (397))] v r (fa_voi r (fun x v1 => ((fa_MJ v1) ∧ (v1 397 9 = v 397 9) ∧ (∀ A H, fb_MV v A H → (∃ j y, j ≤ 20 ∧ fa_FR (fa_sg (v 405) (fa_N (v 397 9))) (fa_N (v 397 9)) j y ∧ ¬ y = (-6 : Int32) ∧ x = (-3 : Int32) ∧ fb_MV v1 A H ∧ v1 397 8 = v 397 8 ∧ v1 404 = v 404) ∨ (∃ j e, j ≤ 20 ∧ fa_FR (fa_sg (v 405) (fa_N (v 397 9))) (fa_N (v 397 9)) j (-6 : Int32) ∧ fb_runP A (fa_sg (v 405) (fa_N (v 397 9))) (j + 1) e ∧ x = nI e ∧ fb_MV v1 (fb_fin A (fa_sg (v 405) (fa_N (v 397 9))) (j + 1) e) (fb_push H A) ∧ fb_rpm A (fa_sg (v 405) (fa_N (v 397 9))) (j + 1) e (v1 397 8) (v1 404 0) (v1 404 1) (v1 404 2)))) ∧ (fa_fr (397) (405) v v1))) := by
  refine fa_startI (by decide +kernel) (Nat.le_of_ble_eq_true rfl) (fun p e s m args below meth c ls Q CX hl HX RET => ?_)
  have hl : lv_has ls 3 [(0, .ref (fa_B G + (397)))] := hl
  have hx := CX.1.1
  have hb := CX.1.2.1
  have hS := hJ.1
  obtain ⟨n4, en4⟩ : ∃ m, m = fa_N (v 398 14) := ⟨_, rfl⟩
  obtain ⟨hn4, g4⟩ := hS.n4 en4
  obtain ⟨n5, en5⟩ : ∃ m, m = fa_N (v 398 15) := ⟨_, rfl⟩
  obtain ⟨hn5, g5⟩ := hS.n5 en5
  obtain ⟨n6, en6⟩ : ∃ m, m = fa_N (v 398 16) := ⟨_, rfl⟩
  obtain ⟨hn6, g6⟩ := hS.n6 en6
  obtain ⟨n10, hn10, g10⟩ := hJ.2.2.2.2.1
  obtain ⟨n9, hn9, g9⟩ := hJ.2.2.2.2.2
  have en9 : fa_N (v 397 9) = n9 := by rw [g9]; exact fa_N_nI (by omega)
  refine lv_aload_n hx hb dX7_run_0 rfl (lv_at hl 0 rfl) ?_
  refine fa_callViu (As := []) (rest := []) CX HX (r_faultOf l G n hn v r hM hJ ) ln_X7_155 (by omega) rfl rfl rfl rfl (Nat.le_of_ble_eq_true rfl) hl.1 ⟨Nat.le_of_ble_eq_true rfl, Nat.le_of_ble_eq_true rfl⟩ ⟨Nat.le_refl _, Nat.le_refl _⟩ dX7_run_1 (fun x2763 v2764 H locs h2762 HX2765 => ?_)
  have hJ_v2764 := h2762.1.1
  obtain ⟨n10_v2764, hn10_v2764, g10_v2764⟩ := hJ_v2764.2.2.2.2.1
  have h_faultOf := h2762.1.2.2
  obtain ⟨jx, yx, ox, hjx, hFR, hyx, ⟨hox, gox⟩, hrx, hfx⟩ := h_faultOf
  refine lv_if_lt (tgt := 10) hx hb dX7_run_4 (by decide) (fun c_4 => ?_) (fun c_4 => ?_)
  · have hy6 : yx = (-6 : Int32) := (fa_fy0 (by rw [en9]; omega) hyx hFR c_4).symm
    obtain ⟨hox1, hrd⟩ := hrx hy6
    refine lv_aload_n hx hb dX7_run_10 rfl (lv_at hl 0 rfl) ?_
    refine fa_callVvu (As := []) (rest := []) CX HX2765 (r_hold l G n hn v2764 r hM) ln_X7_102 (by omega) rfl rfl rfl rfl (Nat.le_of_ble_eq_true rfl) hl.1 ⟨Nat.le_of_ble_eq_true rfl, Nat.le_of_ble_eq_true rfl⟩ ⟨Nat.le_refl _, Nat.le_refl _⟩ dX7_run_11 (fun v2767 H locs h2766 HX2768 => ?_)
    have h_hold := h2766.1
    refine lv_iconst (v := nI (0)) hx hb dX7_run_14 (by decide) ?_
    refine lv_istore_n (lv' := [(1, .int (nI (0))), (0, .ref (fa_B G + (397)))]) hx hb dX7_run_15 rfl hl (by decide) rfl (fun ls hl => ?_)
    refine lv_aload_n hx hb dX7_run_16 rfl (lv_at hl 1 rfl) ?_
    refine lv_iconst (v := nI (0)) hx hb dX7_run_17 (by decide) ?_
    refine fa_puti (k := 397) CX HX2768 fl_X7_158 (by omega) rfl rfl rfl rfl dX7_run_18 (fun H locs v2769 e2770 HX2771 => ?_)
    have LOOP_21 : ∀ (fu : Nat) (dn : Nat) (v2772 : fa_V) (H : Heap) (locs : List Loc) (ls : Array Slot), (ox - dn) + (if v2772 397 8 = 0 then 1 else 0) < fu → (dn ≤ ox ∧ fa_MJ v2772 ∧ v2772 397 9 = v 397 9 ∧ v2772 397 11 = nI ox ∧ fa_fr 397 405 v v2772 ∧ ∀ A H, fb_MV v A H → fb_mzI A H (fa_sg (v 405) (fa_N (v 397 9))) (jx + 1) v2772 dn) → lv_has ls 3 [(0, .ref (fa_B G + (397))), (1, .int (nI (dn)))] → fa_HX G (n) v2772 r s H locs → W p l e (fa_rm 10) s m args below meth c H locs (0) (0) Q (F0 m 21 ls []) := by
      intro fu
      induction fu with
      | zero => intro dn v2772 H locs ls hk; exact absurd hk (Nat.not_lt_zero _)
      | succ fu ih_21 =>
        intro dn v2772 H locs ls hk_21 hi_21 hl HX2773
        obtain ⟨n10x, hn10x, g10x⟩ := hi_21.2.1.2.2.2.2.1
        refine lv_aload_n hx hb dX7_run_21 rfl (lv_at hl 0 rfl) ?_
        refine fa_geti (k := 397) CX HX2773 fl_X7_158 (by omega) rfl rfl dX7_run_22 ?_
        refine lv_if_ne (tgt := 95) hx hb dX7_run_25 (by decide) (fun c_25 => ?_) (fun c_25 => ?_)
        · refine lv_aload_n hx hb dX7_run_95 rfl (lv_at hl 0 rfl) ?_
          refine lv_iload_n hx hb dX7_run_96 rfl (lv_at hl 1 rfl) ?_
          refine fa_callViu (As := [.int (nI (dn))]) (rest := []) CX HX2773 (r_recorded l G n hn v2772 r hM (show fa_MJ v2772 from ⟨hi_21.2.1.1, hi_21.2.1.2.1, hi_21.2.1.2.2.1, hi_21.2.1.2.2.2.1, ⟨n10x, by omega, g10x⟩, ⟨n9, by omega, (hi_21.2.2.1.trans g9)⟩⟩) (nI (dn))) ln_X7_109 (by omega) rfl rfl rfl rfl (Nat.le_of_ble_eq_true rfl) hl.1 ⟨Nat.le_of_ble_eq_true rfl, Nat.le_of_ble_eq_true rfl⟩ ⟨Nat.le_refl _, Nat.le_refl _⟩ dX7_run_97 (fun x2775 v2776 H locs h2774 HX2777 => ?_)
          have hJ_v2776 := h2774.1.1
          obtain ⟨n10_v2776, hn10_v2776, g10_v2776⟩ := hJ_v2776.2.2.2.2.1
          have h_recorded := h2774.1.2.2.2
          exact RET _ _ _ _ _ _ _ HX2777 dX7_run_100 (⟨rfl, ⟨⟨hJ_v2776, (show v2776 397 9 = v 397 9 from ((show v2776 397 9 = nI (n9) from ((h2774.1.2.1).trans (hi_21.2.2.1.trans g9))).trans g9.symm)), (fun A H hV => by (obtain ⟨e, q1, q2, q3, q4⟩ := fb_mzI.e hV.1 (hi_21.2.2.2.2.2 A H hV) (Or.inl c_25) h_recorded (by omega) h2774.1.2.2.1 (h2774.2 404 (by omega)); rw [hy6] at hFR; exact Or.inr ⟨jx, e, hjx, hFR, q1, q2, q3, q4⟩))⟩, (fa_fr.tr (fa_fr.tr fa_fr.rf (fa_fr.wide hi_21.2.2.2.2.1 (by omega) (by omega))) (fa_fr.wide h2774.2 (by omega) (by omega)))⟩⟩)
        · refine lv_iload_n hx hb dX7_run_28 rfl (lv_at hl 1 rfl) ?_
          refine lv_aload_n hx hb dX7_run_29 rfl (lv_at hl 0 rfl) ?_
          refine fa_geti (k := 397) CX HX2773 fl_X7_141 (by omega) rfl rfl dX7_run_30 ?_
          rw [show v2772 397 11 = nI (ox) from hi_21.2.2.2.1]
          refine lv_icmp_ge (tgt := 95) hx hb dX7_run_33 (by decide) (fun c_33 => ?_) (fun c_33 => ?_)
          · refine lv_aload_n hx hb dX7_run_95 rfl (lv_at hl 0 rfl) ?_
            refine lv_iload_n hx hb dX7_run_96 rfl (lv_at hl 1 rfl) ?_
            refine fa_callViu (As := [.int (nI (dn))]) (rest := []) CX HX2773 (r_recorded l G n hn v2772 r hM (show fa_MJ v2772 from ⟨hi_21.2.1.1, hi_21.2.1.2.1, hi_21.2.1.2.2.1, hi_21.2.1.2.2.2.1, ⟨n10x, by omega, g10x⟩, ⟨n9, by omega, (hi_21.2.2.1.trans g9)⟩⟩) (nI (dn))) ln_X7_109 (by omega) rfl rfl rfl rfl (Nat.le_of_ble_eq_true rfl) hl.1 ⟨Nat.le_of_ble_eq_true rfl, Nat.le_of_ble_eq_true rfl⟩ ⟨Nat.le_refl _, Nat.le_refl _⟩ dX7_run_97 (fun x2779 v2780 H locs h2778 HX2781 => ?_)
            have hJ_v2780 := h2778.1.1
            obtain ⟨n10_v2780, hn10_v2780, g10_v2780⟩ := hJ_v2780.2.2.2.2.1
            have h_recorded := h2778.1.2.2.2
            exact RET _ _ _ _ _ _ _ HX2781 dX7_run_100 (⟨rfl, ⟨⟨hJ_v2780, (show v2780 397 9 = v 397 9 from ((show v2780 397 9 = nI (n9) from ((h2778.1.2.1).trans (hi_21.2.2.1.trans g9))).trans g9.symm)), (fun A H hV => by (obtain ⟨e, q1, q2, q3, q4⟩ := fb_mzI.e hV.1 (hi_21.2.2.2.2.2 A H hV) (Or.inr (by have := fa_leN (by omega) (by omega) c_33; omega)) h_recorded (by omega) h2778.1.2.2.1 (h2778.2 404 (by omega)); rw [hy6] at hFR; exact Or.inr ⟨jx, e, hjx, hFR, q1, q2, q3, q4⟩))⟩, (fa_fr.tr (fa_fr.tr fa_fr.rf (fa_fr.wide hi_21.2.2.2.2.1 (by omega) (by omega))) (fa_fr.wide h2778.2 (by omega) (by omega)))⟩⟩)
          · have hd := fa_ltN (by omega) (by omega) c_33
            refine lv_aload_n hx hb dX7_run_36 rfl (lv_at hl 0 rfl) ?_
            refine lv_iload_n hx hb dX7_run_37 rfl (lv_at hl 1 rfl) ?_
            refine fa_callViu (As := [.int (nI (dn))]) (rest := []) CX HX2773 (r_does l G n hn v2772 r hM hi_21.2.1.1 (dn) (by omega)) ln_X7_162 (by omega) rfl rfl rfl rfl (Nat.le_of_ble_eq_true rfl) hl.1 ⟨Nat.le_of_ble_eq_true rfl, Nat.le_of_ble_eq_true rfl⟩ ⟨Nat.le_refl _, Nat.le_refl _⟩ dX7_run_38 (fun x2783 v2784 H locs h2782 HX2785 => ?_)
            have hS_v2784 := h2782.1.1
            have h_does := h2782.1.2.2
            refine lv_istore_n (lv' := [(2, .int (x2783)), (0, .ref (fa_B G + (397))), (1, .int (nI (dn)))]) hx hb dX7_run_41 rfl hl (by decide) rfl (fun ls hl => ?_)
            refine lv_iload_n hx hb dX7_run_42 rfl (lv_at hl 0 rfl) ?_
            refine lv_if_ge (tgt := 89) hx hb dX7_run_43 (by decide) (fun c_43 => ?_) (fun c_43 => ?_)
            · refine lv_iinc (v := nI (dn + 1)) (lv' := [(1, .int (nI (dn + 1))), (2, .int (x2783)), (0, .ref (fa_B G + (397)))]) hx hb dX7_run_89 hl (k := 2) rfl (nI_add (dn) 1) (by decide) rfl (fun ls hl => ?_)
              refine lv_goto (tgt := 21) hx hb dX7_run_92 (by decide) ?_
              exact ih_21 (dn + 1) v2784 _ _ _ (by rw [if_pos c_25] at hk_21; split <;> omega) (⟨by omega, (show fa_MJ v2784 from ⟨hS_v2784, (show fa_MS (v2784 399) from by rw [h2782.1.2.1 399 (by decide) (by decide)]; exact hi_21.2.1.2.1), (show fa_MS (v2784 400) from by rw [h2782.1.2.1 400 (by decide) (by decide)]; exact hi_21.2.1.2.2.1), (show fa_MB (v2784 401) from by rw [h2782.1.2.1 401 (by decide) (by decide)]; exact hi_21.2.1.2.2.2.1), ⟨n10x, by omega, (by rw [h2782.2 _ (by omega)]; exact g10x)⟩, ⟨n9, by omega, (by rw [h2782.2 _ (by omega)]; exact (hi_21.2.2.1.trans g9))⟩⟩), (show v2784 397 9 = v 397 9 from ((show v2784 397 9 = nI (n9) from (by rw [h2782.2 _ (by omega)]; exact (hi_21.2.2.1.trans g9))).trans g9.symm)), (show v2784 397 11 = nI ox from (by rw [h2782.2 _ (by omega)]; exact hi_21.2.2.2.1)), (fa_fr.tr (fa_fr.tr fa_fr.rf (fa_fr.wide hi_21.2.2.2.2.1 (by omega) (by omega))) (fa_fr.wide h2782.2 (by omega) (by omega))), (fun A H hV => fb_mzI.ok (fb_mzI.s hV.1 (hi_21.2.2.2.2.2 A H hV) c_25 (by omega) h2782.1.2.1 h_does) (Or.inl c_43))⟩) (lv_sub hl [2, 0] rfl) HX2785
            · refine lv_iload_n hx hb dX7_run_46 rfl (lv_at hl 0 rfl) ?_
              refine lv_bipush (v := (-6 : Int32)) hx hb dX7_run_47 (by decide) ?_
              refine lv_icmp_eq (tgt := 89) hx hb dX7_run_49 (by decide) (fun c_49 => ?_) (fun c_49 => ?_)
              · refine lv_iinc (v := nI (dn + 1)) (lv' := [(1, .int (nI (dn + 1))), (2, .int (x2783)), (0, .ref (fa_B G + (397)))]) hx hb dX7_run_89 hl (k := 2) rfl (nI_add (dn) 1) (by decide) rfl (fun ls hl => ?_)
                refine lv_goto (tgt := 21) hx hb dX7_run_92 (by decide) ?_
                exact ih_21 (dn + 1) v2784 _ _ _ (by rw [if_pos c_25] at hk_21; split <;> omega) (⟨by omega, (show fa_MJ v2784 from ⟨hS_v2784, (show fa_MS (v2784 399) from by rw [h2782.1.2.1 399 (by decide) (by decide)]; exact hi_21.2.1.2.1), (show fa_MS (v2784 400) from by rw [h2782.1.2.1 400 (by decide) (by decide)]; exact hi_21.2.1.2.2.1), (show fa_MB (v2784 401) from by rw [h2782.1.2.1 401 (by decide) (by decide)]; exact hi_21.2.1.2.2.2.1), ⟨n10x, by omega, (by rw [h2782.2 _ (by omega)]; exact g10x)⟩, ⟨n9, by omega, (by rw [h2782.2 _ (by omega)]; exact (hi_21.2.2.1.trans g9))⟩⟩), (show v2784 397 9 = v 397 9 from ((show v2784 397 9 = nI (n9) from (by rw [h2782.2 _ (by omega)]; exact (hi_21.2.2.1.trans g9))).trans g9.symm)), (show v2784 397 11 = nI ox from (by rw [h2782.2 _ (by omega)]; exact hi_21.2.2.2.1)), (fa_fr.tr (fa_fr.tr fa_fr.rf (fa_fr.wide hi_21.2.2.2.2.1 (by omega) (by omega))) (fa_fr.wide h2782.2 (by omega) (by omega))), (fun A H hV => fb_mzI.ok (fb_mzI.s hV.1 (hi_21.2.2.2.2.2 A H hV) c_25 (by omega) h2782.1.2.1 h_does) (Or.inr (by first | exact c_49 | exact Decidable.not_not.mp c_49)))⟩) (lv_sub hl [2, 0] rfl) HX2785
              · refine lv_aload_n hx hb dX7_run_52 rfl (lv_at hl 1 rfl) ?_
                refine lv_iconst (v := nI (1)) hx hb dX7_run_53 (by decide) ?_
                refine fa_puti (k := 397) CX HX2785 fl_X7_158 (by omega) rfl rfl rfl rfl dX7_run_54 (fun H locs v2786 e2787 HX2788 => ?_)
                refine lv_aload_n hx hb dX7_run_57 rfl (lv_at hl 1 rfl) ?_
                refine fa_getr (k := 397) (j := 404) CX HX2788 fl_X7_29 (by omega) rfl rfl hM.2.2.2.2.2.2.1 dX7_run_58 ?_
                refine lv_iconst (v := nI (0)) hx hb dX7_run_61 (by decide) ?_
                refine lv_iload_n hx hb dX7_run_62 rfl (lv_at hl 2 rfl) ?_
                refine fa_iast (k := 404) (j := 0) CX HX2788 (by omega) rfl (by omega) (by first | decide | assumption) dX7_run_63 (fun H locs v2789 e2790 HX2791 => ?_)
                refine lv_aload_n hx hb dX7_run_64 rfl (lv_at hl 1 rfl) ?_
                refine fa_getr (k := 397) (j := 404) CX HX2791 fl_X7_29 (by omega) rfl rfl hM.2.2.2.2.2.2.1 dX7_run_65 ?_
                refine lv_iconst (v := nI (1)) hx hb dX7_run_68 (by decide) ?_
                refine lv_aload_n hx hb dX7_run_69 rfl (lv_at hl 1 rfl) ?_
                refine fa_getr (k := 397) (j := 403) CX HX2791 fl_X7_26 (by omega) rfl rfl hM.2.2.2.2.2.1 dX7_run_70 ?_
                refine lv_iconst (v := nI (4)) hx hb dX7_run_73 (by decide) ?_
                refine lv_iload_n hx hb dX7_run_74 rfl (lv_at hl 2 rfl) ?_
                refine fa_imulN hx hb dX7_run_75 ?_
                refine fa_iald (k := 403) (j := 4 * dn) CX HX2791 (by omega) rfl (by omega) (by first | decide | assumption) dX7_run_76 ?_
                refine fa_iast (k := 404) (j := 1) CX HX2791 (by omega) rfl (by omega) (by first | decide | assumption) dX7_run_77 (fun H locs v2792 e2793 HX2794 => ?_)
                refine lv_aload_n hx hb dX7_run_78 rfl (lv_at hl 1 rfl) ?_
                refine fa_getr (k := 397) (j := 404) CX HX2794 fl_X7_29 (by omega) rfl rfl hM.2.2.2.2.2.2.1 dX7_run_79 ?_
                refine lv_iconst (v := nI (2)) hx hb dX7_run_82 (by decide) ?_
                refine lv_iload_n hx hb dX7_run_83 rfl (lv_at hl 0 rfl) ?_
                refine lv_ineg hx hb dX7_run_84 ?_
                refine fa_iast (k := 404) (j := 2) CX HX2794 (by omega) rfl (by omega) (by first | decide | assumption) dX7_run_85 (fun H locs v2795 e2796 HX2797 => ?_)
                refine lv_goto (tgt := 92) hx hb dX7_run_86 (by decide) ?_
                refine lv_goto (tgt := 21) hx hb dX7_run_92 (by decide) ?_
                exact ih_21 (dn) v2795 _ _ _ (by rw [if_pos c_25] at hk_21; rw [show v2795 397 8 = nI 1 from (by rw [e2796, fa_u_n _ _ (by omega)]; exact (by rw [e2793, fa_u_n _ _ (by omega)]; exact (by rw [e2790, fa_u_n _ _ (by omega)]; exact (by rw [e2787, fa_u_s])))), if_neg (by decide)]; omega) (⟨by omega, (show fa_MJ v2795 from ⟨(show fa_MS (v2795 398) from by rw [e2796, fa_u_k _ _ (by decide)]; exact (show fa_MS (v2792 398) from by rw [e2793, fa_u_k _ _ (by decide)]; exact (show fa_MS (v2789 398) from by rw [e2790, fa_u_k _ _ (by decide)]; exact (show fa_MS (v2786 398) from by rw [e2787, fa_u_k _ _ (by decide)]; exact hS_v2784)))), (show fa_MS (v2795 399) from by rw [e2796, fa_u_k _ _ (by decide)]; exact (show fa_MS (v2792 399) from by rw [e2793, fa_u_k _ _ (by decide)]; exact (show fa_MS (v2789 399) from by rw [e2790, fa_u_k _ _ (by decide)]; exact (show fa_MS (v2786 399) from by rw [e2787, fa_u_k _ _ (by decide)]; exact (show fa_MS (v2784 399) from by rw [h2782.1.2.1 399 (by decide) (by decide)]; exact hi_21.2.1.2.1))))), (show fa_MS (v2795 400) from by rw [e2796, fa_u_k _ _ (by decide)]; exact (show fa_MS (v2792 400) from by rw [e2793, fa_u_k _ _ (by decide)]; exact (show fa_MS (v2789 400) from by rw [e2790, fa_u_k _ _ (by decide)]; exact (show fa_MS (v2786 400) from by rw [e2787, fa_u_k _ _ (by decide)]; exact (show fa_MS (v2784 400) from by rw [h2782.1.2.1 400 (by decide) (by decide)]; exact hi_21.2.1.2.2.1))))), (show fa_MB (v2795 401) from by rw [e2796, fa_u_k _ _ (by decide)]; exact (show fa_MB (v2792 401) from by rw [e2793, fa_u_k _ _ (by decide)]; exact (show fa_MB (v2789 401) from by rw [e2790, fa_u_k _ _ (by decide)]; exact (show fa_MB (v2786 401) from by rw [e2787, fa_u_k _ _ (by decide)]; exact (show fa_MB (v2784 401) from by rw [h2782.1.2.1 401 (by decide) (by decide)]; exact hi_21.2.1.2.2.2.1))))), ⟨n10x, by omega, (by rw [e2796, fa_u_n _ _ (by omega)]; exact (by rw [e2793, fa_u_n _ _ (by omega)]; exact (by rw [e2790, fa_u_n _ _ (by omega)]; exact (by rw [e2787, fa_u_n _ _ (by omega)]; exact (by rw [h2782.2 _ (by omega)]; exact g10x)))))⟩, ⟨n9, by omega, (by rw [e2796, fa_u_n _ _ (by omega)]; exact (by rw [e2793, fa_u_n _ _ (by omega)]; exact (by rw [e2790, fa_u_n _ _ (by omega)]; exact (by rw [e2787, fa_u_n _ _ (by omega)]; exact (by rw [h2782.2 _ (by omega)]; exact (hi_21.2.2.1.trans g9))))))⟩⟩), (show v2795 397 9 = v 397 9 from ((show v2795 397 9 = nI (n9) from (by rw [e2796, fa_u_n _ _ (by omega)]; exact (by rw [e2793, fa_u_n _ _ (by omega)]; exact (by rw [e2790, fa_u_n _ _ (by omega)]; exact (by rw [e2787, fa_u_n _ _ (by omega)]; exact (by rw [h2782.2 _ (by omega)]; exact (hi_21.2.2.1.trans g9))))))).trans g9.symm)), (show v2795 397 11 = nI ox from (by rw [e2796, fa_u_n _ _ (by omega)]; exact (by rw [e2793, fa_u_n _ _ (by omega)]; exact (by rw [e2790, fa_u_n _ _ (by omega)]; exact (by rw [e2787, fa_u_n _ _ (by omega)]; exact (by rw [h2782.2 _ (by omega)]; exact hi_21.2.2.2.1)))))), (by rw [e2796]; exact fa_fr.u (by rw [e2793]; exact fa_fr.u (by rw [e2790]; exact fa_fr.u (by rw [e2787]; exact fa_fr.u (fa_fr.tr (fa_fr.tr fa_fr.rf (fa_fr.wide hi_21.2.2.2.2.1 (by omega) (by omega))) (fa_fr.wide h2782.2 (by omega) (by omega))) (by omega)) (by omega)) (by omega)) (by omega)), (fun A H hV => fb_mzI.er (fb_mzI.s hV.1 (hi_21.2.2.2.2.2 A H hV) c_25 (by omega) h2782.1.2.1 h_does) (fun z => z.elim c_43 c_49) e2787 e2790 e2793 e2796)⟩) (lv_sub hl [1, 2] rfl) HX2797
    exact LOOP_21 ((ox - 0) + (if v2769 397 8 = 0 then 1 else 0) + 1) (0) v2769 _ _ _ (Nat.lt_succ_self _) (⟨Nat.zero_le _, (show fa_MJ v2769 from ⟨(show fa_MS (v2769 398) from by rw [e2770, fa_u_k _ _ (by decide)]; exact (show fa_MS (v2767 398) from by rw [h2766.2 398 (by omega)]; exact (hJ_v2764).1)), (show fa_MS (v2769 399) from by rw [e2770, fa_u_k _ _ (by decide)]; exact (fa_MS.cp (hJ_v2764).1 h2766.1)), (show fa_MS (v2769 400) from by rw [e2770, fa_u_k _ _ (by decide)]; exact (show fa_MS (v2767 400) from by rw [h2766.2 400 (by omega)]; exact (hJ_v2764).2.2.1)), (show fa_MB (v2769 401) from by rw [e2770, fa_u_k _ _ (by decide)]; exact (show fa_MB (v2767 401) from by rw [h2766.2 401 (by omega)]; exact (hJ_v2764).2.2.2.1)), ⟨n10_v2764, by omega, (by rw [e2770, fa_u_n _ _ (by omega)]; exact (by rw [h2766.2 _ (by omega)]; exact g10_v2764))⟩, ⟨n9, by omega, (by rw [e2770, fa_u_n _ _ (by omega)]; exact (by rw [h2766.2 _ (by omega)]; exact ((h2762.1.2.1).trans g9)))⟩⟩), (show v2769 397 9 = v 397 9 from ((show v2769 397 9 = nI (n9) from (by rw [e2770, fa_u_n _ _ (by omega)]; exact (by rw [h2766.2 _ (by omega)]; exact ((h2762.1.2.1).trans g9)))).trans g9.symm)), (show v2769 397 11 = nI ox from (by rw [e2770, fa_u_n _ _ (by omega)]; exact (by rw [h2766.2 _ (by omega)]; exact gox))), (by rw [e2770]; exact fa_fr.u (fa_fr.tr (fa_fr.tr fa_fr.rf (fa_fr.wide h2762.2 (by omega) (by omega))) (fa_fr.wide h2766.2 (by omega) (by omega))) (by omega)), (fun A H hV => fb_mzI.start hV hfx h2766.2 h_hold e2770 (fun k hk => hrd k (by omega)))⟩) (lv_sub hl [1, 0] rfl) HX2771
  · refine lv_bipush (v := (-3 : Int32)) hx hb dX7_run_7 (by decide) ?_
    exact RET _ _ _ _ _ _ _ HX2765 dX7_run_9 (⟨rfl, ⟨⟨hJ_v2764, (show v2764 397 9 = v 397 9 from ((show v2764 397 9 = nI (n9) from ((h2762.1.2.1).trans g9)).trans g9.symm)), (fun A H hV => Or.inl ⟨jx, yx, hjx, hFR, (fun z => c_4 (by rw [hyx, if_pos z]; decide)), rfl, (hV.cong (fun i _ => congrFun (hfx.1 398 (by decide) (by decide)) i) (hfx.2 10 (by decide) (by decide)) (hfx.1 401 (by decide) (by decide))), hfx.2 8 (by decide) (by decide), h2762.2 404 (by omega)⟩)⟩, (fa_fr.tr fa_fr.rf (fa_fr.wide h2762.2 (by omega) (by omega)))⟩⟩)
set_option maxHeartbeats 4000000 in
set_option maxRecDepth 100000 in
theorem r_why (l : Launch) (G : fa_G) (n : Nat) (hn : 406 ≤ n) (v : fa_V) (r : fa_R) (hM : fa_RM r) (hJ : fa_MJ v) (a1 : Int32) : fa_MI l G n yX7_why cX7_why 2 (some .int) 2 [.ref (fa_B G + (397)), .int (a1)] v r (fun x w => w = (v, r) ∧ (x = fb_whm (v 397 8) (v 404) a1)) := by
  refine fa_startI (by decide +kernel) (Nat.le_of_ble_eq_true rfl) (fun p e s m args below meth c ls Q CX hl HX RET => ?_)
  have hl : lv_has ls 2 [(0, .ref (fa_B G + (397))), (1, .int (a1))] := hl
  have hx := CX.1.1
  have hb := CX.1.2.1
  have hS := hJ.1
  obtain ⟨n4, en4⟩ : ∃ m, m = fa_N (v 398 14) := ⟨_, rfl⟩
  obtain ⟨hn4, g4⟩ := hS.n4 en4
  obtain ⟨n5, en5⟩ : ∃ m, m = fa_N (v 398 15) := ⟨_, rfl⟩
  obtain ⟨hn5, g5⟩ := hS.n5 en5
  obtain ⟨n6, en6⟩ : ∃ m, m = fa_N (v 398 16) := ⟨_, rfl⟩
  obtain ⟨hn6, g6⟩ := hS.n6 en6
  obtain ⟨n10, hn10, g10⟩ := hJ.2.2.2.2.1
  obtain ⟨n9, hn9, g9⟩ := hJ.2.2.2.2.2
  refine lv_iload_n hx hb dX7_why_0 rfl (lv_at hl 1 rfl) ?_
  refine lv_iconst (v := nI (0)) hx hb dX7_why_1 (by decide) ?_
  refine lv_iconst (v := nI (2)) hx hb dX7_why_2 (by decide) ?_
  refine fa_callSip (As := [.int (a1), .int (nI (0)), .int (nI (2))]) (rest := []) CX HX (r_in l G n v r (a1) (nI (0)) (nI (2))) ln_X7_86 rfl rfl (Nat.le_of_ble_eq_true rfl) hl.1 ⟨Nat.le_of_ble_eq_true rfl, Nat.le_of_ble_eq_true rfl⟩ ⟨Nat.le_refl _, Nat.le_refl _⟩ dX7_why_3 (fun x2799 H locs h2798 HX2800 => ?_)
  have h_in_3 := h2798
  refine lv_if_ne (tgt := 14) hx hb dX7_why_6 (by decide) (fun c_6 => ?_) (fun c_6 => ?_)
  · obtain ⟨ja, hja, eja⟩ := fa_inN (by decide) (fa_in1 h_in_3 c_6)
    refine lv_aload_n hx hb dX7_why_14 rfl (lv_at hl 0 rfl) ?_
    refine fa_geti (k := 397) CX HX2800 fl_X7_158 (by omega) rfl rfl dX7_why_15 ?_
    refine lv_if_eq (tgt := 30) hx hb dX7_why_18 (by decide) (fun c_18 => ?_) (fun c_18 => ?_)
    · refine lv_bipush (v := (-6 : Int32)) hx hb dX7_why_30 (by decide) ?_
      exact RET _ _ _ _ _ _ _ HX2800 dX7_why_32 (⟨rfl, (by rw [fb_whm, if_neg (fun z => fa_in1 h_in_3 c_6 ((fb_m_in2 a1).mpr z)), if_pos c_18])⟩)
    · refine lv_aload_n hx hb dX7_why_21 rfl (lv_at hl 0 rfl) ?_
      refine fa_getr (k := 397) (j := 404) CX HX2800 fl_X7_29 (by omega) rfl rfl hM.2.2.2.2.2.2.1 dX7_why_22 ?_
      refine lv_iload_n hx hb dX7_why_25 rfl (lv_at hl 1 rfl) ?_
      rw [show a1 = nI (ja) from eja]
      refine fa_iald (k := 404) (j := ja) CX HX2800 (by omega) rfl (by omega) (by first | decide | assumption) dX7_why_26 ?_
      refine lv_goto (tgt := 32) hx hb dX7_why_27 (by decide) ?_
      exact RET _ _ _ _ _ _ _ HX2800 dX7_why_32 (⟨rfl, (by rw [fb_whm, if_neg (fun z => fa_in1 h_in_3 c_6 ((fb_m_in2 a1).mpr z)), if_neg c_18, eja, fa_N_nI (by omega)])⟩)
  · refine lv_bipush (v := (-2 : Int32)) hx hb dX7_why_9 (by decide) ?_
    refine lv_goto (tgt := 32) hx hb dX7_why_11 (by decide) ?_
    exact RET _ _ _ _ _ _ _ HX2800 dX7_why_32 (⟨rfl, (by rw [fb_whm, if_pos ((fb_m_in2 a1).mp (fa_in0 h_in_3 (by first | exact c_6 | exact Decidable.not_not.mp c_6)))])⟩)
set_option maxHeartbeats 4000000 in
set_option maxRecDepth 100000 in
theorem r_now (l : Launch) (G : fa_G) (n : Nat) (hn : 406 ≤ n) (v : fa_V) (r : fa_R) (hM : fa_RM r) (hJ : fa_MJ v) : fa_MI l G n yX7_now cX7_now 1 (some .int) 1 [.ref (fa_B G + (397))] v r (fun x w => w = (v, r) ∧ (x = v 398 7)) := by
  refine fa_startI (by decide +kernel) (Nat.le_of_ble_eq_true rfl) (fun p e s m args below meth c ls Q CX hl HX RET => ?_)
  have hl : lv_has ls 1 [(0, .ref (fa_B G + (397)))] := hl
  have hx := CX.1.1
  have hb := CX.1.2.1
  have hS := hJ.1
  obtain ⟨n4, en4⟩ : ∃ m, m = fa_N (v 398 14) := ⟨_, rfl⟩
  obtain ⟨hn4, g4⟩ := hS.n4 en4
  obtain ⟨n5, en5⟩ : ∃ m, m = fa_N (v 398 15) := ⟨_, rfl⟩
  obtain ⟨hn5, g5⟩ := hS.n5 en5
  obtain ⟨n6, en6⟩ : ∃ m, m = fa_N (v 398 16) := ⟨_, rfl⟩
  obtain ⟨hn6, g6⟩ := hS.n6 en6
  obtain ⟨n10, hn10, g10⟩ := hJ.2.2.2.2.1
  obtain ⟨n9, hn9, g9⟩ := hJ.2.2.2.2.2
  refine lv_aload_n hx hb dX7_now_0 rfl (lv_at hl 0 rfl) ?_
  refine fa_getr (k := 397) (j := 398) CX HX fl_X7_7 (by omega) rfl rfl hM.1 dX7_now_1 ?_
  refine lv_bipush (v := nI (7)) hx hb dX7_now_4 (by decide) ?_
  refine fa_iald (k := 398) (j := 7) CX HX (by omega) rfl (by omega) (by first | decide | assumption) dX7_now_6 ?_
  exact RET _ _ _ _ _ _ _ HX dX7_now_7 (⟨rfl, rfl⟩)
set_option maxHeartbeats 4000000 in
set_option maxRecDepth 100000 in
theorem r_count (l : Launch) (G : fa_G) (n : Nat) (hn : 406 ≤ n) (v : fa_V) (r : fa_R) (hM : fa_RM r) (hJ : fa_MJ v) (a1 : Int32) : fa_MI l G n yX7_count cX7_count 2 (some .int) 3 [.ref (fa_B G + (397)), .int (a1)] v r (fun x w => w = (v, r) ∧ (∀ A, fb_okA A → fb_mA (v 398) A → x = fb_cntA A a1)) := by
  refine fa_startI (by decide +kernel) (Nat.le_of_ble_eq_true rfl) (fun p e s m args below meth c ls Q CX hl HX RET => ?_)
  have hl : lv_has ls 2 [(0, .ref (fa_B G + (397))), (1, .int (a1))] := hl
  have hx := CX.1.1
  have hb := CX.1.2.1
  have hS := hJ.1
  obtain ⟨n4, en4⟩ : ∃ m, m = fa_N (v 398 14) := ⟨_, rfl⟩
  obtain ⟨hn4, g4⟩ := hS.n4 en4
  obtain ⟨n5, en5⟩ : ∃ m, m = fa_N (v 398 15) := ⟨_, rfl⟩
  obtain ⟨hn5, g5⟩ := hS.n5 en5
  obtain ⟨n6, en6⟩ : ∃ m, m = fa_N (v 398 16) := ⟨_, rfl⟩
  obtain ⟨hn6, g6⟩ := hS.n6 en6
  obtain ⟨n10, hn10, g10⟩ := hJ.2.2.2.2.1
  obtain ⟨n9, hn9, g9⟩ := hJ.2.2.2.2.2
  refine lv_iload_n hx hb dX7_count_0 rfl (lv_at hl 1 rfl) ?_
  by_cases c_1_0 : a1 = (0 : Int32)
  · refine lv_tableIn (off := 55) (tgt := 56) hx hb dX7_count_1 (by rw [c_1_0]; decide) (by rw [c_1_0]; decide) (by rw [c_1_0]; decide) (by decide) ?_
    refine lv_aload_n hx hb dX7_count_56 rfl (lv_at hl 0 rfl) ?_
    refine fa_getr (k := 397) (j := 398) CX HX fl_X7_7 (by omega) rfl rfl hM.1 dX7_count_57 ?_
    refine lv_bipush (v := nI (14)) hx hb dX7_count_60 (by decide) ?_
    refine fa_iald (k := 398) (j := 14) CX HX (by omega) rfl (by omega) (by first | decide | assumption) dX7_count_62 ?_
    rw [show v 398 14 = nI (n4) from g4]
    exact RET _ _ _ _ _ _ _ HX dX7_count_63 (⟨rfl, (fun A hok hc => by (rw [fb_cntA_0 c_1_0]; exact g4.symm.trans hc.n4))⟩)
  by_cases c_1_1 : a1 = (1 : Int32)
  · refine lv_tableIn (off := 63) (tgt := 64) hx hb dX7_count_1 (by rw [c_1_1]; decide) (by rw [c_1_1]; decide) (by rw [c_1_1]; decide) (by decide) ?_
    refine lv_aload_n hx hb dX7_count_64 rfl (lv_at hl 0 rfl) ?_
    refine fa_getr (k := 397) (j := 398) CX HX fl_X7_7 (by omega) rfl rfl hM.1 dX7_count_65 ?_
    refine lv_bipush (v := nI (8)) hx hb dX7_count_68 (by decide) ?_
    refine fa_iald (k := 398) (j := 8) CX HX (by omega) rfl (by omega) (by first | decide | assumption) dX7_count_70 ?_
    exact RET _ _ _ _ _ _ _ HX dX7_count_71 (⟨rfl, (fun A hok hc => by (rw [fb_cntA_1 c_1_1]; exact hc.g (k := 8) (by decide)))⟩)
  by_cases c_1_2 : a1 = (2 : Int32)
  · refine lv_tableIn (off := 71) (tgt := 72) hx hb dX7_count_1 (by rw [c_1_2]; decide) (by rw [c_1_2]; decide) (by rw [c_1_2]; decide) (by decide) ?_
    refine lv_aload_n hx hb dX7_count_72 rfl (lv_at hl 0 rfl) ?_
    refine fa_callVip (As := []) (rest := []) CX HX (r_pages l G n hn v r hM hJ.1 ) ln_X7_90 (by omega) rfl rfl rfl rfl (Nat.le_of_ble_eq_true rfl) hl.1 ⟨Nat.le_of_ble_eq_true rfl, Nat.le_of_ble_eq_true rfl⟩ ⟨Nat.le_refl _, Nat.le_refl _⟩ dX7_count_73 (fun x2802 H locs h2801 HX2803 => ?_)
    have h_pages := h2801
    exact RET _ _ _ _ _ _ _ HX2803 dX7_count_76 (⟨rfl, (fun A hok hc => by (rw [fb_cntA_2 c_1_2]; exact h_pages.trans hc.pgs))⟩)
  by_cases c_1_3 : a1 = (3 : Int32)
  · refine lv_tableIn (off := 76) (tgt := 77) hx hb dX7_count_1 (by rw [c_1_3]; decide) (by rw [c_1_3]; decide) (by rw [c_1_3]; decide) (by decide) ?_
    refine lv_aload_n hx hb dX7_count_77 rfl (lv_at hl 0 rfl) ?_
    refine fa_getr (k := 397) (j := 398) CX HX fl_X7_7 (by omega) rfl rfl hM.1 dX7_count_78 ?_
    refine lv_bipush (v := nI (9)) hx hb dX7_count_81 (by decide) ?_
    refine lv_iload_n hx hb dX7_count_83 rfl (lv_at hl 1 rfl) ?_
    rw [show a1 = nI (3) from c_1_3]
    refine fa_iaddN hx hb dX7_count_84 ?_
    refine lv_iconst (v := nI (3)) hx hb dX7_count_85 (by decide) ?_
    refine fa_isubN hx hb dX7_count_86 (by decide) ?_
    refine fa_iald (k := 398) (j := (9 + 3) - 3) CX HX (by omega) rfl (by omega) (by first | decide | assumption) dX7_count_87 ?_
    exact RET _ _ _ _ _ _ _ HX dX7_count_88 (⟨rfl, (fun A hok hc => by (rw [fb_cntA_3 c_1_3]; exact hc.g (k := 9) (by decide)))⟩)
  by_cases c_1_4 : a1 = (4 : Int32)
  · refine lv_tableIn (off := 76) (tgt := 77) hx hb dX7_count_1 (by rw [c_1_4]; decide) (by rw [c_1_4]; decide) (by rw [c_1_4]; decide) (by decide) ?_
    refine lv_aload_n hx hb dX7_count_77 rfl (lv_at hl 0 rfl) ?_
    refine fa_getr (k := 397) (j := 398) CX HX fl_X7_7 (by omega) rfl rfl hM.1 dX7_count_78 ?_
    refine lv_bipush (v := nI (9)) hx hb dX7_count_81 (by decide) ?_
    refine lv_iload_n hx hb dX7_count_83 rfl (lv_at hl 1 rfl) ?_
    rw [show a1 = nI (4) from c_1_4]
    refine fa_iaddN hx hb dX7_count_84 ?_
    refine lv_iconst (v := nI (3)) hx hb dX7_count_85 (by decide) ?_
    refine fa_isubN hx hb dX7_count_86 (by decide) ?_
    refine fa_iald (k := 398) (j := (9 + 4) - 3) CX HX (by omega) rfl (by omega) (by first | decide | assumption) dX7_count_87 ?_
    exact RET _ _ _ _ _ _ _ HX dX7_count_88 (⟨rfl, (fun A hok hc => by (rw [fb_cntA_4 c_1_4]; exact hc.g (k := 10) (by decide)))⟩)
  by_cases c_1_5 : a1 = (5 : Int32)
  · refine lv_tableIn (off := 76) (tgt := 77) hx hb dX7_count_1 (by rw [c_1_5]; decide) (by rw [c_1_5]; decide) (by rw [c_1_5]; decide) (by decide) ?_
    refine lv_aload_n hx hb dX7_count_77 rfl (lv_at hl 0 rfl) ?_
    refine fa_getr (k := 397) (j := 398) CX HX fl_X7_7 (by omega) rfl rfl hM.1 dX7_count_78 ?_
    refine lv_bipush (v := nI (9)) hx hb dX7_count_81 (by decide) ?_
    refine lv_iload_n hx hb dX7_count_83 rfl (lv_at hl 1 rfl) ?_
    rw [show a1 = nI (5) from c_1_5]
    refine fa_iaddN hx hb dX7_count_84 ?_
    refine lv_iconst (v := nI (3)) hx hb dX7_count_85 (by decide) ?_
    refine fa_isubN hx hb dX7_count_86 (by decide) ?_
    refine fa_iald (k := 398) (j := (9 + 5) - 3) CX HX (by omega) rfl (by omega) (by first | decide | assumption) dX7_count_87 ?_
    exact RET _ _ _ _ _ _ _ HX dX7_count_88 (⟨rfl, (fun A hok hc => by (rw [fb_cntA_5 c_1_5]; exact hc.g (k := 11) (by decide)))⟩)
  by_cases c_1_6 : a1 = (6 : Int32)
  · refine lv_tableIn (off := 76) (tgt := 77) hx hb dX7_count_1 (by rw [c_1_6]; decide) (by rw [c_1_6]; decide) (by rw [c_1_6]; decide) (by decide) ?_
    refine lv_aload_n hx hb dX7_count_77 rfl (lv_at hl 0 rfl) ?_
    refine fa_getr (k := 397) (j := 398) CX HX fl_X7_7 (by omega) rfl rfl hM.1 dX7_count_78 ?_
    refine lv_bipush (v := nI (9)) hx hb dX7_count_81 (by decide) ?_
    refine lv_iload_n hx hb dX7_count_83 rfl (lv_at hl 1 rfl) ?_
    rw [show a1 = nI (6) from c_1_6]
    refine fa_iaddN hx hb dX7_count_84 ?_
    refine lv_iconst (v := nI (3)) hx hb dX7_count_85 (by decide) ?_
    refine fa_isubN hx hb dX7_count_86 (by decide) ?_
    refine fa_iald (k := 398) (j := (9 + 6) - 3) CX HX (by omega) rfl (by omega) (by first | decide | assumption) dX7_count_87 ?_
    exact RET _ _ _ _ _ _ _ HX dX7_count_88 (⟨rfl, (fun A hok hc => by (rw [fb_cntA_6 c_1_6]; exact hc.g (k := 12) (by decide)))⟩)
  by_cases c_1_7 : a1 = (7 : Int32)
  · refine lv_tableIn (off := 76) (tgt := 77) hx hb dX7_count_1 (by rw [c_1_7]; decide) (by rw [c_1_7]; decide) (by rw [c_1_7]; decide) (by decide) ?_
    refine lv_aload_n hx hb dX7_count_77 rfl (lv_at hl 0 rfl) ?_
    refine fa_getr (k := 397) (j := 398) CX HX fl_X7_7 (by omega) rfl rfl hM.1 dX7_count_78 ?_
    refine lv_bipush (v := nI (9)) hx hb dX7_count_81 (by decide) ?_
    refine lv_iload_n hx hb dX7_count_83 rfl (lv_at hl 1 rfl) ?_
    rw [show a1 = nI (7) from c_1_7]
    refine fa_iaddN hx hb dX7_count_84 ?_
    refine lv_iconst (v := nI (3)) hx hb dX7_count_85 (by decide) ?_
    refine fa_isubN hx hb dX7_count_86 (by decide) ?_
    refine fa_iald (k := 398) (j := (9 + 7) - 3) CX HX (by omega) rfl (by omega) (by first | decide | assumption) dX7_count_87 ?_
    exact RET _ _ _ _ _ _ _ HX dX7_count_88 (⟨rfl, (fun A hok hc => by (rw [fb_cntA_7 c_1_7]; exact hc.g (k := 13) (by decide)))⟩)
  by_cases c_1_8 : a1 = (8 : Int32)
  · refine lv_tableIn (off := 88) (tgt := 89) hx hb dX7_count_1 (by rw [c_1_8]; decide) (by rw [c_1_8]; decide) (by rw [c_1_8]; decide) (by decide) ?_
    refine lv_aload_n hx hb dX7_count_89 rfl (lv_at hl 0 rfl) ?_
    refine fa_getr (k := 397) (j := 398) CX HX fl_X7_7 (by omega) rfl rfl hM.1 dX7_count_90 ?_
    refine lv_bipush (v := nI (15)) hx hb dX7_count_93 (by decide) ?_
    refine fa_iald (k := 398) (j := 15) CX HX (by omega) rfl (by omega) (by first | decide | assumption) dX7_count_95 ?_
    rw [show v 398 15 = nI (n5) from g5]
    exact RET _ _ _ _ _ _ _ HX dX7_count_96 (⟨rfl, (fun A hok hc => by (rw [fb_cntA_8 c_1_8]; exact g5.symm.trans hc.n5))⟩)
  by_cases c_1_9 : a1 = (9 : Int32)
  · refine lv_tableIn (off := 96) (tgt := 97) hx hb dX7_count_1 (by rw [c_1_9]; decide) (by rw [c_1_9]; decide) (by rw [c_1_9]; decide) (by decide) ?_
    refine lv_aload_n hx hb dX7_count_97 rfl (lv_at hl 0 rfl) ?_
    refine fa_getr (k := 397) (j := 398) CX HX fl_X7_7 (by omega) rfl rfl hM.1 dX7_count_98 ?_
    refine lv_bipush (v := nI (16)) hx hb dX7_count_101 (by decide) ?_
    refine fa_iald (k := 398) (j := 16) CX HX (by omega) rfl (by omega) (by first | decide | assumption) dX7_count_103 ?_
    rw [show v 398 16 = nI (n6) from g6]
    exact RET _ _ _ _ _ _ _ HX dX7_count_104 (⟨rfl, (fun A hok hc => by (rw [fb_cntA_9 c_1_9]; exact g6.symm.trans hc.m6))⟩)
  have hout_1 : (a1).toInt < 0 ∨ 9 < (a1).toInt := by
    have z0 := lv_neT (a := 0) c_1_0 (by decide)
    have z1 := lv_neT (a := 1) c_1_1 (by decide)
    have z2 := lv_neT (a := 2) c_1_2 (by decide)
    have z3 := lv_neT (a := 3) c_1_3 (by decide)
    have z4 := lv_neT (a := 4) c_1_4 (by decide)
    have z5 := lv_neT (a := 5) c_1_5 (by decide)
    have z6 := lv_neT (a := 6) c_1_6 (by decide)
    have z7 := lv_neT (a := 7) c_1_7 (by decide)
    have z8 := lv_neT (a := 8) c_1_8 (by decide)
    have z9 := lv_neT (a := 9) c_1_9 (by decide)
    omega
  refine lv_tableOut (tgt := 105) hx hb dX7_count_1 hout_1 (by decide) ?_
  refine lv_bipush (v := (-2 : Int32)) hx hb dX7_count_105 (by decide) ?_
  exact RET _ _ _ _ _ _ _ HX dX7_count_107 (⟨rfl, (fun A hok hc => (fb_cntA_o c_1_0 c_1_1 c_1_2 c_1_3 c_1_4 c_1_5 c_1_6 c_1_7 c_1_8 c_1_9).symm)⟩)
set_option maxHeartbeats 4000000 in
set_option maxRecDepth 100000 in
theorem r_fileAt (l : Launch) (G : fa_G) (n : Nat) (hn : 406 ≤ n) (v : fa_V) (r : fa_R) (hM : fa_RM r) (hJ : fa_MJ v) (a1 : Int32) : fa_MI l G n yX7_fileAt cX7_fileAt 2 (some .int) 2 [.ref (fa_B G + (397)), .int (a1)] v r (fun x w => w = (v, r) ∧ (∀ A, fb_okA A → fb_mA (v 398) A → x = fb_fatA A a1)) := by
  refine fa_startI (by decide +kernel) (Nat.le_of_ble_eq_true rfl) (fun p e s m args below meth c ls Q CX hl HX RET => ?_)
  have hl : lv_has ls 2 [(0, .ref (fa_B G + (397))), (1, .int (a1))] := hl
  have hx := CX.1.1
  have hb := CX.1.2.1
  have hS := hJ.1
  obtain ⟨n4, en4⟩ : ∃ m, m = fa_N (v 398 14) := ⟨_, rfl⟩
  obtain ⟨hn4, g4⟩ := hS.n4 en4
  obtain ⟨n5, en5⟩ : ∃ m, m = fa_N (v 398 15) := ⟨_, rfl⟩
  obtain ⟨hn5, g5⟩ := hS.n5 en5
  obtain ⟨n6, en6⟩ : ∃ m, m = fa_N (v 398 16) := ⟨_, rfl⟩
  obtain ⟨hn6, g6⟩ := hS.n6 en6
  obtain ⟨n10, hn10, g10⟩ := hJ.2.2.2.2.1
  obtain ⟨n9, hn9, g9⟩ := hJ.2.2.2.2.2
  refine lv_iload_n hx hb dX7_fileAt_0 rfl (lv_at hl 1 rfl) ?_
  refine lv_if_ge (tgt := 9) hx hb dX7_fileAt_1 (by decide) (fun c_1 => ?_) (fun c_1 => ?_)
  · refine lv_iload_n hx hb dX7_fileAt_9 rfl (lv_at hl 1 rfl) ?_
    refine lv_aload_n hx hb dX7_fileAt_10 rfl (lv_at hl 0 rfl) ?_
    refine fa_getr (k := 397) (j := 398) CX HX fl_X7_7 (by omega) rfl rfl hM.1 dX7_fileAt_11 ?_
    refine lv_bipush (v := nI (14)) hx hb dX7_fileAt_14 (by decide) ?_
    refine fa_iald (k := 398) (j := 14) CX HX (by omega) rfl (by omega) (by first | decide | assumption) dX7_fileAt_16 ?_
    rw [show v 398 14 = nI (n4) from g4]
    refine lv_icmp_ge (tgt := 32) hx hb dX7_fileAt_17 (by decide) (fun c_17 => ?_) (fun c_17 => ?_)
    · refine lv_bipush (v := (-6 : Int32)) hx hb dX7_fileAt_32 (by decide) ?_
      exact RET _ _ _ _ _ _ _ HX dX7_fileAt_34 (⟨rfl, (fun A hok hc => by (have e : A.n = n4 := (by rw [← hc.n, ← en4]); rw [fb_fatA, if_neg (Int32.not_lt.mpr c_1), if_pos (by rw [e]; exact Int32.not_lt.mpr c_17)]))⟩)
    · obtain ⟨ja, hja, eja⟩ := fa_ixN (by omega) (Int32.not_lt.mpr c_1) (Int32.not_le.mp c_17)
      refine lv_aload_n hx hb dX7_fileAt_20 rfl (lv_at hl 0 rfl) ?_
      refine fa_getr (k := 397) (j := 398) CX HX fl_X7_7 (by omega) rfl rfl hM.1 dX7_fileAt_21 ?_
      refine lv_iload_n hx hb dX7_fileAt_24 rfl (lv_at hl 1 rfl) ?_
      rw [show a1 = nI (ja) from eja]
      refine fa_callSip (As := [.int (nI (ja))]) (rest := [.ref (fa_B G + (398))]) CX HX (r_f l G n v r (ja)) ln_X7_36 rfl rfl (Nat.le_of_ble_eq_true rfl) hl.1 ⟨Nat.le_of_ble_eq_true rfl, Nat.le_of_ble_eq_true rfl⟩ ⟨Nat.le_refl _, Nat.le_refl _⟩ dX7_fileAt_25 (fun x2805 H locs h2804 HX2806 => ?_)
      subst h2804
      refine fa_iald (k := 398) (j := 17 + 15 * ja) CX HX2806 (by omega) rfl (by omega) (by first | decide | assumption) dX7_fileAt_28 ?_
      refine lv_goto (tgt := 34) hx hb dX7_fileAt_29 (by decide) ?_
      exact RET _ _ _ _ _ _ _ HX2806 dX7_fileAt_34 (⟨rfl, (fun A hok hc => by (have e : A.n = n4 := (by rw [← hc.n, ← en4]); rw [fb_fatA, if_neg (Int32.not_lt.mpr c_1), if_neg (fun z => z (by rw [e]; exact Int32.not_le.mp c_17)), eja, fa_N_nI (by omega)]; exact hc.F0 (by omega)))⟩)
  · refine lv_bipush (v := (-2 : Int32)) hx hb dX7_fileAt_4 (by decide) ?_
    refine lv_goto (tgt := 34) hx hb dX7_fileAt_6 (by decide) ?_
    exact RET _ _ _ _ _ _ _ HX dX7_fileAt_34 (⟨rfl, (fun A hok hc => by (rw [fb_fatA, if_pos (Int32.not_le.mp c_1)]))⟩)
set_option maxHeartbeats 4000000 in
set_option maxRecDepth 100000 in
theorem r_file (l : Launch) (G : fa_G) (n : Nat) (hn : 406 ≤ n) (v : fa_V) (r : fa_R) (hM : fa_RM r) (hJ : fa_MJ v) (a1 : Int32) (a2 : Int32) : fa_MI l G n yX7_file cX7_file 5 (some .int) 6 [.ref (fa_B G + (397)), .int (a1), .int (a2)] v r (fun x w => w = (v, r) ∧ (∀ A, fb_okA A → fb_mA (v 398) A → x = fb_filA A a1 a2)) := by
  refine fa_startI (by decide +kernel) (Nat.le_of_ble_eq_true rfl) (fun p e s m args below meth c ls Q CX hl HX RET => ?_)
  have hl : lv_has ls 5 [(0, .ref (fa_B G + (397))), (1, .int (a1)), (2, .int (a2))] := hl
  have hx := CX.1.1
  have hb := CX.1.2.1
  have hS := hJ.1
  obtain ⟨n4, en4⟩ : ∃ m, m = fa_N (v 398 14) := ⟨_, rfl⟩
  obtain ⟨hn4, g4⟩ := hS.n4 en4
  obtain ⟨n5, en5⟩ : ∃ m, m = fa_N (v 398 15) := ⟨_, rfl⟩
  obtain ⟨hn5, g5⟩ := hS.n5 en5
  obtain ⟨n6, en6⟩ : ∃ m, m = fa_N (v 398 16) := ⟨_, rfl⟩
  obtain ⟨hn6, g6⟩ := hS.n6 en6
  obtain ⟨n10, hn10, g10⟩ := hJ.2.2.2.2.1
  obtain ⟨n9, hn9, g9⟩ := hJ.2.2.2.2.2
  refine lv_aload_n hx hb dX7_file_0 rfl (lv_at hl 0 rfl) ?_
  refine lv_iload_n hx hb dX7_file_1 rfl (lv_at hl 1 rfl) ?_
  refine fa_callVip (As := [.int (a1)]) (rest := []) CX HX (r_placeOf l G n hn v r hM hJ.1 (a1)) ln_X7_60 (by omega) rfl rfl rfl rfl (Nat.le_of_ble_eq_true rfl) hl.1 ⟨Nat.le_of_ble_eq_true rfl, Nat.le_of_ble_eq_true rfl⟩ ⟨Nat.le_refl _, Nat.le_refl _⟩ dX7_file_2 (fun x2808 H locs h2807 HX2809 => ?_)
  have h_pl2 := h2807.1
  have h_plm2 := h2807.2
  refine lv_istore_n (lv' := [(3, .int (x2808)), (0, .ref (fa_B G + (397))), (1, .int (a1)), (2, .int (a2))]) hx hb dX7_file_5 rfl hl (by decide) rfl (fun ls hl => ?_)
  refine lv_iload_n hx hb dX7_file_6 rfl (lv_at hl 0 rfl) ?_
  refine lv_iconst (v := (-1 : Int32)) hx hb dX7_file_7 (by decide) ?_
  refine lv_icmp_ne (tgt := 13) hx hb dX7_file_8 (by decide) (fun c_8 => ?_) (fun c_8 => ?_)
  · obtain ⟨tp, htp, etp⟩ := h_pl2.ne c_8
    refine lv_iload_n hx hb dX7_file_13 rfl (lv_at hl 0 rfl) ?_
    rw [show x2808 = nI (tp) from etp]
    refine fa_callSip (As := [.int (nI (tp))]) (rest := []) CX HX2809 (r_f l G n v r (tp)) ln_X7_36 rfl rfl (Nat.le_of_ble_eq_true rfl) hl.1 ⟨Nat.le_of_ble_eq_true rfl, Nat.le_of_ble_eq_true rfl⟩ ⟨Nat.le_refl _, Nat.le_refl _⟩ dX7_file_14 (fun x2811 H locs h2810 HX2812 => ?_)
    subst h2810
    refine lv_istore (lv' := [(4, .int (nI (17 + 15 * tp))), (3, .int (x2808)), (0, .ref (fa_B G + (397))), (1, .int (a1)), (2, .int (a2))]) hx hb dX7_file_17 hl (by decide) rfl (fun ls hl => ?_)
    refine lv_iload_n hx hb dX7_file_19 rfl (lv_at hl 4 rfl) ?_
    by_cases c_20_0 : a2 = (0 : Int32)
    · refine lv_tableIn (off := 56) (tgt := 76) hx hb dX7_file_20 (by rw [c_20_0]; decide) (by rw [c_20_0]; decide) (by rw [c_20_0]; decide) (by decide) ?_
      refine lv_aload_n hx hb dX7_file_76 rfl (lv_at hl 2 rfl) ?_
      refine fa_getr (k := 397) (j := 398) CX HX2812 fl_X7_7 (by omega) rfl rfl hM.1 dX7_file_77 ?_
      refine lv_iload hx hb dX7_file_80 (lv_at hl 0 rfl) ?_
      refine lv_iconst (v := nI (1)) hx hb dX7_file_82 (by decide) ?_
      refine fa_iaddN hx hb dX7_file_83 ?_
      refine lv_iload_n hx hb dX7_file_84 rfl (lv_at hl 4 rfl) ?_
      rw [show a2 = nI (0) from c_20_0]
      refine fa_iaddN hx hb dX7_file_85 ?_
      refine fa_iald (k := 398) (j := 17 + 15 * tp + 1 + 0) CX HX2812 (by omega) rfl (by omega) (by first | decide | assumption) dX7_file_86 ?_
      exact RET _ _ _ _ _ _ _ HX2812 dX7_file_87 (⟨rfl, (fun A hok hc => by (obtain ⟨p, hp, ep, ei, e0⟩ := fb_m_pl1 hc hok h_plm2 c_8; have et : tp = p := fa_nIinj (by omega) (by have := hok.1.1; omega) (etp.symm.trans ep); subst et; rw [fb_filA_s ei, fb_filP_0 c_20_0]; rw [show 17 + 15 * tp + 1 + 0 = 17 + 15 * tp + 1 by omega]; exact hc.F hp (by decide)))⟩)
    by_cases c_20_1 : a2 = (1 : Int32)
    · refine lv_tableIn (off := 56) (tgt := 76) hx hb dX7_file_20 (by rw [c_20_1]; decide) (by rw [c_20_1]; decide) (by rw [c_20_1]; decide) (by decide) ?_
      refine lv_aload_n hx hb dX7_file_76 rfl (lv_at hl 2 rfl) ?_
      refine fa_getr (k := 397) (j := 398) CX HX2812 fl_X7_7 (by omega) rfl rfl hM.1 dX7_file_77 ?_
      refine lv_iload hx hb dX7_file_80 (lv_at hl 0 rfl) ?_
      refine lv_iconst (v := nI (1)) hx hb dX7_file_82 (by decide) ?_
      refine fa_iaddN hx hb dX7_file_83 ?_
      refine lv_iload_n hx hb dX7_file_84 rfl (lv_at hl 4 rfl) ?_
      rw [show a2 = nI (1) from c_20_1]
      refine fa_iaddN hx hb dX7_file_85 ?_
      refine fa_iald (k := 398) (j := 17 + 15 * tp + 1 + 1) CX HX2812 (by omega) rfl (by omega) (by first | decide | assumption) dX7_file_86 ?_
      exact RET _ _ _ _ _ _ _ HX2812 dX7_file_87 (⟨rfl, (fun A hok hc => by (obtain ⟨p, hp, ep, ei, e0⟩ := fb_m_pl1 hc hok h_plm2 c_8; have et : tp = p := fa_nIinj (by omega) (by have := hok.1.1; omega) (etp.symm.trans ep); subst et; rw [fb_filA_s ei, fb_filP_1 c_20_1]; rw [show 17 + 15 * tp + 1 + 1 = 17 + 15 * tp + 2 by omega]; exact hc.F hp (by decide)))⟩)
    by_cases c_20_2 : a2 = (2 : Int32)
    · refine lv_tableIn (off := 56) (tgt := 76) hx hb dX7_file_20 (by rw [c_20_2]; decide) (by rw [c_20_2]; decide) (by rw [c_20_2]; decide) (by decide) ?_
      refine lv_aload_n hx hb dX7_file_76 rfl (lv_at hl 2 rfl) ?_
      refine fa_getr (k := 397) (j := 398) CX HX2812 fl_X7_7 (by omega) rfl rfl hM.1 dX7_file_77 ?_
      refine lv_iload hx hb dX7_file_80 (lv_at hl 0 rfl) ?_
      refine lv_iconst (v := nI (1)) hx hb dX7_file_82 (by decide) ?_
      refine fa_iaddN hx hb dX7_file_83 ?_
      refine lv_iload_n hx hb dX7_file_84 rfl (lv_at hl 4 rfl) ?_
      rw [show a2 = nI (2) from c_20_2]
      refine fa_iaddN hx hb dX7_file_85 ?_
      refine fa_iald (k := 398) (j := 17 + 15 * tp + 1 + 2) CX HX2812 (by omega) rfl (by omega) (by first | decide | assumption) dX7_file_86 ?_
      exact RET _ _ _ _ _ _ _ HX2812 dX7_file_87 (⟨rfl, (fun A hok hc => by (obtain ⟨p, hp, ep, ei, e0⟩ := fb_m_pl1 hc hok h_plm2 c_8; have et : tp = p := fa_nIinj (by omega) (by have := hok.1.1; omega) (etp.symm.trans ep); subst et; rw [fb_filA_s ei, fb_filP_2 c_20_2]; rw [show 17 + 15 * tp + 1 + 2 = 17 + 15 * tp + 3 by omega]; exact hc.F hp (by decide)))⟩)
    by_cases c_20_3 : a2 = (3 : Int32)
    · refine lv_tableIn (off := 68) (tgt := 88) hx hb dX7_file_20 (by rw [c_20_3]; decide) (by rw [c_20_3]; decide) (by rw [c_20_3]; decide) (by decide) ?_
      refine lv_aload_n hx hb dX7_file_88 rfl (lv_at hl 2 rfl) ?_
      refine fa_getr (k := 397) (j := 398) CX HX2812 fl_X7_7 (by omega) rfl rfl hM.1 dX7_file_89 ?_
      refine lv_iload hx hb dX7_file_92 (lv_at hl 0 rfl) ?_
      refine lv_iconst (v := nI (4)) hx hb dX7_file_94 (by decide) ?_
      refine fa_iaddN hx hb dX7_file_95 ?_
      refine fa_iald (k := 398) (j := 17 + 15 * tp + 4) CX HX2812 (by omega) rfl (by omega) (by first | decide | assumption) dX7_file_96 ?_
      refine lv_if_ge (tgt := 105) hx hb dX7_file_97 (by decide) (fun c_97 => ?_) (fun c_97 => ?_)
      · refine lv_aload_n hx hb dX7_file_105 rfl (lv_at hl 2 rfl) ?_
        refine fa_getr (k := 397) (j := 398) CX HX2812 fl_X7_7 (by omega) rfl rfl hM.1 dX7_file_106 ?_
        refine lv_iload hx hb dX7_file_109 (lv_at hl 0 rfl) ?_
        refine lv_iconst (v := nI (4)) hx hb dX7_file_111 (by decide) ?_
        refine fa_iaddN hx hb dX7_file_112 ?_
        refine fa_iald (k := 398) (j := 17 + 15 * tp + 4) CX HX2812 (by omega) rfl (by omega) (by first | decide | assumption) dX7_file_113 ?_
        exact RET _ _ _ _ _ _ _ HX2812 dX7_file_114 (⟨rfl, (fun A hok hc => by (obtain ⟨p, hp, ep, ei, e0⟩ := fb_m_pl1 hc hok h_plm2 c_8; have et : tp = p := fa_nIinj (by omega) (by have := hok.1.1; omega) (etp.symm.trans ep); subst et; rw [fb_filA_s ei, fb_filP_3 c_20_3]; rw [← hc.F hp (i := 4) (by decide)]; exact fb_m_m6t c_97))⟩)
      · refine lv_bipush (v := (-6 : Int32)) hx hb dX7_file_100 (by decide) ?_
        refine lv_goto (tgt := 114) hx hb dX7_file_102 (by decide) ?_
        exact RET _ _ _ _ _ _ _ HX2812 dX7_file_114 (⟨rfl, (fun A hok hc => by (obtain ⟨p, hp, ep, ei, e0⟩ := fb_m_pl1 hc hok h_plm2 c_8; have et : tp = p := fa_nIinj (by omega) (by have := hok.1.1; omega) (etp.symm.trans ep); subst et; rw [fb_filA_s ei, fb_filP_3 c_20_3]; rw [← hc.F hp (i := 4) (by decide)]; exact fb_m_m6f c_97))⟩)
    by_cases c_20_4 : a2 = (4 : Int32)
    · refine lv_tableIn (off := 56) (tgt := 76) hx hb dX7_file_20 (by rw [c_20_4]; decide) (by rw [c_20_4]; decide) (by rw [c_20_4]; decide) (by decide) ?_
      refine lv_aload_n hx hb dX7_file_76 rfl (lv_at hl 2 rfl) ?_
      refine fa_getr (k := 397) (j := 398) CX HX2812 fl_X7_7 (by omega) rfl rfl hM.1 dX7_file_77 ?_
      refine lv_iload hx hb dX7_file_80 (lv_at hl 0 rfl) ?_
      refine lv_iconst (v := nI (1)) hx hb dX7_file_82 (by decide) ?_
      refine fa_iaddN hx hb dX7_file_83 ?_
      refine lv_iload_n hx hb dX7_file_84 rfl (lv_at hl 4 rfl) ?_
      rw [show a2 = nI (4) from c_20_4]
      refine fa_iaddN hx hb dX7_file_85 ?_
      refine fa_iald (k := 398) (j := 17 + 15 * tp + 1 + 4) CX HX2812 (by omega) rfl (by omega) (by first | decide | assumption) dX7_file_86 ?_
      exact RET _ _ _ _ _ _ _ HX2812 dX7_file_87 (⟨rfl, (fun A hok hc => by (obtain ⟨p, hp, ep, ei, e0⟩ := fb_m_pl1 hc hok h_plm2 c_8; have et : tp = p := fa_nIinj (by omega) (by have := hok.1.1; omega) (etp.symm.trans ep); subst et; rw [fb_filA_s ei, fb_filP_4 c_20_4]; rw [show 17 + 15 * tp + 1 + 4 = 17 + 15 * tp + 5 by omega]; exact hc.F hp (by decide)))⟩)
    by_cases c_20_5 : a2 = (5 : Int32)
    · refine lv_tableIn (off := 95) (tgt := 115) hx hb dX7_file_20 (by rw [c_20_5]; decide) (by rw [c_20_5]; decide) (by rw [c_20_5]; decide) (by decide) ?_
      refine lv_aload_n hx hb dX7_file_115 rfl (lv_at hl 2 rfl) ?_
      refine fa_getr (k := 397) (j := 398) CX HX2812 fl_X7_7 (by omega) rfl rfl hM.1 dX7_file_116 ?_
      refine lv_iload hx hb dX7_file_119 (lv_at hl 0 rfl) ?_
      refine lv_bipush (v := nI (6)) hx hb dX7_file_121 (by decide) ?_
      refine fa_iaddN hx hb dX7_file_123 ?_
      refine fa_iald (k := 398) (j := 17 + 15 * tp + 6) CX HX2812 (by omega) rfl (by omega) (by first | decide | assumption) dX7_file_124 ?_
      refine lv_if_ge (tgt := 133) hx hb dX7_file_125 (by decide) (fun c_125 => ?_) (fun c_125 => ?_)
      · refine lv_aload_n hx hb dX7_file_133 rfl (lv_at hl 2 rfl) ?_
        refine fa_getr (k := 397) (j := 398) CX HX2812 fl_X7_7 (by omega) rfl rfl hM.1 dX7_file_134 ?_
        refine lv_iload hx hb dX7_file_137 (lv_at hl 0 rfl) ?_
        refine lv_bipush (v := nI (6)) hx hb dX7_file_139 (by decide) ?_
        refine fa_iaddN hx hb dX7_file_141 ?_
        refine fa_iald (k := 398) (j := 17 + 15 * tp + 6) CX HX2812 (by omega) rfl (by omega) (by first | decide | assumption) dX7_file_142 ?_
        exact RET _ _ _ _ _ _ _ HX2812 dX7_file_143 (⟨rfl, (fun A hok hc => by (obtain ⟨p, hp, ep, ei, e0⟩ := fb_m_pl1 hc hok h_plm2 c_8; have et : tp = p := fa_nIinj (by omega) (by have := hok.1.1; omega) (etp.symm.trans ep); subst et; rw [fb_filA_s ei, fb_filP_5 c_20_5]; rw [← hc.F hp (i := 6) (by decide)]; exact fb_m_m6t c_125))⟩)
      · refine lv_bipush (v := (-6 : Int32)) hx hb dX7_file_128 (by decide) ?_
        refine lv_goto (tgt := 143) hx hb dX7_file_130 (by decide) ?_
        exact RET _ _ _ _ _ _ _ HX2812 dX7_file_143 (⟨rfl, (fun A hok hc => by (obtain ⟨p, hp, ep, ei, e0⟩ := fb_m_pl1 hc hok h_plm2 c_8; have et : tp = p := fa_nIinj (by omega) (by have := hok.1.1; omega) (etp.symm.trans ep); subst et; rw [fb_filA_s ei, fb_filP_5 c_20_5]; rw [← hc.F hp (i := 6) (by decide)]; exact fb_m_m6f c_125))⟩)
    by_cases c_20_6 : a2 = (6 : Int32)
    · refine lv_tableIn (off := 124) (tgt := 144) hx hb dX7_file_20 (by rw [c_20_6]; decide) (by rw [c_20_6]; decide) (by rw [c_20_6]; decide) (by decide) ?_
      refine lv_aload_n hx hb dX7_file_144 rfl (lv_at hl 2 rfl) ?_
      refine lv_iload_n hx hb dX7_file_145 rfl (lv_at hl 1 rfl) ?_
      rw [show x2808 = nI (tp) from etp]
      refine fa_callVip (As := [.int (nI (tp))]) (rest := []) CX HX2812 (r_due l G n hn v r hM hJ.1 (tp) (by omega)) ln_X7_48 (by omega) rfl rfl rfl rfl (Nat.le_of_ble_eq_true rfl) hl.1 ⟨Nat.le_of_ble_eq_true rfl, Nat.le_of_ble_eq_true rfl⟩ ⟨Nat.le_refl _, Nat.le_refl _⟩ dX7_file_146 (fun x2814 H locs h2813 HX2815 => ?_)
      have h_due := h2813
      exact RET _ _ _ _ _ _ _ HX2815 dX7_file_149 (⟨rfl, (fun A hok hc => by (obtain ⟨p, hp, ep, ei, e0⟩ := fb_m_pl1 hc hok h_plm2 c_8; have et : tp = p := fa_nIinj (by omega) (by have := hok.1.1; omega) (etp.symm.trans ep); subst et; rw [fb_filA_s ei, fb_filP_6 c_20_6]; exact h_due.trans (hc.due hok hp)))⟩)
    by_cases c_20_7 : a2 = (7 : Int32)
    · refine lv_tableIn (off := 130) (tgt := 150) hx hb dX7_file_20 (by rw [c_20_7]; decide) (by rw [c_20_7]; decide) (by rw [c_20_7]; decide) (by decide) ?_
      refine lv_aload_n hx hb dX7_file_150 rfl (lv_at hl 2 rfl) ?_
      refine lv_iload_n hx hb dX7_file_151 rfl (lv_at hl 1 rfl) ?_
      rw [show x2808 = nI (tp) from etp]
      refine fa_callVip (As := [.int (nI (tp))]) (rest := []) CX HX2812 (r_sealing l G n hn v r hM hJ.1 (tp) (by omega)) ln_X7_51 (by omega) rfl rfl rfl rfl (Nat.le_of_ble_eq_true rfl) hl.1 ⟨Nat.le_of_ble_eq_true rfl, Nat.le_of_ble_eq_true rfl⟩ ⟨Nat.le_refl _, Nat.le_refl _⟩ dX7_file_152 (fun x2817 H locs h2816 HX2818 => ?_)
      have h_sealing := h2816
      exact RET _ _ _ _ _ _ _ HX2818 dX7_file_155 (⟨rfl, (fun A hok hc => by (obtain ⟨p, hp, ep, ei, e0⟩ := fb_m_pl1 hc hok h_plm2 c_8; have et : tp = p := fa_nIinj (by omega) (by have := hok.1.1; omega) (etp.symm.trans ep); subst et; rw [fb_filA_s ei, fb_filP_7 c_20_7]; exact h_sealing.trans (hc.msk hp)))⟩)
    by_cases c_20_8 : a2 = (8 : Int32)
    · refine lv_tableIn (off := 136) (tgt := 156) hx hb dX7_file_20 (by rw [c_20_8]; decide) (by rw [c_20_8]; decide) (by rw [c_20_8]; decide) (by decide) ?_
      refine lv_aload_n hx hb dX7_file_156 rfl (lv_at hl 2 rfl) ?_
      refine lv_iload_n hx hb dX7_file_157 rfl (lv_at hl 3 rfl) ?_
      refine fa_callVip (As := [.int (a1)]) (rest := []) CX HX2812 (r_referring l G n hn v r hM hJ.1 (a1)) ln_X7_96 (by omega) rfl rfl rfl rfl (Nat.le_of_ble_eq_true rfl) hl.1 ⟨Nat.le_of_ble_eq_true rfl, Nat.le_of_ble_eq_true rfl⟩ ⟨Nat.le_refl _, Nat.le_refl _⟩ dX7_file_158 (fun x2820 H locs h2819 HX2821 => ?_)
      have h_referring := h2819
      exact RET _ _ _ _ _ _ _ HX2821 dX7_file_161 (⟨rfl, (fun A hok hc => by (obtain ⟨p, hp, ep, ei, e0⟩ := fb_m_pl1 hc hok h_plm2 c_8; have et : tp = p := fa_nIinj (by omega) (by have := hok.1.1; omega) (etp.symm.trans ep); subst et; rw [fb_filA_s ei, fb_filP_8 c_20_8]; rw [e0]; exact h_referring.trans (hc.refs a1)))⟩)
    by_cases c_20_9 : a2 = (9 : Int32)
    · refine lv_tableIn (off := 142) (tgt := 162) hx hb dX7_file_20 (by rw [c_20_9]; decide) (by rw [c_20_9]; decide) (by rw [c_20_9]; decide) (by decide) ?_
      refine lv_aload_n hx hb dX7_file_162 rfl (lv_at hl 2 rfl) ?_
      refine lv_iload_n hx hb dX7_file_163 rfl (lv_at hl 3 rfl) ?_
      refine fa_callVip (As := [.int (a1)]) (rest := []) CX HX2812 (r_reservations l G n hn v r hM hJ.1 (a1)) ln_X7_54 (by omega) rfl rfl rfl rfl (Nat.le_of_ble_eq_true rfl) hl.1 ⟨Nat.le_of_ble_eq_true rfl, Nat.le_of_ble_eq_true rfl⟩ ⟨Nat.le_refl _, Nat.le_refl _⟩ dX7_file_164 (fun x2823 H locs h2822 HX2824 => ?_)
      have h_reservations := h2822
      exact RET _ _ _ _ _ _ _ HX2824 dX7_file_167 (⟨rfl, (fun A hok hc => by (obtain ⟨p, hp, ep, ei, e0⟩ := fb_m_pl1 hc hok h_plm2 c_8; have et : tp = p := fa_nIinj (by omega) (by have := hok.1.1; omega) (etp.symm.trans ep); subst et; rw [fb_filA_s ei, fb_filP_9 c_20_9]; rw [e0]; exact h_reservations.trans (hc.nres a1)))⟩)
    have hout_20 : (a2).toInt < 0 ∨ 9 < (a2).toInt := by
      have z0 := lv_neT (a := 0) c_20_0 (by decide)
      have z1 := lv_neT (a := 1) c_20_1 (by decide)
      have z2 := lv_neT (a := 2) c_20_2 (by decide)
      have z3 := lv_neT (a := 3) c_20_3 (by decide)
      have z4 := lv_neT (a := 4) c_20_4 (by decide)
      have z5 := lv_neT (a := 5) c_20_5 (by decide)
      have z6 := lv_neT (a := 6) c_20_6 (by decide)
      have z7 := lv_neT (a := 7) c_20_7 (by decide)
      have z8 := lv_neT (a := 8) c_20_8 (by decide)
      have z9 := lv_neT (a := 9) c_20_9 (by decide)
      omega
    refine lv_tableOut (tgt := 168) hx hb dX7_file_20 hout_20 (by decide) ?_
    refine lv_bipush (v := (-2 : Int32)) hx hb dX7_file_168 (by decide) ?_
    exact RET _ _ _ _ _ _ _ HX2812 dX7_file_170 (⟨rfl, (fun A hok hc => by (obtain ⟨p, hp, ep, ei, e0⟩ := fb_m_pl1 hc hok h_plm2 c_8; have et : tp = p := fa_nIinj (by omega) (by have := hok.1.1; omega) (etp.symm.trans ep); subst et; rw [fb_filA_s ei, fb_filP_o c_20_0 c_20_1 c_20_2 c_20_3 c_20_4 c_20_5 c_20_6 c_20_7 c_20_8 c_20_9]))⟩)
  · refine lv_iconst (v := (-1 : Int32)) hx hb dX7_file_11 (by decide) ?_
    exact RET _ _ _ _ _ _ _ HX2809 dX7_file_12 (⟨rfl, (fun A hok hc => (fb_filA_n (fb_m_pl0 hc hok h_plm2 (by first | exact c_8 | exact Decidable.not_not.mp c_8))).symm)⟩)
set_option maxHeartbeats 4000000 in
set_option maxRecDepth 100000 in
theorem r_sealOf (l : Launch) (G : fa_G) (n : Nat) (hn : 406 ≤ n) (v : fa_V) (r : fa_R) (hM : fa_RM r) (hJ : fa_MJ v) (a1 : Int32) (a2 : Int32) : fa_MI l G n yX7_sealOf cX7_sealOf 5 (some .int) 3 [.ref (fa_B G + (397)), .int (a1), .int (a2)] v r (fun x w => w = (v, r) ∧ (∀ A, fb_okA A → fb_mA (v 398) A → x = fb_sloA A a1 a2)) := by
  refine fa_startI (by decide +kernel) (Nat.le_of_ble_eq_true rfl) (fun p e s m args below meth c ls Q CX hl HX RET => ?_)
  have hl : lv_has ls 5 [(0, .ref (fa_B G + (397))), (1, .int (a1)), (2, .int (a2))] := hl
  have hx := CX.1.1
  have hb := CX.1.2.1
  have hS := hJ.1
  obtain ⟨n4, en4⟩ : ∃ m, m = fa_N (v 398 14) := ⟨_, rfl⟩
  obtain ⟨hn4, g4⟩ := hS.n4 en4
  obtain ⟨n5, en5⟩ : ∃ m, m = fa_N (v 398 15) := ⟨_, rfl⟩
  obtain ⟨hn5, g5⟩ := hS.n5 en5
  obtain ⟨n6, en6⟩ : ∃ m, m = fa_N (v 398 16) := ⟨_, rfl⟩
  obtain ⟨hn6, g6⟩ := hS.n6 en6
  obtain ⟨n10, hn10, g10⟩ := hJ.2.2.2.2.1
  obtain ⟨n9, hn9, g9⟩ := hJ.2.2.2.2.2
  refine lv_aload_n hx hb dX7_sealOf_0 rfl (lv_at hl 0 rfl) ?_
  refine lv_iload_n hx hb dX7_sealOf_1 rfl (lv_at hl 2 rfl) ?_
  refine fa_callVip (As := [.int (a2)]) (rest := []) CX HX (r_placeOf l G n hn v r hM hJ.1 (a2)) ln_X7_60 (by omega) rfl rfl rfl rfl (Nat.le_of_ble_eq_true rfl) hl.1 ⟨Nat.le_of_ble_eq_true rfl, Nat.le_of_ble_eq_true rfl⟩ ⟨Nat.le_refl _, Nat.le_refl _⟩ dX7_sealOf_2 (fun x2826 H locs h2825 HX2827 => ?_)
  have h_pl2 := h2825.1
  have h_plm2 := h2825.2
  refine lv_istore_n (lv' := [(3, .int (x2826)), (0, .ref (fa_B G + (397))), (1, .int (a1)), (2, .int (a2))]) hx hb dX7_sealOf_5 rfl hl (by decide) rfl (fun ls hl => ?_)
  refine lv_iload_n hx hb dX7_sealOf_6 rfl (lv_at hl 2 rfl) ?_
  refine lv_iconst (v := nI (0)) hx hb dX7_sealOf_7 (by decide) ?_
  refine lv_bipush (v := nI (7)) hx hb dX7_sealOf_8 (by decide) ?_
  refine fa_callSip (As := [.int (a1), .int (nI (0)), .int (nI (7))]) (rest := []) CX HX2827 (r_in l G n v r (a1) (nI (0)) (nI (7))) ln_X7_86 rfl rfl (Nat.le_of_ble_eq_true rfl) hl.1 ⟨Nat.le_of_ble_eq_true rfl, Nat.le_of_ble_eq_true rfl⟩ ⟨Nat.le_refl _, Nat.le_refl _⟩ dX7_sealOf_10 (fun x2829 H locs h2828 HX2830 => ?_)
  have h_in_10 := h2828
  refine lv_if_eq (tgt := 21) hx hb dX7_sealOf_13 (by decide) (fun c_13 => ?_) (fun c_13 => ?_)
  · refine lv_iconst (v := (-1 : Int32)) hx hb dX7_sealOf_21 (by decide) ?_
    exact RET _ _ _ _ _ _ _ HX2830 dX7_sealOf_22 (⟨rfl, (fun A hok hc => (fb_m_slo0 ((fb_m_in7 a1).mp (fa_in0 h_in_10 (by first | exact c_13 | exact Decidable.not_not.mp c_13)))).symm)⟩)
  · obtain ⟨jh, hjh, ejh⟩ := fa_inN (by decide) (fa_in1 h_in_10 c_13)
    refine lv_iload_n hx hb dX7_sealOf_16 rfl (lv_at hl 0 rfl) ?_
    refine lv_iconst (v := (-1 : Int32)) hx hb dX7_sealOf_17 (by decide) ?_
    refine lv_icmp_ne (tgt := 23) hx hb dX7_sealOf_18 (by decide) (fun c_18 => ?_) (fun c_18 => ?_)
    · obtain ⟨tp, htp, etp⟩ := h_pl2.ne c_18
      refine lv_aload_n hx hb dX7_sealOf_23 rfl (lv_at hl 1 rfl) ?_
      refine fa_getr (k := 397) (j := 398) CX HX2830 fl_X7_7 (by omega) rfl rfl hM.1 dX7_sealOf_24 ?_
      refine lv_iload_n hx hb dX7_sealOf_27 rfl (lv_at hl 0 rfl) ?_
      rw [show x2826 = nI (tp) from etp]
      refine fa_callSip (As := [.int (nI (tp))]) (rest := [.ref (fa_B G + (398))]) CX HX2830 (r_f l G n v r (tp)) ln_X7_36 rfl rfl (Nat.le_of_ble_eq_true rfl) hl.1 ⟨Nat.le_of_ble_eq_true rfl, Nat.le_of_ble_eq_true rfl⟩ ⟨Nat.le_refl _, Nat.le_refl _⟩ dX7_sealOf_28 (fun x2832 H locs h2831 HX2833 => ?_)
      subst h2831
      refine lv_bipush (v := nI (7)) hx hb dX7_sealOf_31 (by decide) ?_
      refine fa_iaddN hx hb dX7_sealOf_33 ?_
      refine lv_iload_n hx hb dX7_sealOf_34 rfl (lv_at hl 2 rfl) ?_
      rw [show a1 = nI (jh) from ejh]
      refine fa_iaddN hx hb dX7_sealOf_35 ?_
      refine fa_iald (k := 398) (j := 17 + 15 * tp + 7 + jh) CX HX2833 (by omega) rfl (by omega) (by first | decide | assumption) dX7_sealOf_36 ?_
      refine lv_istore (lv' := [(4, .int (v 398 (17 + 15 * tp + 7 + jh))), (3, .int (x2826)), (0, .ref (fa_B G + (397))), (1, .int (a1)), (2, .int (a2))]) hx hb dX7_sealOf_37 hl (by decide) rfl (fun ls hl => ?_)
      refine lv_iload hx hb dX7_sealOf_39 (lv_at hl 0 rfl) ?_
      refine lv_if_ne (tgt := 49) hx hb dX7_sealOf_41 (by decide) (fun c_41 => ?_) (fun c_41 => ?_)
      · refine lv_iload hx hb dX7_sealOf_49 (lv_at hl 0 rfl) ?_
        refine lv_iconst (v := nI (1)) hx hb dX7_sealOf_51 (by decide) ?_
        refine lv_isub hx hb dX7_sealOf_52 ?_
        exact RET _ _ _ _ _ _ _ HX2833 dX7_sealOf_53 (⟨rfl, (fun A hok hc => by (obtain ⟨p, hp, ep, ei, e0⟩ := fb_m_pl1 hc hok h_plm2 c_18; have et : tp = p := fa_nIinj (by omega) (by have := hok.1.1; omega) (etp.symm.trans ep); subst et; have NC : ¬ (a1 < 0 ∨ ¬ a1 < nI 8) := (fun z => fa_in1 h_in_10 c_13 ((fb_m_in7 a1).mpr z)); have e7 : A.F tp (7 + jh) = v 398 (17 + 15 * tp + 7 + jh) := (by rw [← hc.F hp (i := 7 + jh) (by omega), ← Nat.add_assoc]); rw [fb_sloA_s ei NC ejh (by omega), if_neg (by rw [e7]; exact c_41), e7]; rfl))⟩)
      · refine lv_bipush (v := (-6 : Int32)) hx hb dX7_sealOf_44 (by decide) ?_
        refine lv_goto (tgt := 53) hx hb dX7_sealOf_46 (by decide) ?_
        exact RET _ _ _ _ _ _ _ HX2833 dX7_sealOf_53 (⟨rfl, (fun A hok hc => by (obtain ⟨p, hp, ep, ei, e0⟩ := fb_m_pl1 hc hok h_plm2 c_18; have et : tp = p := fa_nIinj (by omega) (by have := hok.1.1; omega) (etp.symm.trans ep); subst et; have NC : ¬ (a1 < 0 ∨ ¬ a1 < nI 8) := (fun z => fa_in1 h_in_10 c_13 ((fb_m_in7 a1).mpr z)); have e7 : A.F tp (7 + jh) = v 398 (17 + 15 * tp + 7 + jh) := (by rw [← hc.F hp (i := 7 + jh) (by omega), ← Nat.add_assoc]); rw [fb_sloA_s ei NC ejh (by omega), if_pos (by rw [e7]; first | exact c_41 | exact Decidable.not_not.mp c_41)]))⟩)
    · refine lv_iconst (v := (-1 : Int32)) hx hb dX7_sealOf_21 (by decide) ?_
      exact RET _ _ _ _ _ _ _ HX2830 dX7_sealOf_22 (⟨rfl, (fun A hok hc => (fb_sloA_n (fb_m_pl0 hc hok h_plm2 (by first | exact c_18 | exact Decidable.not_not.mp c_18))).symm)⟩)
set_option maxHeartbeats 4000000 in
set_option maxRecDepth 100000 in
theorem r_trace (l : Launch) (G : fa_G) (n : Nat) (hn : 406 ≤ n) (v : fa_V) (r : fa_R) (hM : fa_RM r) (hJ : fa_MJ v) (a1 : Int32) (a2 : Int32) : fa_MI l G n yX7_trace cX7_trace 3 (some .int) 2 [.ref (fa_B G + (397)), .int (a1), .int (a2)] v r (fun x w => w = (v, r) ∧ (∀ A, fb_okA A → fb_mA (v 398) A → x = fb_trcA A a1 a2)) := by
  refine fa_startI (by decide +kernel) (Nat.le_of_ble_eq_true rfl) (fun p e s m args below meth c ls Q CX hl HX RET => ?_)
  have hl : lv_has ls 3 [(0, .ref (fa_B G + (397))), (1, .int (a1)), (2, .int (a2))] := hl
  have hx := CX.1.1
  have hb := CX.1.2.1
  have hS := hJ.1
  obtain ⟨n4, en4⟩ : ∃ m, m = fa_N (v 398 14) := ⟨_, rfl⟩
  obtain ⟨hn4, g4⟩ := hS.n4 en4
  obtain ⟨n5, en5⟩ : ∃ m, m = fa_N (v 398 15) := ⟨_, rfl⟩
  obtain ⟨hn5, g5⟩ := hS.n5 en5
  obtain ⟨n6, en6⟩ : ∃ m, m = fa_N (v 398 16) := ⟨_, rfl⟩
  obtain ⟨hn6, g6⟩ := hS.n6 en6
  obtain ⟨n10, hn10, g10⟩ := hJ.2.2.2.2.1
  obtain ⟨n9, hn9, g9⟩ := hJ.2.2.2.2.2
  refine lv_iload_n hx hb dX7_trace_0 rfl (lv_at hl 1 rfl) ?_
  refine lv_if_lt (tgt := 13) hx hb dX7_trace_1 (by decide) (fun c_1 => ?_) (fun c_1 => ?_)
  · refine lv_bipush (v := (-2 : Int32)) hx hb dX7_trace_13 (by decide) ?_
    exact RET _ _ _ _ _ _ _ HX dX7_trace_15 (⟨rfl, (fun A hok hc => (fb_trc0 (Or.inl c_1)).symm)⟩)
  · refine lv_iload_n hx hb dX7_trace_4 rfl (lv_at hl 2 rfl) ?_
    refine lv_iconst (v := nI (0)) hx hb dX7_trace_5 (by decide) ?_
    refine lv_iconst (v := nI (4)) hx hb dX7_trace_6 (by decide) ?_
    refine fa_callSip (As := [.int (a2), .int (nI (0)), .int (nI (4))]) (rest := []) CX HX (r_in l G n v r (a2) (nI (0)) (nI (4))) ln_X7_86 rfl rfl (Nat.le_of_ble_eq_true rfl) hl.1 ⟨Nat.le_of_ble_eq_true rfl, Nat.le_of_ble_eq_true rfl⟩ ⟨Nat.le_refl _, Nat.le_refl _⟩ dX7_trace_7 (fun x2835 H locs h2834 HX2836 => ?_)
    have h_in_7 := h2834
    refine lv_if_ne (tgt := 16) hx hb dX7_trace_10 (by decide) (fun c_10 => ?_) (fun c_10 => ?_)
    · obtain ⟨jb, hjb, ejb⟩ := fa_inN (by decide) (fa_in1 h_in_7 c_10)
      refine lv_iload_n hx hb dX7_trace_16 rfl (lv_at hl 1 rfl) ?_
      refine lv_aload_n hx hb dX7_trace_17 rfl (lv_at hl 0 rfl) ?_
      refine fa_getr (k := 397) (j := 398) CX HX2836 fl_X7_7 (by omega) rfl rfl hM.1 dX7_trace_18 ?_
      refine lv_bipush (v := nI (16)) hx hb dX7_trace_21 (by decide) ?_
      refine fa_iald (k := 398) (j := 16) CX HX2836 (by omega) rfl (by omega) (by first | decide | assumption) dX7_trace_23 ?_
      rw [show v 398 16 = nI (n6) from g6]
      refine lv_icmp_ge (tgt := 54) hx hb dX7_trace_24 (by decide) (fun c_24 => ?_) (fun c_24 => ?_)
      · refine lv_bipush (v := (-6 : Int32)) hx hb dX7_trace_54 (by decide) ?_
        exact RET _ _ _ _ _ _ _ HX2836 dX7_trace_56 (⟨rfl, (fun A hok hc => by (have em : A.m = n6 := hc.mt g6 hn6; exact (fb_trc1 (fun z => z.elim c_1 (fun z => fa_in1 h_in_7 c_10 ((fb_m_in4 a2).mpr z))) (by rw [em]; exact Int32.not_lt.mpr c_24)).symm))⟩)
      · obtain ⟨ja, hja, eja⟩ := fa_ixN (by omega) c_1 (Int32.not_le.mp c_24)
        refine lv_aload_n hx hb dX7_trace_27 rfl (lv_at hl 0 rfl) ?_
        refine fa_getr (k := 397) (j := 398) CX HX2836 fl_X7_7 (by omega) rfl rfl hM.1 dX7_trace_28 ?_
        refine lv_sipush (v := nI (393)) hx hb dX7_trace_31 (by decide) ?_
        refine lv_iconst (v := nI (5)) hx hb dX7_trace_34 (by decide) ?_
        refine lv_aload_n hx hb dX7_trace_35 rfl (lv_at hl 0 rfl) ?_
        refine fa_getr (k := 397) (j := 398) CX HX2836 fl_X7_7 (by omega) rfl rfl hM.1 dX7_trace_36 ?_
        refine lv_bipush (v := nI (16)) hx hb dX7_trace_39 (by decide) ?_
        refine fa_iald (k := 398) (j := 16) CX HX2836 (by omega) rfl (by omega) (by first | decide | assumption) dX7_trace_41 ?_
        rw [show v 398 16 = nI (n6) from g6]
        refine lv_iconst (v := nI (1)) hx hb dX7_trace_42 (by decide) ?_
        refine fa_isubN hx hb dX7_trace_43 (by omega) ?_
        refine lv_iload_n hx hb dX7_trace_44 rfl (lv_at hl 1 rfl) ?_
        rw [show a1 = nI (ja) from eja]
        refine fa_isubN hx hb dX7_trace_45 (by omega) ?_
        refine fa_imulN hx hb dX7_trace_46 ?_
        refine fa_iaddN hx hb dX7_trace_47 ?_
        refine lv_iload_n hx hb dX7_trace_48 rfl (lv_at hl 2 rfl) ?_
        rw [show a2 = nI (jb) from ejb]
        refine fa_iaddN hx hb dX7_trace_49 ?_
        refine fa_iald (k := 398) (j := 393 + (5 * ((n6 - 1) - ja)) + jb) CX HX2836 (by omega) rfl (by omega) (by first | decide | assumption) dX7_trace_50 ?_
        refine lv_goto (tgt := 56) hx hb dX7_trace_51 (by decide) ?_
        exact RET _ _ _ _ _ _ _ HX2836 dX7_trace_56 (⟨rfl, (fun A hok hc => by (have em : A.m = n6 := hc.mt g6 hn6; rw [fb_trc2 (fun z => z.elim c_1 (fun z => fa_in1 h_in_7 c_10 ((fb_m_in4 a2).mpr z))) eja ejb (by omega) (by omega) (by omega), em, ← hc.T (p := n6 - 1 - ja) (i := jb) (by omega) (by omega)]))⟩)
    · refine lv_bipush (v := (-2 : Int32)) hx hb dX7_trace_13 (by decide) ?_
      exact RET _ _ _ _ _ _ _ HX2836 dX7_trace_15 (⟨rfl, (fun A hok hc => (fb_trc0 (Or.inr ((fb_m_in4 a2).mp (fa_in0 h_in_7 (by first | exact c_10 | exact Decidable.not_not.mp c_10))))).symm)⟩)
set_option maxHeartbeats 4000000 in
set_option maxRecDepth 100000 in
theorem r_reservation (l : Launch) (G : fa_G) (n : Nat) (hn : 406 ≤ n) (v : fa_V) (r : fa_R) (hM : fa_RM r) (hJ : fa_MJ v) (a1 : Int32) (a2 : Int32) : fa_MI l G n yX7_reservation cX7_reservation 5 (some .int) 3 [.ref (fa_B G + (397)), .int (a1), .int (a2)] v r (fun x w => w = (v, r) ∧ (∀ A, fb_okA A → fb_mA (v 398) A → fb_rsvP A a1 a2 x)) := by
  refine fa_startI (by decide +kernel) (Nat.le_of_ble_eq_true rfl) (fun p e s m args below meth c ls Q CX hl HX RET => ?_)
  have hl : lv_has ls 5 [(0, .ref (fa_B G + (397))), (1, .int (a1)), (2, .int (a2))] := hl
  have hx := CX.1.1
  have hb := CX.1.2.1
  have hS := hJ.1
  obtain ⟨n4, en4⟩ : ∃ m, m = fa_N (v 398 14) := ⟨_, rfl⟩
  obtain ⟨hn4, g4⟩ := hS.n4 en4
  obtain ⟨n5, en5⟩ : ∃ m, m = fa_N (v 398 15) := ⟨_, rfl⟩
  obtain ⟨hn5, g5⟩ := hS.n5 en5
  obtain ⟨n6, en6⟩ : ∃ m, m = fa_N (v 398 16) := ⟨_, rfl⟩
  obtain ⟨hn6, g6⟩ := hS.n6 en6
  obtain ⟨n10, hn10, g10⟩ := hJ.2.2.2.2.1
  obtain ⟨n9, hn9, g9⟩ := hJ.2.2.2.2.2
  refine lv_iload_n hx hb dX7_reservation_0 rfl (lv_at hl 1 rfl) ?_
  refine lv_if_lt (tgt := 13) hx hb dX7_reservation_1 (by decide) (fun c_1 => ?_) (fun c_1 => ?_)
  · refine lv_bipush (v := (-2 : Int32)) hx hb dX7_reservation_13 (by decide) ?_
    exact RET _ _ _ _ _ _ _ HX dX7_reservation_15 (⟨rfl, (fun A hok hc => fb_c_rsv0 (Or.inl c_1))⟩)
  · refine lv_iload_n hx hb dX7_reservation_4 rfl (lv_at hl 2 rfl) ?_
    refine lv_iconst (v := nI (0)) hx hb dX7_reservation_5 (by decide) ?_
    refine lv_iconst (v := nI (1)) hx hb dX7_reservation_6 (by decide) ?_
    refine fa_callSip (As := [.int (a2), .int (nI (0)), .int (nI (1))]) (rest := []) CX HX (r_in l G n v r (a2) (nI (0)) (nI (1))) ln_X7_86 rfl rfl (Nat.le_of_ble_eq_true rfl) hl.1 ⟨Nat.le_of_ble_eq_true rfl, Nat.le_of_ble_eq_true rfl⟩ ⟨Nat.le_refl _, Nat.le_refl _⟩ dX7_reservation_7 (fun x2838 H locs h2837 HX2839 => ?_)
    have h_in_7 := h2837
    refine lv_if_ne (tgt := 16) hx hb dX7_reservation_10 (by decide) (fun c_10 => ?_) (fun c_10 => ?_)
    · obtain ⟨jb, hjb, ejb⟩ := fa_inN (by decide) (fa_in1 h_in_7 c_10)
      refine lv_bipush (v := (-6 : Int32)) hx hb dX7_reservation_16 (by decide) ?_
      refine lv_istore_n (lv' := [(3, .int ((-6 : Int32))), (0, .ref (fa_B G + (397))), (1, .int (a1)), (2, .int (a2))]) hx hb dX7_reservation_18 rfl hl (by decide) rfl (fun ls hl => ?_)
      refine lv_iconst (v := nI (0)) hx hb dX7_reservation_19 (by decide) ?_
      refine lv_istore (lv' := [(4, .int (nI (0))), (3, .int ((-6 : Int32))), (0, .ref (fa_B G + (397))), (1, .int (a1)), (2, .int (a2))]) hx hb dX7_reservation_20 hl (by decide) rfl (fun ls hl => ?_)
      have LOOP_22 : ∀ (fu : Nat) (j : Nat) (fo : Int32) (H : Heap) (locs : List Loc) (ls : Array Slot), n5 - j < fu → (j ≤ n5 ∧ fb_rq (v 398) a1 jb (fa_N (v 398 15)) j fo) → lv_has ls 5 [(0, .ref (fa_B G + (397))), (1, .int (a1)), (2, .int (a2)), (3, .int (fo)), (4, .int (nI (j)))] → fa_HX G (n) v r s H locs → W p l e (fa_rm 3) s m args below meth c H locs (0) (0) Q (F0 m 22 ls []) := by
        intro fu
        induction fu with
        | zero => intro j fo H locs ls hk; exact absurd hk (Nat.not_lt_zero _)
        | succ fu ih_22 =>
          intro j fo H locs ls hk_22 hi_22 hl HX2840
          refine lv_iload hx hb dX7_reservation_22 (lv_at hl 4 rfl) ?_
          refine lv_aload_n hx hb dX7_reservation_24 rfl (lv_at hl 0 rfl) ?_
          refine fa_getr (k := 397) (j := 398) CX HX2840 fl_X7_7 (by omega) rfl rfl hM.1 dX7_reservation_25 ?_
          refine lv_bipush (v := nI (15)) hx hb dX7_reservation_28 (by decide) ?_
          refine fa_iald (k := 398) (j := 15) CX HX2840 (by omega) rfl (by omega) (by first | decide | assumption) dX7_reservation_30 ?_
          rw [show v 398 15 = nI (n5) from g5]
          refine lv_icmp_ge (tgt := 70) hx hb dX7_reservation_31 (by decide) (fun c_31 => ?_) (fun c_31 => ?_)
          · have hjn : j = n5 := by
              have := fa_leN (by omega) (by omega) c_31
              omega
            refine lv_iload_n hx hb dX7_reservation_70 rfl (lv_at hl 3 rfl) ?_
            exact RET _ _ _ _ _ _ _ HX2840 dX7_reservation_71 (⟨rfl, (fun A hok hc => fb_m_rsq hok hc c_1 (fun z => fa_in1 h_in_7 c_10 ((fb_m_in1 a2).mpr z)) ejb hjb rfl (hjn.trans en5) hi_22.2)⟩)
          · have hj := fa_ltN (by omega) (by omega) c_31
            refine lv_aload_n hx hb dX7_reservation_34 rfl (lv_at hl 0 rfl) ?_
            refine lv_iload hx hb dX7_reservation_35 (lv_at hl 4 rfl) ?_
            refine fa_callVip (As := [.int (nI (j))]) (rest := []) CX HX2840 (r_ahead l G n hn v r hM hJ.1 (j) (by omega)) ln_X7_165 (by omega) rfl rfl rfl rfl (Nat.le_of_ble_eq_true rfl) hl.1 ⟨Nat.le_of_ble_eq_true rfl, Nat.le_of_ble_eq_true rfl⟩ ⟨Nat.le_refl _, Nat.le_refl _⟩ dX7_reservation_37 (fun x2842 H locs h2841 HX2843 => ?_)
            have h_ahead := h2841
            refine lv_iload_n hx hb dX7_reservation_40 rfl (lv_at hl 1 rfl) ?_
            refine lv_icmp_ne (tgt := 62) hx hb dX7_reservation_41 (by decide) (fun c_41 => ?_) (fun c_41 => ?_)
            · refine lv_iload_n hx hb dX7_reservation_62 rfl (lv_at hl 3 rfl) ?_
              refine lv_istore_n (lv' := [(3, .int (fo)), (0, .ref (fa_B G + (397))), (1, .int (a1)), (2, .int (a2)), (4, .int (nI (j)))]) hx hb dX7_reservation_63 rfl hl (by decide) rfl (fun ls hl => ?_)
              refine lv_iinc (v := nI (j + 1)) (lv' := [(4, .int (nI (j + 1))), (3, .int (fo)), (0, .ref (fa_B G + (397))), (1, .int (a1)), (2, .int (a2))]) hx hb dX7_reservation_64 hl (k := 4) rfl (nI_add (j) 1) (by decide) rfl (fun ls hl => ?_)
              refine lv_goto (tgt := 22) hx hb dX7_reservation_67 (by decide) ?_
              exact ih_22 (j + 1) (fo)  _ _ _ (by omega) (⟨by omega, hi_22.2.f (fun z => c_41 (h_ahead.trans z))⟩) (lv_sub hl [2, 3, 4, 1, 0] rfl) HX2843
            · refine lv_aload_n hx hb dX7_reservation_44 rfl (lv_at hl 0 rfl) ?_
              refine fa_getr (k := 397) (j := 398) CX HX2843 fl_X7_7 (by omega) rfl rfl hM.1 dX7_reservation_45 ?_
              refine lv_sipush (v := nI (377)) hx hb dX7_reservation_48 (by decide) ?_
              refine lv_iconst (v := nI (2)) hx hb dX7_reservation_51 (by decide) ?_
              refine lv_iload hx hb dX7_reservation_52 (lv_at hl 4 rfl) ?_
              refine fa_imulN hx hb dX7_reservation_54 ?_
              refine fa_iaddN hx hb dX7_reservation_55 ?_
              refine lv_iload_n hx hb dX7_reservation_56 rfl (lv_at hl 2 rfl) ?_
              rw [show a2 = nI (jb) from ejb]
              refine fa_iaddN hx hb dX7_reservation_57 ?_
              refine fa_iald (k := 398) (j := 377 + (2 * j) + jb) CX HX2843 (by omega) rfl (by omega) (by first | decide | assumption) dX7_reservation_58 ?_
              refine lv_goto (tgt := 63) hx hb dX7_reservation_59 (by decide) ?_
              refine lv_istore_n (lv' := [(3, .int (v 398 (377 + (2 * j) + jb))), (0, .ref (fa_B G + (397))), (1, .int (a1)), (2, .int (a2)), (4, .int (nI (j)))]) hx hb dX7_reservation_63 rfl hl (by decide) rfl (fun ls hl => ?_)
              refine lv_iinc (v := nI (j + 1)) (lv' := [(4, .int (nI (j + 1))), (3, .int (v 398 (377 + (2 * j) + jb))), (0, .ref (fa_B G + (397))), (1, .int (a1)), (2, .int (a2))]) hx hb dX7_reservation_64 hl (k := 4) rfl (nI_add (j) 1) (by decide) rfl (fun ls hl => ?_)
              refine lv_goto (tgt := 22) hx hb dX7_reservation_67 (by decide) ?_
              exact ih_22 (j + 1) (v 398 (377 + (2 * j) + jb))  _ _ _ (by omega) (⟨by omega, fb_rq.t (h_ahead.symm.trans (by first | exact c_41 | exact Decidable.not_not.mp c_41))⟩) (lv_sub hl [2, 3, 4, 1, 0] rfl) HX2843
      exact LOOP_22 (n5 - 0 + 1) (0) ((-6 : Int32))  _ _ _ (Nat.lt_succ_self _) (⟨Nat.zero_le _, Or.inl ⟨rfl, fun k hk => absurd hk (Nat.not_lt_zero _)⟩⟩) (lv_sub hl [2, 3, 4, 1, 0] rfl) HX2839
    · refine lv_bipush (v := (-2 : Int32)) hx hb dX7_reservation_13 (by decide) ?_
      exact RET _ _ _ _ _ _ _ HX2839 dX7_reservation_15 (⟨rfl, (fun A hok hc => fb_c_rsv0 (Or.inr ((fb_m_in1 a2).mp (fa_in0 h_in_7 (by first | exact c_10 | exact Decidable.not_not.mp c_10)))))⟩)
set_option maxHeartbeats 4000000 in
set_option maxRecDepth 100000 in
theorem r_setting (l : Launch) (G : fa_G) (n : Nat) (hn : 406 ≤ n) (v : fa_V) (r : fa_R) (hM : fa_RM r) (hJ : fa_MJ v) (a1 : Int32) : fa_MI l G n yX7_setting cX7_setting 2 (some .int) 2 [.ref (fa_B G + (397)), .int (a1)] v r (fun x w => w = (v, r) ∧ (∀ A, fb_okA A → fb_mA (v 398) A → x = fb_stgA A a1)) := by
  refine fa_startI (by decide +kernel) (Nat.le_of_ble_eq_true rfl) (fun p e s m args below meth c ls Q CX hl HX RET => ?_)
  have hl : lv_has ls 2 [(0, .ref (fa_B G + (397))), (1, .int (a1))] := hl
  have hx := CX.1.1
  have hb := CX.1.2.1
  have hS := hJ.1
  obtain ⟨n4, en4⟩ : ∃ m, m = fa_N (v 398 14) := ⟨_, rfl⟩
  obtain ⟨hn4, g4⟩ := hS.n4 en4
  obtain ⟨n5, en5⟩ : ∃ m, m = fa_N (v 398 15) := ⟨_, rfl⟩
  obtain ⟨hn5, g5⟩ := hS.n5 en5
  obtain ⟨n6, en6⟩ : ∃ m, m = fa_N (v 398 16) := ⟨_, rfl⟩
  obtain ⟨hn6, g6⟩ := hS.n6 en6
  obtain ⟨n10, hn10, g10⟩ := hJ.2.2.2.2.1
  obtain ⟨n9, hn9, g9⟩ := hJ.2.2.2.2.2
  refine lv_iload_n hx hb dX7_setting_0 rfl (lv_at hl 1 rfl) ?_
  refine lv_iconst (v := nI (0)) hx hb dX7_setting_1 (by decide) ?_
  refine lv_bipush (v := nI (6)) hx hb dX7_setting_2 (by decide) ?_
  refine fa_callSip (As := [.int (a1), .int (nI (0)), .int (nI (6))]) (rest := []) CX HX (r_in l G n v r (a1) (nI (0)) (nI (6))) ln_X7_86 rfl rfl (Nat.le_of_ble_eq_true rfl) hl.1 ⟨Nat.le_of_ble_eq_true rfl, Nat.le_of_ble_eq_true rfl⟩ ⟨Nat.le_refl _, Nat.le_refl _⟩ dX7_setting_4 (fun x2845 H locs h2844 HX2846 => ?_)
  have h_in_4 := h2844
  refine lv_if_eq (tgt := 19) hx hb dX7_setting_7 (by decide) (fun c_7 => ?_) (fun c_7 => ?_)
  · refine lv_iconst (v := (-1 : Int32)) hx hb dX7_setting_19 (by decide) ?_
    exact RET _ _ _ _ _ _ _ HX2846 dX7_setting_20 (⟨rfl, (fun A hok hc => by (rw [fb_stgA, if_pos ((fb_m_in6 a1).mp (fa_in0 h_in_4 (by first | exact c_7 | exact Decidable.not_not.mp c_7)))]))⟩)
  · obtain ⟨ja, hja, eja⟩ := fa_inN (by decide) (fa_in1 h_in_4 c_7)
    refine lv_aload_n hx hb dX7_setting_10 rfl (lv_at hl 0 rfl) ?_
    refine fa_getr (k := 397) (j := 398) CX HX2846 fl_X7_7 (by omega) rfl rfl hM.1 dX7_setting_11 ?_
    refine lv_iload_n hx hb dX7_setting_14 rfl (lv_at hl 1 rfl) ?_
    rw [show a1 = nI (ja) from eja]
    refine fa_iald (k := 398) (j := ja) CX HX2846 (by omega) rfl (by omega) (by first | decide | assumption) dX7_setting_15 ?_
    refine lv_goto (tgt := 20) hx hb dX7_setting_16 (by decide) ?_
    exact RET _ _ _ _ _ _ _ HX2846 dX7_setting_20 (⟨rfl, (fun A hok hc => by (rw [fb_stgA, if_neg (fun z => fa_in1 h_in_4 c_7 ((fb_m_in6 a1).mpr z)), eja, fa_N_nI (by omega)]; exact hc.g (by omega)))⟩)
set_option maxHeartbeats 4000000 in
set_option maxRecDepth 100000 in
theorem r_meanAge (l : Launch) (G : fa_G) (n : Nat) (hn : 406 ≤ n) (v : fa_V) (r : fa_R) (hM : fa_RM r) (hJ : fa_MJ v) : fa_MF l G n yX7_meanAge cX7_meanAge 3 3 [.ref (fa_B G + (397))] v r (fun x w => w = (v, r) ∧ ((vf_n64 (FP.f2d x)) ∧ ∀ A, fb_okA A → fb_mA (v 398) A → x = fb_meanA A)) := by
  refine fa_startF (by decide +kernel) (Nat.le_of_ble_eq_true rfl) (fun p e s m args below meth c ls Q CX hl HX RET => ?_)
  have hl : lv_has ls 3 [(0, .ref (fa_B G + (397)))] := hl
  have hx := CX.1.1
  have hb := CX.1.2.1
  have hS := hJ.1
  obtain ⟨n4, en4⟩ : ∃ m, m = fa_N (v 398 14) := ⟨_, rfl⟩
  obtain ⟨hn4, g4⟩ := hS.n4 en4
  obtain ⟨n5, en5⟩ : ∃ m, m = fa_N (v 398 15) := ⟨_, rfl⟩
  obtain ⟨hn5, g5⟩ := hS.n5 en5
  obtain ⟨n6, en6⟩ : ∃ m, m = fa_N (v 398 16) := ⟨_, rfl⟩
  obtain ⟨hn6, g6⟩ := hS.n6 en6
  obtain ⟨n10, hn10, g10⟩ := hJ.2.2.2.2.1
  obtain ⟨n9, hn9, g9⟩ := hJ.2.2.2.2.2
  refine lv_iconst (v := nI (0)) hx hb dX7_meanAge_0 (by decide) ?_
  refine lv_istore_n (lv' := [(1, .int (nI (0))), (0, .ref (fa_B G + (397)))]) hx hb dX7_meanAge_1 rfl hl (by decide) rfl (fun ls hl => ?_)
  refine lv_iconst (v := nI (0)) hx hb dX7_meanAge_2 (by decide) ?_
  refine lv_istore_n (lv' := [(2, .int (nI (0))), (1, .int (nI (0))), (0, .ref (fa_B G + (397)))]) hx hb dX7_meanAge_3 rfl hl (by decide) rfl (fun ls hl => ?_)
  have LOOP_4 : ∀ (fu : Nat) (j : Nat) (ac : Int32) (H : Heap) (locs : List Loc) (ls : Array Slot), n4 - j < fu → (j ≤ n4 ∧ ac = fa_sum (fun p => v 398 7 - v 398 (17 + 15 * p + 3)) j) → lv_has ls 3 [(0, .ref (fa_B G + (397))), (1, .int (ac)), (2, .int (nI (j)))] → fa_HX G (n) v r s H locs → W p l e (fa_rm 3) s m args below meth c H locs (0) (0) Q (F0 m 4 ls []) := by
    intro fu
    induction fu with
    | zero => intro j ac H locs ls hk; exact absurd hk (Nat.not_lt_zero _)
    | succ fu ih_4 =>
      intro j ac H locs ls hk_4 hi_4 hl HX2847
      refine lv_iload_n hx hb dX7_meanAge_4 rfl (lv_at hl 2 rfl) ?_
      refine lv_aload_n hx hb dX7_meanAge_5 rfl (lv_at hl 0 rfl) ?_
      refine fa_getr (k := 397) (j := 398) CX HX2847 fl_X7_7 (by omega) rfl rfl hM.1 dX7_meanAge_6 ?_
      refine lv_bipush (v := nI (14)) hx hb dX7_meanAge_9 (by decide) ?_
      refine fa_iald (k := 398) (j := 14) CX HX2847 (by omega) rfl (by omega) (by first | decide | assumption) dX7_meanAge_11 ?_
      rw [show v 398 14 = nI (n4) from g4]
      refine lv_icmp_ge (tgt := 43) hx hb dX7_meanAge_12 (by decide) (fun c_12 => ?_) (fun c_12 => ?_)
      · have hjn : j = n4 := by
          have := fa_leN (by omega) (by omega) c_12
          omega
        refine lv_aload_n hx hb dX7_meanAge_43 rfl (lv_at hl 0 rfl) ?_
        refine fa_getr (k := 397) (j := 398) CX HX2847 fl_X7_7 (by omega) rfl rfl hM.1 dX7_meanAge_44 ?_
        refine lv_bipush (v := nI (14)) hx hb dX7_meanAge_47 (by decide) ?_
        refine fa_iald (k := 398) (j := 14) CX HX2847 (by omega) rfl (by omega) (by first | decide | assumption) dX7_meanAge_49 ?_
        rw [show v 398 14 = nI (n4) from g4]
        refine lv_if_ne (tgt := 57) hx hb dX7_meanAge_50 (by decide) (fun c_50 => ?_) (fun c_50 => ?_)
        · have hp1 : 1 ≤ n4 := by
            refine Nat.pos_of_ne_zero (fun z => c_50 ?_)
            rw [z]; decide
          refine lv_iload_n hx hb dX7_meanAge_57 rfl (lv_at hl 1 rfl) ?_
          refine lv_i2f hx hb dX7_meanAge_58 ?_
          refine lv_aload_n hx hb dX7_meanAge_59 rfl (lv_at hl 0 rfl) ?_
          refine fa_getr (k := 397) (j := 398) CX HX2847 fl_X7_7 (by omega) rfl rfl hM.1 dX7_meanAge_60 ?_
          refine lv_bipush (v := nI (14)) hx hb dX7_meanAge_63 (by decide) ?_
          refine fa_iald (k := 398) (j := 14) CX HX2847 (by omega) rfl (by omega) (by first | decide | assumption) dX7_meanAge_65 ?_
          rw [show v 398 14 = nI (n4) from g4]
          refine lv_i2f hx hb dX7_meanAge_66 ?_
          refine lv_fdiv hx hb dX7_meanAge_67 (fa_fdiv_ok hp1 hn4).1 ?_
          exact RET _ _ _ _ _ _ _ HX2847 dX7_meanAge_68 (⟨rfl, ⟨(fa_fdiv_ok hp1 hn4).2, fun A hok hc => by (rw [fb_meanA, if_neg (show ¬ A.n = 0 from by rw [← hc.n, ← en4]; omega), ← hc.ages, ← hc.n, ← en4, ← hjn, ← hi_4.2])⟩⟩)
        · refine lv_fconst0 hx hb dX7_meanAge_53 ?_
          refine lv_goto (tgt := 68) hx hb dX7_meanAge_54 (by decide) ?_
          exact RET _ _ _ _ _ _ _ HX2847 dX7_meanAge_68 (⟨rfl, ⟨fa_f0_ok, fun A hok hc => by (rw [fb_meanA, if_pos (show A.n = 0 from by rw [← hc.n, ← en4]; exact Decidable.byContradiction (fun z => nI_ne0 (Nat.pos_of_ne_zero z) (by omega) (by first | exact c_50 | exact Decidable.not_not.mp c_50)))])⟩⟩)
      · have hj := fa_ltN (by omega) (by omega) c_12
        refine lv_iload_n hx hb dX7_meanAge_15 rfl (lv_at hl 1 rfl) ?_
        refine lv_aload_n hx hb dX7_meanAge_16 rfl (lv_at hl 0 rfl) ?_
        refine fa_getr (k := 397) (j := 398) CX HX2847 fl_X7_7 (by omega) rfl rfl hM.1 dX7_meanAge_17 ?_
        refine lv_bipush (v := nI (7)) hx hb dX7_meanAge_20 (by decide) ?_
        refine fa_iald (k := 398) (j := 7) CX HX2847 (by omega) rfl (by omega) (by first | decide | assumption) dX7_meanAge_22 ?_
        refine lv_aload_n hx hb dX7_meanAge_23 rfl (lv_at hl 0 rfl) ?_
        refine fa_getr (k := 397) (j := 398) CX HX2847 fl_X7_7 (by omega) rfl rfl hM.1 dX7_meanAge_24 ?_
        refine lv_iload_n hx hb dX7_meanAge_27 rfl (lv_at hl 2 rfl) ?_
        refine fa_callSip (As := [.int (nI (j))]) (rest := [.ref (fa_B G + (398)), .int (v 398 7), .int (ac)]) CX HX2847 (r_f l G n v r (j)) ln_X7_36 rfl rfl (Nat.le_of_ble_eq_true rfl) hl.1 ⟨Nat.le_of_ble_eq_true rfl, Nat.le_of_ble_eq_true rfl⟩ ⟨Nat.le_refl _, Nat.le_refl _⟩ dX7_meanAge_28 (fun x2849 H locs h2848 HX2850 => ?_)
        subst h2848
        refine lv_iconst (v := nI (3)) hx hb dX7_meanAge_31 (by decide) ?_
        refine fa_iaddN hx hb dX7_meanAge_32 ?_
        refine fa_iald (k := 398) (j := 17 + 15 * j + 3) CX HX2850 (by omega) rfl (by omega) (by first | decide | assumption) dX7_meanAge_33 ?_
        refine lv_isub hx hb dX7_meanAge_34 ?_
        refine lv_iadd hx hb dX7_meanAge_35 ?_
        refine lv_istore_n (lv' := [(1, .int ((ac) + ((v 398 7) - (v 398 (17 + 15 * j + 3))))), (0, .ref (fa_B G + (397))), (2, .int (nI (j)))]) hx hb dX7_meanAge_36 rfl hl (by decide) rfl (fun ls hl => ?_)
        refine lv_iinc (v := nI (j + 1)) (lv' := [(2, .int (nI (j + 1))), (1, .int ((ac) + ((v 398 7) - (v 398 (17 + 15 * j + 3))))), (0, .ref (fa_B G + (397)))]) hx hb dX7_meanAge_37 hl (k := 2) rfl (nI_add (j) 1) (by decide) rfl (fun ls hl => ?_)
        refine lv_goto (tgt := 4) hx hb dX7_meanAge_40 (by decide) ?_
        exact ih_4 (j + 1) ((ac) + ((v 398 7) - (v 398 (17 + 15 * j + 3))))  _ _ _ (by omega) (⟨by omega, by rw [hi_4.2]; rfl⟩) (lv_sub hl [2, 1, 0] rfl) HX2850
  exact LOOP_4 (n4 - 0 + 1) (0) (nI (0))  _ _ _ (Nat.lt_succ_self _) (⟨Nat.zero_le _, rfl⟩) (lv_sub hl [2, 1, 0] rfl) HX
set_option maxHeartbeats 4000000 in
set_option maxRecDepth 100000 in
theorem r_stays (l : Launch) (G : fa_G) (n : Nat) (hn : 406 ≤ n) (v : fa_V) (r : fa_R) (hM : fa_RM r) (hJ : fa_MJ v) (a1 : Int32) : fa_MI l G n yX7_stays cX7_stays 4 (some .int) 6 [.ref (fa_B G + (397)), .int (a1)] v r (fa_voi r (fun x v1 => ((fa_MJ v1) ∧ (v1 397 9 = v 397 9) ∧ (v1 397 8 = v 397 8) ∧ ((v1 398 = v 398) ∧ ∀ A H, fb_MV v A H → fb_MV v1 A H ∧ x = fb_styA A a1 ∧ (¬ x = (-1 : Int32) → ∀ p, p < A.n → v1 402 p = if fb_stb A p = true then nI 1 else nI 0))) ∧ (fa_fr (397) (403) v v1))) := by
  refine fa_startI (by decide +kernel) (Nat.le_of_ble_eq_true rfl) (fun p e s m args below meth c ls Q CX hl HX RET => ?_)
  have hl : lv_has ls 4 [(0, .ref (fa_B G + (397))), (1, .int (a1))] := hl
  have hx := CX.1.1
  have hb := CX.1.2.1
  have hS := hJ.1
  obtain ⟨n4, en4⟩ : ∃ m, m = fa_N (v 398 14) := ⟨_, rfl⟩
  obtain ⟨hn4, g4⟩ := hS.n4 en4
  obtain ⟨n5, en5⟩ : ∃ m, m = fa_N (v 398 15) := ⟨_, rfl⟩
  obtain ⟨hn5, g5⟩ := hS.n5 en5
  obtain ⟨n6, en6⟩ : ∃ m, m = fa_N (v 398 16) := ⟨_, rfl⟩
  obtain ⟨hn6, g6⟩ := hS.n6 en6
  obtain ⟨n10, hn10, g10⟩ := hJ.2.2.2.2.1
  obtain ⟨n9, hn9, g9⟩ := hJ.2.2.2.2.2
  refine lv_aload_n hx hb dX7_stays_0 rfl (lv_at hl 0 rfl) ?_
  refine lv_iload_n hx hb dX7_stays_1 rfl (lv_at hl 1 rfl) ?_
  refine fa_callVip (As := [.int (a1)]) (rest := []) CX HX (r_placeOf l G n hn v r hM hJ.1 (a1)) ln_X7_60 (by omega) rfl rfl rfl rfl (Nat.le_of_ble_eq_true rfl) hl.1 ⟨Nat.le_of_ble_eq_true rfl, Nat.le_of_ble_eq_true rfl⟩ ⟨Nat.le_refl _, Nat.le_refl _⟩ dX7_stays_2 (fun x2852 H locs h2851 HX2853 => ?_)
  have h_pl2 := h2851.1
  have h_plm2 := h2851.2
  refine lv_istore_n (lv' := [(2, .int (x2852)), (0, .ref (fa_B G + (397))), (1, .int (a1))]) hx hb dX7_stays_5 rfl hl (by decide) rfl (fun ls hl => ?_)
  refine lv_iload_n hx hb dX7_stays_6 rfl (lv_at hl 0 rfl) ?_
  refine lv_iconst (v := (-1 : Int32)) hx hb dX7_stays_7 (by decide) ?_
  refine lv_icmp_ne (tgt := 13) hx hb dX7_stays_8 (by decide) (fun c_8 => ?_) (fun c_8 => ?_)
  · obtain ⟨tp, htp, etp⟩ := h_pl2.ne c_8
    refine lv_aload_n hx hb dX7_stays_13 rfl (lv_at hl 1 rfl) ?_
    refine fa_callVvu (As := []) (rest := []) CX HX2853 (r_tellStaying l G n hn v r hM hJ.1 ) ln_X7_67 (by omega) rfl rfl rfl rfl (Nat.le_of_ble_eq_true rfl) hl.1 ⟨Nat.le_of_ble_eq_true rfl, Nat.le_of_ble_eq_true rfl⟩ ⟨Nat.le_refl _, Nat.le_refl _⟩ dX7_stays_14 (fun v2855 H locs h2854 HX2856 => ?_)
    have h_tellStaying := h2854.1
    refine lv_aload_n hx hb dX7_stays_17 rfl (lv_at hl 1 rfl) ?_
    refine lv_iload_n hx hb dX7_stays_18 rfl (lv_at hl 0 rfl) ?_
    rw [show x2852 = nI (tp) from etp]
    refine fa_callVip (As := [.int (nI (tp))]) (rest := []) CX HX2856 (r_ownReason l G n hn v2855 r hM (show fa_MS (v2855 398) from by rw [h2854.2 398 (by omega)]; exact hJ.1) (tp) (by omega)) ln_X7_57 (by omega) rfl rfl rfl rfl (Nat.le_of_ble_eq_true rfl) hl.1 ⟨Nat.le_of_ble_eq_true rfl, Nat.le_of_ble_eq_true rfl⟩ ⟨Nat.le_refl _, Nat.le_refl _⟩ dX7_stays_19 (fun x2858 H locs h2857 HX2859 => ?_)
    have h_ownReason := h2857
    refine lv_istore_n (lv' := [(3, .int (x2858)), (2, .int (x2852)), (0, .ref (fa_B G + (397))), (1, .int (a1))]) hx hb dX7_stays_22 rfl hl (by decide) rfl (fun ls hl => ?_)
    refine lv_iload_n hx hb dX7_stays_23 rfl (lv_at hl 0 rfl) ?_
    refine lv_if_le (tgt := 31) hx hb dX7_stays_24 (by decide) (fun c_24 => ?_) (fun c_24 => ?_)
    · refine lv_aload_n hx hb dX7_stays_31 rfl (lv_at hl 2 rfl) ?_
      refine fa_getr (k := 397) (j := 402) CX HX2859 fl_X7_22 (by omega) rfl rfl hM.2.2.2.2.1 dX7_stays_32 ?_
      refine lv_iload_n hx hb dX7_stays_35 rfl (lv_at hl 1 rfl) ?_
      rw [show x2852 = nI (tp) from etp]
      refine fa_zald (k := 402) (j := tp) CX HX2859 (by omega) rfl (by omega) (by first | decide | assumption) dX7_stays_36 ?_
      refine lv_if_eq (tgt := 44) hx hb dX7_stays_37 (by decide) (fun c_37 => ?_) (fun c_37 => ?_)
      · refine lv_iconst (v := nI (0)) hx hb dX7_stays_44 (by decide) ?_
        exact RET _ _ _ _ _ _ _ HX2859 dX7_stays_45 (⟨rfl, ⟨⟨(show fa_MJ v2855 from ⟨(show fa_MS (v2855 398) from by rw [h2854.2 398 (by omega)]; exact hJ.1), (show fa_MS (v2855 399) from by rw [h2854.2 399 (by omega)]; exact hJ.2.1), (show fa_MS (v2855 400) from by rw [h2854.2 400 (by omega)]; exact hJ.2.2.1), (show fa_MB (v2855 401) from by rw [h2854.2 401 (by omega)]; exact hJ.2.2.2.1), ⟨n10, by omega, (by rw [h2854.2 _ (by omega)]; exact g10)⟩, ⟨n9, by omega, (by rw [h2854.2 _ (by omega)]; exact g9)⟩⟩), (show v2855 397 9 = v 397 9 from ((show v2855 397 9 = nI (n9) from (by rw [h2854.2 _ (by omega)]; exact g9)).trans g9.symm)), (show v2855 397 8 = v 397 8 from (congrFun (h2854.2 397 (by omega)) 8)), ⟨(show v2855 398 = v 398 from h2854.2 398 (by omega)), fun A H hV => by (obtain ⟨p, hp, ep, ei, e0⟩ := fb_m_pl1 hV.2.1 hV.1 h_plm2 c_8; have et : tp = p := fa_nIinj (by omega) (by have := hV.1.1.1; omega) (etp.symm.trans ep); subst et; have tl := h_tellStaying A hV.1 hV.2.1; have ho := h_ownReason.trans ((show fb_mA (v2855 398) A from by rw [h2854.2 398 (by omega)]; exact hV.2.1).own hV.1 hp); exact ⟨hV.cong (fun i _ => congrFun (h2854.2 398 (by omega)) i) (congrFun (h2854.2 397 (by omega)) 10) (h2854.2 401 (by omega)), (by rw [fb_styA_s ei]; exact fb_m_why0 ho (by first | exact c_24 | exact Decidable.not_not.mp c_24) (tl _ hp) (by first | exact c_37 | exact Decidable.not_not.mp c_37)), fun _ => tl⟩)⟩⟩, (fa_fr.tr fa_fr.rf (fa_fr.wide h2854.2 (by omega) (by omega)))⟩⟩)
      · refine lv_iconst (v := nI (4)) hx hb dX7_stays_40 (by decide) ?_
        refine lv_goto (tgt := 45) hx hb dX7_stays_41 (by decide) ?_
        exact RET _ _ _ _ _ _ _ HX2859 dX7_stays_45 (⟨rfl, ⟨⟨(show fa_MJ v2855 from ⟨(show fa_MS (v2855 398) from by rw [h2854.2 398 (by omega)]; exact hJ.1), (show fa_MS (v2855 399) from by rw [h2854.2 399 (by omega)]; exact hJ.2.1), (show fa_MS (v2855 400) from by rw [h2854.2 400 (by omega)]; exact hJ.2.2.1), (show fa_MB (v2855 401) from by rw [h2854.2 401 (by omega)]; exact hJ.2.2.2.1), ⟨n10, by omega, (by rw [h2854.2 _ (by omega)]; exact g10)⟩, ⟨n9, by omega, (by rw [h2854.2 _ (by omega)]; exact g9)⟩⟩), (show v2855 397 9 = v 397 9 from ((show v2855 397 9 = nI (n9) from (by rw [h2854.2 _ (by omega)]; exact g9)).trans g9.symm)), (show v2855 397 8 = v 397 8 from (congrFun (h2854.2 397 (by omega)) 8)), ⟨(show v2855 398 = v 398 from h2854.2 398 (by omega)), fun A H hV => by (obtain ⟨p, hp, ep, ei, e0⟩ := fb_m_pl1 hV.2.1 hV.1 h_plm2 c_8; have et : tp = p := fa_nIinj (by omega) (by have := hV.1.1.1; omega) (etp.symm.trans ep); subst et; have tl := h_tellStaying A hV.1 hV.2.1; have ho := h_ownReason.trans ((show fb_mA (v2855 398) A from by rw [h2854.2 398 (by omega)]; exact hV.2.1).own hV.1 hp); exact ⟨hV.cong (fun i _ => congrFun (h2854.2 398 (by omega)) i) (congrFun (h2854.2 397 (by omega)) 10) (h2854.2 401 (by omega)), (by rw [fb_styA_s ei]; exact fb_m_why4 ho (by first | exact c_24 | exact Decidable.not_not.mp c_24) (tl _ hp) c_37), fun _ => tl⟩)⟩⟩, (fa_fr.tr fa_fr.rf (fa_fr.wide h2854.2 (by omega) (by omega)))⟩⟩)
    · refine lv_iload_n hx hb dX7_stays_27 rfl (lv_at hl 0 rfl) ?_
      refine lv_goto (tgt := 45) hx hb dX7_stays_28 (by decide) ?_
      exact RET _ _ _ _ _ _ _ HX2859 dX7_stays_45 (⟨rfl, ⟨⟨(show fa_MJ v2855 from ⟨(show fa_MS (v2855 398) from by rw [h2854.2 398 (by omega)]; exact hJ.1), (show fa_MS (v2855 399) from by rw [h2854.2 399 (by omega)]; exact hJ.2.1), (show fa_MS (v2855 400) from by rw [h2854.2 400 (by omega)]; exact hJ.2.2.1), (show fa_MB (v2855 401) from by rw [h2854.2 401 (by omega)]; exact hJ.2.2.2.1), ⟨n10, by omega, (by rw [h2854.2 _ (by omega)]; exact g10)⟩, ⟨n9, by omega, (by rw [h2854.2 _ (by omega)]; exact g9)⟩⟩), (show v2855 397 9 = v 397 9 from ((show v2855 397 9 = nI (n9) from (by rw [h2854.2 _ (by omega)]; exact g9)).trans g9.symm)), (show v2855 397 8 = v 397 8 from (congrFun (h2854.2 397 (by omega)) 8)), ⟨(show v2855 398 = v 398 from h2854.2 398 (by omega)), fun A H hV => by (obtain ⟨p, hp, ep, ei, e0⟩ := fb_m_pl1 hV.2.1 hV.1 h_plm2 c_8; have et : tp = p := fa_nIinj (by omega) (by have := hV.1.1.1; omega) (etp.symm.trans ep); subst et; have tl := h_tellStaying A hV.1 hV.2.1; have ho := h_ownReason.trans ((show fb_mA (v2855 398) A from by rw [h2854.2 398 (by omega)]; exact hV.2.1).own hV.1 hp); exact ⟨hV.cong (fun i _ => congrFun (h2854.2 398 (by omega)) i) (congrFun (h2854.2 397 (by omega)) 10) (h2854.2 401 (by omega)), (by rw [fb_styA_s ei]; exact fb_m_whyo ho c_24), fun _ => tl⟩)⟩⟩, (fa_fr.tr fa_fr.rf (fa_fr.wide h2854.2 (by omega) (by omega)))⟩⟩)
  · refine lv_iconst (v := (-1 : Int32)) hx hb dX7_stays_11 (by decide) ?_
    exact RET _ _ _ _ _ _ _ HX2853 dX7_stays_12 (⟨rfl, ⟨⟨hJ, (show v 397 9 = v 397 9 from rfl), (show v 397 8 = v 397 8 from rfl), ⟨rfl, fun A H hV => ⟨hV, (fb_styA_n (fb_m_pl0 hV.2.1 hV.1 h_plm2 (by first | exact c_8 | exact Decidable.not_not.mp c_8))).symm, fun z => absurd rfl z⟩⟩⟩, fa_fr.rf⟩⟩)
set_option maxHeartbeats 4000000 in
set_option maxRecDepth 100000 in
theorem r_keeper (l : Launch) (G : fa_G) (n : Nat) (hn : 406 ≤ n) (v : fa_V) (r : fa_R) (hM : fa_RM r) (hJ : fa_MJ v) (a1 : Int32) : fa_MI l G n yX7_keeper cX7_keeper 5 (some .int) 8 [.ref (fa_B G + (397)), .int (a1)] v r (fa_voi r (fun x v1 => ((fa_MJ v1) ∧ (v1 397 9 = v 397 9) ∧ (v1 397 8 = v 397 8) ∧ (∀ A H, fb_MV v A H → fb_MV v1 A H ∧ x = fb_kprA A a1)) ∧ (fa_fr (397) (403) v v1))) := by
  refine fa_startI (by decide +kernel) (Nat.le_of_ble_eq_true rfl) (fun p e s m args below meth c ls Q CX hl HX RET => ?_)
  have hl : lv_has ls 5 [(0, .ref (fa_B G + (397))), (1, .int (a1))] := hl
  have hx := CX.1.1
  have hb := CX.1.2.1
  have hS := hJ.1
  obtain ⟨n4, en4⟩ : ∃ m, m = fa_N (v 398 14) := ⟨_, rfl⟩
  obtain ⟨hn4, g4⟩ := hS.n4 en4
  obtain ⟨n5, en5⟩ : ∃ m, m = fa_N (v 398 15) := ⟨_, rfl⟩
  obtain ⟨hn5, g5⟩ := hS.n5 en5
  obtain ⟨n6, en6⟩ : ∃ m, m = fa_N (v 398 16) := ⟨_, rfl⟩
  obtain ⟨hn6, g6⟩ := hS.n6 en6
  obtain ⟨n10, hn10, g10⟩ := hJ.2.2.2.2.1
  obtain ⟨n9, hn9, g9⟩ := hJ.2.2.2.2.2
  refine lv_aload_n hx hb dX7_keeper_0 rfl (lv_at hl 0 rfl) ?_
  refine lv_iload_n hx hb dX7_keeper_1 rfl (lv_at hl 1 rfl) ?_
  refine fa_callViu (As := [.int (a1)]) (rest := []) CX HX (r_stays l G n hn v r hM hJ (a1)) ln_X7_168 (by omega) rfl rfl rfl rfl (Nat.le_of_ble_eq_true rfl) hl.1 ⟨Nat.le_of_ble_eq_true rfl, Nat.le_of_ble_eq_true rfl⟩ ⟨Nat.le_refl _, Nat.le_refl _⟩ dX7_keeper_2 (fun x2861 v2862 H locs h2860 HX2863 => ?_)
  have hJ_v2862 := h2860.1.1
  obtain ⟨n10_v2862, hn10_v2862, g10_v2862⟩ := hJ_v2862.2.2.2.2.1
  have h_stays := h2860.1.2.2.2
  refine lv_istore_n (lv' := [(2, .int (x2861)), (0, .ref (fa_B G + (397))), (1, .int (a1))]) hx hb dX7_keeper_5 rfl hl (by decide) rfl (fun ls hl => ?_)
  refine lv_iload_n hx hb dX7_keeper_6 rfl (lv_at hl 0 rfl) ?_
  refine lv_iconst (v := nI (4)) hx hb dX7_keeper_7 (by decide) ?_
  refine lv_icmp_eq (tgt := 23) hx hb dX7_keeper_8 (by decide) (fun c_8 => ?_) (fun c_8 => ?_)
  · refine lv_bipush (v := (-6 : Int32)) hx hb dX7_keeper_23 (by decide) ?_
    refine lv_istore_n (lv' := [(3, .int ((-6 : Int32))), (2, .int (x2861)), (0, .ref (fa_B G + (397))), (1, .int (a1))]) hx hb dX7_keeper_25 rfl hl (by decide) rfl (fun ls hl => ?_)
    refine lv_aload_n hx hb dX7_keeper_26 rfl (lv_at hl 2 rfl) ?_
    refine fa_getr (k := 397) (j := 398) CX HX2863 fl_X7_7 (by omega) rfl rfl hM.1 dX7_keeper_27 ?_
    refine lv_bipush (v := nI (14)) hx hb dX7_keeper_30 (by decide) ?_
    refine fa_iald (k := 398) (j := 14) CX HX2863 (by omega) rfl (by omega) (by first | decide | assumption) dX7_keeper_32 ?_
    rw [show v2862 398 14 = nI (n4) from ((congrFun h_stays.1 14).trans g4)]
    refine lv_iconst (v := nI (1)) hx hb dX7_keeper_33 (by decide) ?_
    refine lv_isub hx hb dX7_keeper_34 ?_
    refine lv_istore (lv' := [(4, .int ((nI (n4)) - (nI (1)))), (3, .int ((-6 : Int32))), (2, .int (x2861)), (0, .ref (fa_B G + (397))), (1, .int (a1))]) hx hb dX7_keeper_35 hl (by decide) rfl (fun ls hl => ?_)
    have LOOP_37 : ∀ (fu : Nat) (kv : Int32) (kk : Nat) (fo : Int32) (H : Heap) (locs : List Loc) (ls : Array Slot), kk < fu → (kv = nI kk - nI 1 ∧ kk ≤ n4 ∧ ∀ A H, fb_MV v A H → fb_kq A a1 kk fo) → lv_has ls 5 [(0, .ref (fa_B G + (397))), (1, .int (a1)), (3, .int (fo)), (4, .int (kv))] → fa_HX G (n) v2862 r s H locs → W p l e (fa_rm 8) s m args below meth c H locs (0) (0) Q (F0 m 37 ls []) := by
      intro fu
      induction fu with
      | zero => intro kv kk fo H locs ls hk; exact absurd hk (Nat.not_lt_zero _)
      | succ fu ih_37 =>
        intro kv kk fo H locs ls hk_37 hi_37 hl HX2864
        refine lv_iload hx hb dX7_keeper_37 (lv_at hl 3 rfl) ?_
        refine lv_if_lt (tgt := 90) hx hb dX7_keeper_39 (by decide) (fun c_39 => ?_) (fun c_39 => ?_)
        · refine lv_iload_n hx hb dX7_keeper_90 rfl (lv_at hl 2 rfl) ?_
          exact RET _ _ _ _ _ _ _ HX2864 dX7_keeper_91 (⟨rfl, ⟨⟨hJ_v2862, (show v2862 397 9 = v 397 9 from ((show v2862 397 9 = nI (n9) from ((h2860.1.2.1).trans g9)).trans g9.symm)), (show v2862 397 8 = v 397 8 from h2860.1.2.2.1), (fun A H hV => by (obtain ⟨hW, sx, st⟩ := h_stays.2 A H hV; refine ⟨hW, ?_⟩; rw [fb_kprA, if_neg (by rw [← sx, c_8]; decide), if_pos (by rw [← sx]; exact c_8)]; have z := hi_37.2.2 A H hV; rw [fb_kk0 (by omega) hi_37.1 c_39] at z; exact z.e hV.1))⟩, (fa_fr.tr fa_fr.rf (fa_fr.wide h2860.2 (by omega) (by omega)))⟩⟩)
        · obtain ⟨jj, ejj, ejk⟩ := fa_pred (by omega) (show ¬ (nI kk - nI 1 : Int32) < 0 from by rw [← hi_37.1]; exact c_39)
          have ejk := hi_37.1.trans ejk
          refine lv_aload_n hx hb dX7_keeper_42 rfl (lv_at hl 0 rfl) ?_
          refine fa_getr (k := 397) (j := 402) CX HX2864 fl_X7_22 (by omega) rfl rfl hM.2.2.2.2.1 dX7_keeper_43 ?_
          refine lv_iload hx hb dX7_keeper_46 (lv_at hl 3 rfl) ?_
          rw [show kv = nI (jj) from ejk]
          refine fa_zald (k := 402) (j := jj) CX HX2864 (by omega) rfl (by omega) (by first | decide | assumption) dX7_keeper_48 ?_
          refine lv_if_eq (tgt := 82) hx hb dX7_keeper_49 (by decide) (fun c_49 => ?_) (fun c_49 => ?_)
          · refine lv_iload_n hx hb dX7_keeper_82 rfl (lv_at hl 2 rfl) ?_
            refine lv_istore_n (lv' := [(3, .int (fo)), (0, .ref (fa_B G + (397))), (1, .int (a1)), (4, .int (kv))]) hx hb dX7_keeper_83 rfl hl (by decide) rfl (fun ls hl => ?_)
            refine lv_iinc (v := kv + (-1)) (lv' := [(4, .int (kv + (-1))), (3, .int (fo)), (0, .ref (fa_B G + (397))), (1, .int (a1))]) hx hb dX7_keeper_84 hl (k := 3) rfl rfl (by decide) rfl (fun ls hl => ?_)
            refine lv_goto (tgt := 37) hx hb dX7_keeper_87 (by decide) ?_
            exact ih_37 (kv + (-1)) (jj) (fo)  _ _ _ (by omega) (⟨(by rw [ejk]; exact fa_predS jj), by omega, (fun A H hV => by (obtain ⟨hW, sx, st⟩ := h_stays.2 A H hV; have hp : jj < A.n := (by rw [← hV.2.1.n, ← en4]; omega); have tl := st (by rw [c_8]; decide) jj hp; have hq := hi_37.2.2 A H hV; rw [ejj] at hq; exact hq.no (fun z => (fb_stb_w tl).mp z.2 (by first | exact c_49 | exact Decidable.not_not.mp c_49))))⟩) (lv_sub hl [2, 3, 1, 0] rfl) HX2864
          · refine lv_aload_n hx hb dX7_keeper_52 rfl (lv_at hl 0 rfl) ?_
            refine fa_getr (k := 397) (j := 398) CX HX2864 fl_X7_7 (by omega) rfl rfl hM.1 dX7_keeper_53 ?_
            refine lv_iload hx hb dX7_keeper_56 (lv_at hl 3 rfl) ?_
            rw [show kv = nI (jj) from ejk]
            refine fa_callSip (As := [.int (nI (jj))]) (rest := [.ref (fa_B G + (398))]) CX HX2864 (r_f l G n v2862 r (jj)) ln_X7_36 rfl rfl (Nat.le_of_ble_eq_true rfl) hl.1 ⟨Nat.le_of_ble_eq_true rfl, Nat.le_of_ble_eq_true rfl⟩ ⟨Nat.le_refl _, Nat.le_refl _⟩ dX7_keeper_58 (fun x2866 H locs h2865 HX2867 => ?_)
            subst h2865
            refine lv_bipush (v := nI (6)) hx hb dX7_keeper_61 (by decide) ?_
            refine fa_iaddN hx hb dX7_keeper_63 ?_
            refine fa_iald (k := 398) (j := 17 + 15 * jj + 6) CX HX2867 (by omega) rfl (by omega) (by first | decide | assumption) dX7_keeper_64 ?_
            refine lv_iload_n hx hb dX7_keeper_65 rfl (lv_at hl 1 rfl) ?_
            refine lv_icmp_ne (tgt := 82) hx hb dX7_keeper_66 (by decide) (fun c_66 => ?_) (fun c_66 => ?_)
            · refine lv_iload_n hx hb dX7_keeper_82 rfl (lv_at hl 2 rfl) ?_
              refine lv_istore_n (lv' := [(3, .int (fo)), (0, .ref (fa_B G + (397))), (1, .int (a1)), (4, .int (kv))]) hx hb dX7_keeper_83 rfl hl (by decide) rfl (fun ls hl => ?_)
              refine lv_iinc (v := kv + (-1)) (lv' := [(4, .int (kv + (-1))), (3, .int (fo)), (0, .ref (fa_B G + (397))), (1, .int (a1))]) hx hb dX7_keeper_84 hl (k := 3) rfl rfl (by decide) rfl (fun ls hl => ?_)
              refine lv_goto (tgt := 37) hx hb dX7_keeper_87 (by decide) ?_
              exact ih_37 (kv + (-1)) (jj) (fo)  _ _ _ (by omega) (⟨(by rw [ejk]; exact fa_predS jj), by omega, (fun A H hV => by (obtain ⟨hW, sx, st⟩ := h_stays.2 A H hV; have hp : jj < A.n := (by rw [← hV.2.1.n, ← en4]; omega); have tl := st (by rw [c_8]; decide) jj hp; have hq := hi_37.2.2 A H hV; rw [ejj] at hq; exact hq.no (fun z => c_66 ((hW.2.1.F hp (i := 6) (by decide)).trans z.1))))⟩) (lv_sub hl [2, 3, 1, 0] rfl) HX2867
            · refine lv_aload_n hx hb dX7_keeper_69 rfl (lv_at hl 0 rfl) ?_
              refine fa_getr (k := 397) (j := 398) CX HX2867 fl_X7_7 (by omega) rfl rfl hM.1 dX7_keeper_70 ?_
              refine lv_iload hx hb dX7_keeper_73 (lv_at hl 3 rfl) ?_
              rw [show kv = nI (jj) from ejk]
              refine fa_callSip (As := [.int (nI (jj))]) (rest := [.ref (fa_B G + (398))]) CX HX2867 (r_f l G n v2862 r (jj)) ln_X7_36 rfl rfl (Nat.le_of_ble_eq_true rfl) hl.1 ⟨Nat.le_of_ble_eq_true rfl, Nat.le_of_ble_eq_true rfl⟩ ⟨Nat.le_refl _, Nat.le_refl _⟩ dX7_keeper_75 (fun x2869 H locs h2868 HX2870 => ?_)
              subst h2868
              refine fa_iald (k := 398) (j := 17 + 15 * jj) CX HX2870 (by omega) rfl (by omega) (by first | decide | assumption) dX7_keeper_78 ?_
              refine lv_goto (tgt := 83) hx hb dX7_keeper_79 (by decide) ?_
              refine lv_istore_n (lv' := [(3, .int (v2862 398 (17 + 15 * jj))), (0, .ref (fa_B G + (397))), (1, .int (a1)), (4, .int (kv))]) hx hb dX7_keeper_83 rfl hl (by decide) rfl (fun ls hl => ?_)
              refine lv_iinc (v := kv + (-1)) (lv' := [(4, .int (kv + (-1))), (3, .int (v2862 398 (17 + 15 * jj))), (0, .ref (fa_B G + (397))), (1, .int (a1))]) hx hb dX7_keeper_84 hl (k := 3) rfl rfl (by decide) rfl (fun ls hl => ?_)
              refine lv_goto (tgt := 37) hx hb dX7_keeper_87 (by decide) ?_
              exact ih_37 (kv + (-1)) (jj) (v2862 398 (17 + 15 * jj))  _ _ _ (by omega) (⟨(by rw [ejk]; exact fa_predS jj), by omega, (fun A H hV => by (obtain ⟨hW, sx, st⟩ := h_stays.2 A H hV; have hp : jj < A.n := (by rw [← hV.2.1.n, ← en4]; omega); have tl := st (by rw [c_8]; decide) jj hp; have hq := hi_37.2.2 A H hV; rw [ejj] at hq; exact fb_kq.yes hp ⟨(hW.2.1.F hp (i := 6) (by decide)).symm.trans (by first | exact c_66 | exact Decidable.not_not.mp c_66), (fb_stb_w tl).mpr c_49⟩ (hW.2.1.F0 hp)))⟩) (lv_sub hl [2, 3, 1, 0] rfl) HX2870
    exact LOOP_37 (n4 + 1) ((nI (n4)) - (nI (1))) (n4) ((-6 : Int32))  _ _ _ (Nat.lt_succ_self _) (⟨rfl, Nat.le_refl _, fun A H hV => fb_kq.start (by rw [← hV.2.1.n, ← en4])⟩) (lv_sub hl [3, 4, 1, 0] rfl) HX2863
  · refine lv_iload_n hx hb dX7_keeper_11 rfl (lv_at hl 0 rfl) ?_
    refine lv_iconst (v := (-1 : Int32)) hx hb dX7_keeper_12 (by decide) ?_
    refine lv_icmp_ne (tgt := 20) hx hb dX7_keeper_13 (by decide) (fun c_13 => ?_) (fun c_13 => ?_)
    · refine lv_bipush (v := (-6 : Int32)) hx hb dX7_keeper_20 (by decide) ?_
      exact RET _ _ _ _ _ _ _ HX2863 dX7_keeper_22 (⟨rfl, ⟨⟨hJ_v2862, (show v2862 397 9 = v 397 9 from ((show v2862 397 9 = nI (n9) from ((h2860.1.2.1).trans g9)).trans g9.symm)), (show v2862 397 8 = v 397 8 from h2860.1.2.2.1), (fun A H hV => by (obtain ⟨hW, sx, st⟩ := h_stays.2 A H hV; refine ⟨hW, ?_⟩; rw [fb_kprA, if_neg (by rw [← sx]; exact c_13), if_neg (by rw [← sx]; exact c_8)]))⟩, (fa_fr.tr fa_fr.rf (fa_fr.wide h2860.2 (by omega) (by omega)))⟩⟩)
    · refine lv_iconst (v := (-1 : Int32)) hx hb dX7_keeper_16 (by decide) ?_
      refine lv_goto (tgt := 22) hx hb dX7_keeper_17 (by decide) ?_
      exact RET _ _ _ _ _ _ _ HX2863 dX7_keeper_22 (⟨rfl, ⟨⟨hJ_v2862, (show v2862 397 9 = v 397 9 from ((show v2862 397 9 = nI (n9) from ((h2860.1.2.1).trans g9)).trans g9.symm)), (show v2862 397 8 = v 397 8 from h2860.1.2.2.1), (fun A H hV => by (obtain ⟨hW, sx, st⟩ := h_stays.2 A H hV; refine ⟨hW, ?_⟩; rw [fb_kprA, if_pos (by rw [← sx]; exact (by first | exact c_13 | exact Decidable.not_not.mp c_13))]))⟩, (fa_fr.tr fa_fr.rf (fa_fr.wide h2860.2 (by omega) (by omega)))⟩⟩)
set_option maxHeartbeats 4000000 in
set_option maxRecDepth 100000 in
theorem r_burntIn (l : Launch) (G : fa_G) (n : Nat) (hn : 406 ≤ n) (v : fa_V) (r : fa_R) (hM : fa_RM r) (hJ : fa_MJ v) (a1 : Int32) : fa_MI l G n yX7_burntIn cX7_burntIn 4 (some .int) 10 [.ref (fa_B G + (397)), .int (a1)] v r (fa_voi r (fun x v1 => ((fa_MJ v1) ∧ (v1 397 9 = v 397 9) ∧ (v1 397 8 = v 397 8) ∧ (∀ A H, fb_MV v A H → fb_MV v1 A H)) ∧ (fa_fr (397) (403) v v1))) := by
  refine fa_startI (by decide +kernel) (Nat.le_of_ble_eq_true rfl) (fun p e s m args below meth c ls Q CX hl HX RET => ?_)
  have hl : lv_has ls 4 [(0, .ref (fa_B G + (397))), (1, .int (a1))] := hl
  have hx := CX.1.1
  have hb := CX.1.2.1
  have hS := hJ.1
  obtain ⟨n4, en4⟩ : ∃ m, m = fa_N (v 398 14) := ⟨_, rfl⟩
  obtain ⟨hn4, g4⟩ := hS.n4 en4
  obtain ⟨n5, en5⟩ : ∃ m, m = fa_N (v 398 15) := ⟨_, rfl⟩
  obtain ⟨hn5, g5⟩ := hS.n5 en5
  obtain ⟨n6, en6⟩ : ∃ m, m = fa_N (v 398 16) := ⟨_, rfl⟩
  obtain ⟨hn6, g6⟩ := hS.n6 en6
  obtain ⟨n10, hn10, g10⟩ := hJ.2.2.2.2.1
  obtain ⟨n9, hn9, g9⟩ := hJ.2.2.2.2.2
  refine lv_aload_n hx hb dX7_burntIn_0 rfl (lv_at hl 0 rfl) ?_
  refine lv_iload_n hx hb dX7_burntIn_1 rfl (lv_at hl 1 rfl) ?_
  refine fa_callVip (As := [.int (a1)]) (rest := []) CX HX (r_placeOf l G n hn v r hM hJ.1 (a1)) ln_X7_60 (by omega) rfl rfl rfl rfl (Nat.le_of_ble_eq_true rfl) hl.1 ⟨Nat.le_of_ble_eq_true rfl, Nat.le_of_ble_eq_true rfl⟩ ⟨Nat.le_refl _, Nat.le_refl _⟩ dX7_burntIn_2 (fun x2872 H locs h2871 HX2873 => ?_)
  have h_pl2 := h2871.1
  have h_plm2 := h2871.2
  refine lv_iconst (v := (-1 : Int32)) hx hb dX7_burntIn_5 (by decide) ?_
  refine lv_icmp_ne (tgt := 11) hx hb dX7_burntIn_6 (by decide) (fun c_6 => ?_) (fun c_6 => ?_)
  · refine lv_aload_n hx hb dX7_burntIn_11 rfl (lv_at hl 0 rfl) ?_
    refine fa_callVvu (As := []) (rest := []) CX HX2873 (r_keepTrial l G n hn v r hM) ln_X7_171 (by omega) rfl rfl rfl rfl (Nat.le_of_ble_eq_true rfl) hl.1 ⟨Nat.le_of_ble_eq_true rfl, Nat.le_of_ble_eq_true rfl⟩ ⟨Nat.le_refl _, Nat.le_refl _⟩ dX7_burntIn_12 (fun v2875 H locs h2874 HX2876 => ?_)
    have h_keepTrial := h2874.1
    refine lv_iconst (v := nI (0)) hx hb dX7_burntIn_15 (by decide) ?_
    refine lv_istore_n (lv' := [(2, .int (nI (0))), (0, .ref (fa_B G + (397))), (1, .int (a1))]) hx hb dX7_burntIn_16 rfl hl (by decide) rfl (fun ls hl => ?_)
    have LOOP_17 : ∀ (fu : Nat) (dn : Nat) (v2877 : fa_V) (H : Heap) (locs : List Loc) (ls : Array Slot), 3000 - dn < fu → (dn ≤ 3000 ∧ fa_MS (v2877 398) ∧ fa_f2 v2875 v2877) → lv_has ls 4 [(0, .ref (fa_B G + (397))), (1, .int (a1)), (2, .int (nI (dn)))] → fa_HX G (n) v2877 r s H locs → W p l e (fa_rm 10) s m args below meth c H locs (0) (0) Q (F0 m 17 ls []) := by
      intro fu
      induction fu with
      | zero => intro dn v2877 H locs ls hk; exact absurd hk (Nat.not_lt_zero _)
      | succ fu ih_17 =>
        intro dn v2877 H locs ls hk_17 hi_17 hl HX2878
        refine lv_iload_n hx hb dX7_burntIn_17 rfl (lv_at hl 2 rfl) ?_
        refine lv_sipush (v := nI (3000)) hx hb dX7_burntIn_18 (by decide) ?_
        refine lv_icmp_ge (tgt := 44) hx hb dX7_burntIn_21 (by decide) (fun c_21 => ?_) (fun c_21 => ?_)
        · refine lv_aload_n hx hb dX7_burntIn_44 rfl (lv_at hl 0 rfl) ?_
          refine lv_iload_n hx hb dX7_burntIn_45 rfl (lv_at hl 1 rfl) ?_
          refine fa_callVip (As := [.int (a1)]) (rest := []) CX HX2878 (r_placeOf l G n hn v2877 r hM hi_17.2.1 (a1)) ln_X7_60 (by omega) rfl rfl rfl rfl (Nat.le_of_ble_eq_true rfl) hl.1 ⟨Nat.le_of_ble_eq_true rfl, Nat.le_of_ble_eq_true rfl⟩ ⟨Nat.le_refl _, Nat.le_refl _⟩ dX7_burntIn_46 (fun x2880 H locs h2879 HX2881 => ?_)
          have h_pl46 := h2879.1
          have h_plm46 := h2879.2
          refine lv_iconst (v := (-1 : Int32)) hx hb dX7_burntIn_49 (by decide) ?_
          refine lv_icmp_ne (tgt := 57) hx hb dX7_burntIn_50 (by decide) (fun c_50 => ?_) (fun c_50 => ?_)
          · refine lv_iconst (v := nI (0)) hx hb dX7_burntIn_57 (by decide) ?_
            refine lv_istore_n (lv' := [(3, .int (nI (0))), (0, .ref (fa_B G + (397))), (1, .int (a1)), (2, .int (nI (dn)))]) hx hb dX7_burntIn_58 rfl hl (by decide) rfl (fun ls hl => ?_)
            refine lv_aload_n hx hb dX7_burntIn_59 rfl (lv_at hl 1 rfl) ?_
            refine fa_callVvu (As := []) (rest := []) CX HX2881 (r_putBack l G n hn v2877 r hM) ln_X7_174 (by omega) rfl rfl rfl rfl (Nat.le_of_ble_eq_true rfl) hl.1 ⟨Nat.le_of_ble_eq_true rfl, Nat.le_of_ble_eq_true rfl⟩ ⟨Nat.le_refl _, Nat.le_refl _⟩ dX7_burntIn_60 (fun v2883 H locs h2882 HX2884 => ?_)
            have h_putBack := h2882.1
            refine lv_iload_n hx hb dX7_burntIn_63 rfl (lv_at hl 0 rfl) ?_
            refine lv_if_eq (tgt := 71) hx hb dX7_burntIn_64 (by decide) (fun c_64 => ?_) (fun c_64 => ?_)
            · refine lv_bipush (v := (-6 : Int32)) hx hb dX7_burntIn_71 (by decide) ?_
              exact RET _ _ _ _ _ _ _ HX2884 dX7_burntIn_73 (⟨rfl, ⟨⟨(show fa_MJ v2883 from ⟨(fa_MS.cp (show fa_MS (v2877 400) from by rw [hi_17.2.2 400 (by decide) (by decide)]; exact (fa_MS.cp hJ.1 h2874.1)) h2882.1), (show fa_MS (v2883 399) from by rw [h2882.2 399 (by omega)]; exact (show fa_MS (v2877 399) from by rw [hi_17.2.2 399 (by decide) (by decide)]; exact (show fa_MS (v2875 399) from by rw [h2874.2 399 (by omega)]; exact hJ.2.1))), (show fa_MS (v2883 400) from by rw [h2882.2 400 (by omega)]; exact (show fa_MS (v2877 400) from by rw [hi_17.2.2 400 (by decide) (by decide)]; exact (fa_MS.cp hJ.1 h2874.1))), (show fa_MB (v2883 401) from by rw [h2882.2 401 (by omega)]; exact (show fa_MB (v2877 401) from by rw [hi_17.2.2 401 (by decide) (by decide)]; exact (show fa_MB (v2875 401) from by rw [h2874.2 401 (by omega)]; exact hJ.2.2.2.1))), ⟨n10, by omega, (by rw [h2882.2 _ (by omega)]; exact (by rw [(fa_f2.fr hi_17.2.2) _ (by omega)]; exact (by rw [h2874.2 _ (by omega)]; exact g10)))⟩, ⟨n9, by omega, (by rw [h2882.2 _ (by omega)]; exact (by rw [(fa_f2.fr hi_17.2.2) _ (by omega)]; exact (by rw [h2874.2 _ (by omega)]; exact g9)))⟩⟩), (show v2883 397 9 = v 397 9 from ((show v2883 397 9 = nI (n9) from (by rw [h2882.2 _ (by omega)]; exact (by rw [(fa_f2.fr hi_17.2.2) _ (by omega)]; exact (by rw [h2874.2 _ (by omega)]; exact g9)))).trans g9.symm)), (show v2883 397 8 = v 397 8 from ((congrFun (h2882.2 397 (by omega)) 8).trans ((congrFun ((fa_f2.fr hi_17.2.2) 397 (by omega)) 8).trans (congrFun (h2874.2 397 (by omega)) 8)))), (fun A H hV => hV.cong (fun i hi => ((h_putBack i hi).trans (congrFun (hi_17.2.2 400 (by decide) (by decide)) i)).trans (h_keepTrial i hi)) (congrFun (show v2883 397 = v 397 from by rw [h2882.2 397 (by omega), hi_17.2.2 397 (by decide) (by decide), h2874.2 397 (by omega)]) 10) (show v2883 401 = v 401 from by rw [h2882.2 401 (by omega), hi_17.2.2 401 (by decide) (by decide), h2874.2 401 (by omega)]))⟩, (fa_fr.tr (fa_fr.tr (fa_fr.tr fa_fr.rf (fa_fr.wide h2874.2 (by omega) (by omega))) (fa_fr.wide (fa_f2.fr hi_17.2.2) (by omega) (by omega))) (fa_fr.wide h2882.2 (by omega) (by omega)))⟩⟩)
            · exact absurd (by try decide) c_64
          · refine lv_iconst (v := nI (1)) hx hb dX7_burntIn_53 (by decide) ?_
            refine lv_goto (tgt := 58) hx hb dX7_burntIn_54 (by decide) ?_
            refine lv_istore_n (lv' := [(3, .int (nI (1))), (0, .ref (fa_B G + (397))), (1, .int (a1)), (2, .int (nI (dn)))]) hx hb dX7_burntIn_58 rfl hl (by decide) rfl (fun ls hl => ?_)
            refine lv_aload_n hx hb dX7_burntIn_59 rfl (lv_at hl 1 rfl) ?_
            refine fa_callVvu (As := []) (rest := []) CX HX2881 (r_putBack l G n hn v2877 r hM) ln_X7_174 (by omega) rfl rfl rfl rfl (Nat.le_of_ble_eq_true rfl) hl.1 ⟨Nat.le_of_ble_eq_true rfl, Nat.le_of_ble_eq_true rfl⟩ ⟨Nat.le_refl _, Nat.le_refl _⟩ dX7_burntIn_60 (fun v2886 H locs h2885 HX2887 => ?_)
            have h_putBack := h2885.1
            refine lv_iload_n hx hb dX7_burntIn_63 rfl (lv_at hl 0 rfl) ?_
            refine lv_if_eq (tgt := 71) hx hb dX7_burntIn_64 (by decide) (fun c_64 => ?_) (fun c_64 => ?_)
            · exact absurd c_64 (by try decide)
            · refine lv_iload_n hx hb dX7_burntIn_67 rfl (lv_at hl 3 rfl) ?_
              refine lv_goto (tgt := 73) hx hb dX7_burntIn_68 (by decide) ?_
              exact RET _ _ _ _ _ _ _ HX2887 dX7_burntIn_73 (⟨rfl, ⟨⟨(show fa_MJ v2886 from ⟨(fa_MS.cp (show fa_MS (v2877 400) from by rw [hi_17.2.2 400 (by decide) (by decide)]; exact (fa_MS.cp hJ.1 h2874.1)) h2885.1), (show fa_MS (v2886 399) from by rw [h2885.2 399 (by omega)]; exact (show fa_MS (v2877 399) from by rw [hi_17.2.2 399 (by decide) (by decide)]; exact (show fa_MS (v2875 399) from by rw [h2874.2 399 (by omega)]; exact hJ.2.1))), (show fa_MS (v2886 400) from by rw [h2885.2 400 (by omega)]; exact (show fa_MS (v2877 400) from by rw [hi_17.2.2 400 (by decide) (by decide)]; exact (fa_MS.cp hJ.1 h2874.1))), (show fa_MB (v2886 401) from by rw [h2885.2 401 (by omega)]; exact (show fa_MB (v2877 401) from by rw [hi_17.2.2 401 (by decide) (by decide)]; exact (show fa_MB (v2875 401) from by rw [h2874.2 401 (by omega)]; exact hJ.2.2.2.1))), ⟨n10, by omega, (by rw [h2885.2 _ (by omega)]; exact (by rw [(fa_f2.fr hi_17.2.2) _ (by omega)]; exact (by rw [h2874.2 _ (by omega)]; exact g10)))⟩, ⟨n9, by omega, (by rw [h2885.2 _ (by omega)]; exact (by rw [(fa_f2.fr hi_17.2.2) _ (by omega)]; exact (by rw [h2874.2 _ (by omega)]; exact g9)))⟩⟩), (show v2886 397 9 = v 397 9 from ((show v2886 397 9 = nI (n9) from (by rw [h2885.2 _ (by omega)]; exact (by rw [(fa_f2.fr hi_17.2.2) _ (by omega)]; exact (by rw [h2874.2 _ (by omega)]; exact g9)))).trans g9.symm)), (show v2886 397 8 = v 397 8 from ((congrFun (h2885.2 397 (by omega)) 8).trans ((congrFun ((fa_f2.fr hi_17.2.2) 397 (by omega)) 8).trans (congrFun (h2874.2 397 (by omega)) 8)))), (fun A H hV => hV.cong (fun i hi => ((h_putBack i hi).trans (congrFun (hi_17.2.2 400 (by decide) (by decide)) i)).trans (h_keepTrial i hi)) (congrFun (show v2886 397 = v 397 from by rw [h2885.2 397 (by omega), hi_17.2.2 397 (by decide) (by decide), h2874.2 397 (by omega)]) 10) (show v2886 401 = v 401 from by rw [h2885.2 401 (by omega), hi_17.2.2 401 (by decide) (by decide), h2874.2 401 (by omega)]))⟩, (fa_fr.tr (fa_fr.tr (fa_fr.tr fa_fr.rf (fa_fr.wide h2874.2 (by omega) (by omega))) (fa_fr.wide (fa_f2.fr hi_17.2.2) (by omega) (by omega))) (fa_fr.wide h2885.2 (by omega) (by omega)))⟩⟩)
        · have hd := fa_ltN (by omega) (by omega) c_21
          refine lv_aload_n hx hb dX7_burntIn_24 rfl (lv_at hl 0 rfl) ?_
          refine lv_iload_n hx hb dX7_burntIn_25 rfl (lv_at hl 1 rfl) ?_
          refine fa_callVip (As := [.int (a1)]) (rest := []) CX HX2878 (r_placeOf l G n hn v2877 r hM hi_17.2.1 (a1)) ln_X7_60 (by omega) rfl rfl rfl rfl (Nat.le_of_ble_eq_true rfl) hl.1 ⟨Nat.le_of_ble_eq_true rfl, Nat.le_of_ble_eq_true rfl⟩ ⟨Nat.le_refl _, Nat.le_refl _⟩ dX7_burntIn_26 (fun x2889 H locs h2888 HX2890 => ?_)
          have h_pl26 := h2888.1
          have h_plm26 := h2888.2
          refine lv_iconst (v := (-1 : Int32)) hx hb dX7_burntIn_29 (by decide) ?_
          refine lv_icmp_eq (tgt := 44) hx hb dX7_burntIn_30 (by decide) (fun c_30 => ?_) (fun c_30 => ?_)
          · refine lv_aload_n hx hb dX7_burntIn_44 rfl (lv_at hl 0 rfl) ?_
            refine lv_iload_n hx hb dX7_burntIn_45 rfl (lv_at hl 1 rfl) ?_
            refine fa_callVip (As := [.int (a1)]) (rest := []) CX HX2890 (r_placeOf l G n hn v2877 r hM hi_17.2.1 (a1)) ln_X7_60 (by omega) rfl rfl rfl rfl (Nat.le_of_ble_eq_true rfl) hl.1 ⟨Nat.le_of_ble_eq_true rfl, Nat.le_of_ble_eq_true rfl⟩ ⟨Nat.le_refl _, Nat.le_refl _⟩ dX7_burntIn_46 (fun x2892 H locs h2891 HX2893 => ?_)
            have h_pl46 := h2891.1
            have h_plm46 := h2891.2
            refine lv_iconst (v := (-1 : Int32)) hx hb dX7_burntIn_49 (by decide) ?_
            refine lv_icmp_ne (tgt := 57) hx hb dX7_burntIn_50 (by decide) (fun c_50 => ?_) (fun c_50 => ?_)
            · refine lv_iconst (v := nI (0)) hx hb dX7_burntIn_57 (by decide) ?_
              refine lv_istore_n (lv' := [(3, .int (nI (0))), (0, .ref (fa_B G + (397))), (1, .int (a1)), (2, .int (nI (dn)))]) hx hb dX7_burntIn_58 rfl hl (by decide) rfl (fun ls hl => ?_)
              refine lv_aload_n hx hb dX7_burntIn_59 rfl (lv_at hl 1 rfl) ?_
              refine fa_callVvu (As := []) (rest := []) CX HX2893 (r_putBack l G n hn v2877 r hM) ln_X7_174 (by omega) rfl rfl rfl rfl (Nat.le_of_ble_eq_true rfl) hl.1 ⟨Nat.le_of_ble_eq_true rfl, Nat.le_of_ble_eq_true rfl⟩ ⟨Nat.le_refl _, Nat.le_refl _⟩ dX7_burntIn_60 (fun v2895 H locs h2894 HX2896 => ?_)
              have h_putBack := h2894.1
              refine lv_iload_n hx hb dX7_burntIn_63 rfl (lv_at hl 0 rfl) ?_
              refine lv_if_eq (tgt := 71) hx hb dX7_burntIn_64 (by decide) (fun c_64 => ?_) (fun c_64 => ?_)
              · refine lv_bipush (v := (-6 : Int32)) hx hb dX7_burntIn_71 (by decide) ?_
                exact RET _ _ _ _ _ _ _ HX2896 dX7_burntIn_73 (⟨rfl, ⟨⟨(show fa_MJ v2895 from ⟨(fa_MS.cp (show fa_MS (v2877 400) from by rw [hi_17.2.2 400 (by decide) (by decide)]; exact (fa_MS.cp hJ.1 h2874.1)) h2894.1), (show fa_MS (v2895 399) from by rw [h2894.2 399 (by omega)]; exact (show fa_MS (v2877 399) from by rw [hi_17.2.2 399 (by decide) (by decide)]; exact (show fa_MS (v2875 399) from by rw [h2874.2 399 (by omega)]; exact hJ.2.1))), (show fa_MS (v2895 400) from by rw [h2894.2 400 (by omega)]; exact (show fa_MS (v2877 400) from by rw [hi_17.2.2 400 (by decide) (by decide)]; exact (fa_MS.cp hJ.1 h2874.1))), (show fa_MB (v2895 401) from by rw [h2894.2 401 (by omega)]; exact (show fa_MB (v2877 401) from by rw [hi_17.2.2 401 (by decide) (by decide)]; exact (show fa_MB (v2875 401) from by rw [h2874.2 401 (by omega)]; exact hJ.2.2.2.1))), ⟨n10, by omega, (by rw [h2894.2 _ (by omega)]; exact (by rw [(fa_f2.fr hi_17.2.2) _ (by omega)]; exact (by rw [h2874.2 _ (by omega)]; exact g10)))⟩, ⟨n9, by omega, (by rw [h2894.2 _ (by omega)]; exact (by rw [(fa_f2.fr hi_17.2.2) _ (by omega)]; exact (by rw [h2874.2 _ (by omega)]; exact g9)))⟩⟩), (show v2895 397 9 = v 397 9 from ((show v2895 397 9 = nI (n9) from (by rw [h2894.2 _ (by omega)]; exact (by rw [(fa_f2.fr hi_17.2.2) _ (by omega)]; exact (by rw [h2874.2 _ (by omega)]; exact g9)))).trans g9.symm)), (show v2895 397 8 = v 397 8 from ((congrFun (h2894.2 397 (by omega)) 8).trans ((congrFun ((fa_f2.fr hi_17.2.2) 397 (by omega)) 8).trans (congrFun (h2874.2 397 (by omega)) 8)))), (fun A H hV => hV.cong (fun i hi => ((h_putBack i hi).trans (congrFun (hi_17.2.2 400 (by decide) (by decide)) i)).trans (h_keepTrial i hi)) (congrFun (show v2895 397 = v 397 from by rw [h2894.2 397 (by omega), hi_17.2.2 397 (by decide) (by decide), h2874.2 397 (by omega)]) 10) (show v2895 401 = v 401 from by rw [h2894.2 401 (by omega), hi_17.2.2 401 (by decide) (by decide), h2874.2 401 (by omega)]))⟩, (fa_fr.tr (fa_fr.tr (fa_fr.tr fa_fr.rf (fa_fr.wide h2874.2 (by omega) (by omega))) (fa_fr.wide (fa_f2.fr hi_17.2.2) (by omega) (by omega))) (fa_fr.wide h2894.2 (by omega) (by omega)))⟩⟩)
              · exact absurd (by try decide) c_64
            · refine lv_iconst (v := nI (1)) hx hb dX7_burntIn_53 (by decide) ?_
              refine lv_goto (tgt := 58) hx hb dX7_burntIn_54 (by decide) ?_
              refine lv_istore_n (lv' := [(3, .int (nI (1))), (0, .ref (fa_B G + (397))), (1, .int (a1)), (2, .int (nI (dn)))]) hx hb dX7_burntIn_58 rfl hl (by decide) rfl (fun ls hl => ?_)
              refine lv_aload_n hx hb dX7_burntIn_59 rfl (lv_at hl 1 rfl) ?_
              refine fa_callVvu (As := []) (rest := []) CX HX2893 (r_putBack l G n hn v2877 r hM) ln_X7_174 (by omega) rfl rfl rfl rfl (Nat.le_of_ble_eq_true rfl) hl.1 ⟨Nat.le_of_ble_eq_true rfl, Nat.le_of_ble_eq_true rfl⟩ ⟨Nat.le_refl _, Nat.le_refl _⟩ dX7_burntIn_60 (fun v2898 H locs h2897 HX2899 => ?_)
              have h_putBack := h2897.1
              refine lv_iload_n hx hb dX7_burntIn_63 rfl (lv_at hl 0 rfl) ?_
              refine lv_if_eq (tgt := 71) hx hb dX7_burntIn_64 (by decide) (fun c_64 => ?_) (fun c_64 => ?_)
              · exact absurd c_64 (by try decide)
              · refine lv_iload_n hx hb dX7_burntIn_67 rfl (lv_at hl 3 rfl) ?_
                refine lv_goto (tgt := 73) hx hb dX7_burntIn_68 (by decide) ?_
                exact RET _ _ _ _ _ _ _ HX2899 dX7_burntIn_73 (⟨rfl, ⟨⟨(show fa_MJ v2898 from ⟨(fa_MS.cp (show fa_MS (v2877 400) from by rw [hi_17.2.2 400 (by decide) (by decide)]; exact (fa_MS.cp hJ.1 h2874.1)) h2897.1), (show fa_MS (v2898 399) from by rw [h2897.2 399 (by omega)]; exact (show fa_MS (v2877 399) from by rw [hi_17.2.2 399 (by decide) (by decide)]; exact (show fa_MS (v2875 399) from by rw [h2874.2 399 (by omega)]; exact hJ.2.1))), (show fa_MS (v2898 400) from by rw [h2897.2 400 (by omega)]; exact (show fa_MS (v2877 400) from by rw [hi_17.2.2 400 (by decide) (by decide)]; exact (fa_MS.cp hJ.1 h2874.1))), (show fa_MB (v2898 401) from by rw [h2897.2 401 (by omega)]; exact (show fa_MB (v2877 401) from by rw [hi_17.2.2 401 (by decide) (by decide)]; exact (show fa_MB (v2875 401) from by rw [h2874.2 401 (by omega)]; exact hJ.2.2.2.1))), ⟨n10, by omega, (by rw [h2897.2 _ (by omega)]; exact (by rw [(fa_f2.fr hi_17.2.2) _ (by omega)]; exact (by rw [h2874.2 _ (by omega)]; exact g10)))⟩, ⟨n9, by omega, (by rw [h2897.2 _ (by omega)]; exact (by rw [(fa_f2.fr hi_17.2.2) _ (by omega)]; exact (by rw [h2874.2 _ (by omega)]; exact g9)))⟩⟩), (show v2898 397 9 = v 397 9 from ((show v2898 397 9 = nI (n9) from (by rw [h2897.2 _ (by omega)]; exact (by rw [(fa_f2.fr hi_17.2.2) _ (by omega)]; exact (by rw [h2874.2 _ (by omega)]; exact g9)))).trans g9.symm)), (show v2898 397 8 = v 397 8 from ((congrFun (h2897.2 397 (by omega)) 8).trans ((congrFun ((fa_f2.fr hi_17.2.2) 397 (by omega)) 8).trans (congrFun (h2874.2 397 (by omega)) 8)))), (fun A H hV => hV.cong (fun i hi => ((h_putBack i hi).trans (congrFun (hi_17.2.2 400 (by decide) (by decide)) i)).trans (h_keepTrial i hi)) (congrFun (show v2898 397 = v 397 from by rw [h2897.2 397 (by omega), hi_17.2.2 397 (by decide) (by decide), h2874.2 397 (by omega)]) 10) (show v2898 401 = v 401 from by rw [h2897.2 401 (by omega), hi_17.2.2 401 (by decide) (by decide), h2874.2 401 (by omega)]))⟩, (fa_fr.tr (fa_fr.tr (fa_fr.tr fa_fr.rf (fa_fr.wide h2874.2 (by omega) (by omega))) (fa_fr.wide (fa_f2.fr hi_17.2.2) (by omega) (by omega))) (fa_fr.wide h2897.2 (by omega) (by omega)))⟩⟩)
          · refine lv_aload_n hx hb dX7_burntIn_33 rfl (lv_at hl 0 rfl) ?_
            refine fa_callViu (As := []) (rest := []) CX HX2890 (r_day l G n hn v2877 r hM hi_17.2.1 ) ln_X7_99 (by omega) rfl rfl rfl rfl (Nat.le_of_ble_eq_true rfl) hl.1 ⟨Nat.le_of_ble_eq_true rfl, Nat.le_of_ble_eq_true rfl⟩ ⟨Nat.le_refl _, Nat.le_refl _⟩ dX7_burntIn_34 (fun x2901 v2902 H locs h2900 HX2903 => ?_)
            have hS_v2902 := h2900.1.1
            have h_day := h2900.1.2.2
            refine lv_istore_n (lv' := [(3, .int (x2901)), (0, .ref (fa_B G + (397))), (1, .int (a1)), (2, .int (nI (dn)))]) hx hb dX7_burntIn_37 rfl hl (by decide) rfl (fun ls hl => ?_)
            refine lv_iinc (v := nI (dn + 1)) (lv' := [(2, .int (nI (dn + 1))), (3, .int (x2901)), (0, .ref (fa_B G + (397))), (1, .int (a1))]) hx hb dX7_burntIn_38 hl (k := 3) rfl (nI_add (dn) 1) (by decide) rfl (fun ls hl => ?_)
            refine lv_goto (tgt := 17) hx hb dX7_burntIn_41 (by decide) ?_
            exact ih_17 (dn + 1) v2902 _ _ _ (by omega) (⟨by omega, hS_v2902, (fa_f2.tr (fa_f2.tr fa_f2.rf hi_17.2.2) h2900.1.2.1)⟩) (lv_sub hl [2, 3, 0] rfl) HX2903
    exact LOOP_17 (3000 - 0 + 1) (0) v2875 _ _ _ (Nat.lt_succ_self _) (⟨Nat.zero_le _, (show fa_MS (v2875 398) from by rw [h2874.2 398 (by omega)]; exact hJ.1), fa_f2.rf⟩) (lv_sub hl [1, 2, 0] rfl) HX2876
  · refine lv_iconst (v := (-1 : Int32)) hx hb dX7_burntIn_9 (by decide) ?_
    exact RET _ _ _ _ _ _ _ HX2873 dX7_burntIn_10 (⟨rfl, ⟨⟨hJ, (show v 397 9 = v 397 9 from rfl), (show v 397 8 = v 397 8 from rfl), (fun A H hV => hV)⟩, fa_fr.rf⟩⟩)
set_option maxHeartbeats 4000000 in
set_option maxRecDepth 100000 in
theorem r_ifPassed (l : Launch) (G : fa_G) (n : Nat) (hn : 406 ≤ n) (v : fa_V) (r : fa_R) (hM : fa_RM r) (hJ : fa_MJ v) (a1 : Int32) (a2 : Int32) : fa_MI l G n yX7_ifPassed cX7_ifPassed 5 (some .int) 10 [.ref (fa_B G + (397)), .int (a1), .int (a2)] v r (fa_voi r (fun x v1 => ((fa_MJ v1) ∧ (v1 397 9 = v 397 9) ∧ (v1 397 8 = v 397 8) ∧ (∀ A H, fb_MV v A H → fb_MV v1 A H)) ∧ (fa_fr (397) (403) v v1))) := by
  refine fa_startI (by decide +kernel) (Nat.le_of_ble_eq_true rfl) (fun p e s m args below meth c ls Q CX hl HX RET => ?_)
  have hl : lv_has ls 5 [(0, .ref (fa_B G + (397))), (1, .int (a1)), (2, .int (a2))] := hl
  have hx := CX.1.1
  have hb := CX.1.2.1
  have hS := hJ.1
  obtain ⟨n4, en4⟩ : ∃ m, m = fa_N (v 398 14) := ⟨_, rfl⟩
  obtain ⟨hn4, g4⟩ := hS.n4 en4
  obtain ⟨n5, en5⟩ : ∃ m, m = fa_N (v 398 15) := ⟨_, rfl⟩
  obtain ⟨hn5, g5⟩ := hS.n5 en5
  obtain ⟨n6, en6⟩ : ∃ m, m = fa_N (v 398 16) := ⟨_, rfl⟩
  obtain ⟨hn6, g6⟩ := hS.n6 en6
  obtain ⟨n10, hn10, g10⟩ := hJ.2.2.2.2.1
  obtain ⟨n9, hn9, g9⟩ := hJ.2.2.2.2.2
  refine lv_iload_n hx hb dX7_ifPassed_0 rfl (lv_at hl 1 rfl) ?_
  refine lv_iconst (v := nI (1)) hx hb dX7_ifPassed_1 (by decide) ?_
  refine lv_sipush (v := nI (400)) hx hb dX7_ifPassed_2 (by decide) ?_
  refine fa_callSip (As := [.int (a1), .int (nI (1)), .int (nI (400))]) (rest := []) CX HX (r_in l G n v r (a1) (nI (1)) (nI (400))) ln_X7_86 rfl rfl (Nat.le_of_ble_eq_true rfl) hl.1 ⟨Nat.le_of_ble_eq_true rfl, Nat.le_of_ble_eq_true rfl⟩ ⟨Nat.le_refl _, Nat.le_refl _⟩ dX7_ifPassed_5 (fun x2905 H locs h2904 HX2906 => ?_)
  have h_in_5 := h2904
  refine lv_if_eq (tgt := 20) hx hb dX7_ifPassed_8 (by decide) (fun c_8 => ?_) (fun c_8 => ?_)
  · refine lv_bipush (v := (-2 : Int32)) hx hb dX7_ifPassed_20 (by decide) ?_
    exact RET _ _ _ _ _ _ _ HX2906 dX7_ifPassed_22 (⟨rfl, ⟨⟨hJ, (show v 397 9 = v 397 9 from rfl), (show v 397 8 = v 397 8 from rfl), (fun A H hV => hV)⟩, fa_fr.rf⟩⟩)
  · refine lv_iload_n hx hb dX7_ifPassed_11 rfl (lv_at hl 2 rfl) ?_
    refine lv_iconst (v := nI (0)) hx hb dX7_ifPassed_12 (by decide) ?_
    refine lv_iconst (v := nI (2)) hx hb dX7_ifPassed_13 (by decide) ?_
    refine fa_callSip (As := [.int (a2), .int (nI (0)), .int (nI (2))]) (rest := []) CX HX2906 (r_in l G n v r (a2) (nI (0)) (nI (2))) ln_X7_86 rfl rfl (Nat.le_of_ble_eq_true rfl) hl.1 ⟨Nat.le_of_ble_eq_true rfl, Nat.le_of_ble_eq_true rfl⟩ ⟨Nat.le_refl _, Nat.le_refl _⟩ dX7_ifPassed_14 (fun x2908 H locs h2907 HX2909 => ?_)
    have h_in_14 := h2907
    refine lv_if_ne (tgt := 23) hx hb dX7_ifPassed_17 (by decide) (fun c_17 => ?_) (fun c_17 => ?_)
    · have hin1 := fa_in1 h_in_5 c_8
      obtain ⟨ka, hka1, hka, eka⟩ := fa_natIn (by decide) (fun z => hin1 (Or.inl z)) (Int32.not_lt.mp (fun z => hin1 (Or.inr z)))
      refine lv_aload_n hx hb dX7_ifPassed_23 rfl (lv_at hl 0 rfl) ?_
      refine fa_callVvu (As := []) (rest := []) CX HX2909 (r_keepTrial l G n hn v r hM) ln_X7_171 (by omega) rfl rfl rfl rfl (Nat.le_of_ble_eq_true rfl) hl.1 ⟨Nat.le_of_ble_eq_true rfl, Nat.le_of_ble_eq_true rfl⟩ ⟨Nat.le_refl _, Nat.le_refl _⟩ dX7_ifPassed_24 (fun v2911 H locs h2910 HX2912 => ?_)
      have h_keepTrial := h2910.1
      refine lv_iconst (v := nI (0)) hx hb dX7_ifPassed_27 (by decide) ?_
      refine lv_istore_n (lv' := [(3, .int (nI (0))), (0, .ref (fa_B G + (397))), (1, .int (a1)), (2, .int (a2))]) hx hb dX7_ifPassed_28 rfl hl (by decide) rfl (fun ls hl => ?_)
      have LOOP_29 : ∀ (fu : Nat) (dn : Nat) (v2913 : fa_V) (H : Heap) (locs : List Loc) (ls : Array Slot), ka - dn < fu → (dn ≤ ka ∧ fa_MS (v2913 398) ∧ fa_f2 v2911 v2913) → lv_has ls 5 [(0, .ref (fa_B G + (397))), (1, .int (a1)), (2, .int (a2)), (3, .int (nI (dn)))] → fa_HX G (n) v2913 r s H locs → W p l e (fa_rm 10) s m args below meth c H locs (0) (0) Q (F0 m 29 ls []) := by
        intro fu
        induction fu with
        | zero => intro dn v2913 H locs ls hk; exact absurd hk (Nat.not_lt_zero _)
        | succ fu ih_29 =>
          intro dn v2913 H locs ls hk_29 hi_29 hl HX2914
          refine lv_iload_n hx hb dX7_ifPassed_29 rfl (lv_at hl 3 rfl) ?_
          refine lv_iload_n hx hb dX7_ifPassed_30 rfl (lv_at hl 1 rfl) ?_
          refine lv_icmp_ge (tgt := 46) hx hb dX7_ifPassed_31 (by decide) (fun c_31 => ?_) (fun c_31 => ?_)
          · refine lv_iload_n hx hb dX7_ifPassed_46 rfl (lv_at hl 2 rfl) ?_
            refine lv_if_ne (tgt := 68) hx hb dX7_ifPassed_47 (by decide) (fun c_47 => ?_) (fun c_47 => ?_)
            · refine lv_iload_n hx hb dX7_ifPassed_68 rfl (lv_at hl 2 rfl) ?_
              refine lv_iconst (v := nI (1)) hx hb dX7_ifPassed_69 (by decide) ?_
              refine lv_icmp_ne (tgt := 91) hx hb dX7_ifPassed_70 (by decide) (fun c_70 => ?_) (fun c_70 => ?_)
              · refine lv_aload_n hx hb dX7_ifPassed_91 rfl (lv_at hl 0 rfl) ?_
                refine fa_getr (k := 397) (j := 398) CX HX2914 fl_X7_7 (by omega) rfl rfl hM.1 dX7_ifPassed_92 ?_
                refine lv_bipush (v := nI (11)) hx hb dX7_ifPassed_95 (by decide) ?_
                refine fa_iald (k := 398) (j := 11) CX HX2914 (by omega) rfl (by omega) (by first | decide | assumption) dX7_ifPassed_97 ?_
                refine lv_aload_n hx hb dX7_ifPassed_98 rfl (lv_at hl 0 rfl) ?_
                refine fa_getr (k := 397) (j := 400) CX HX2914 fl_X7_16 (by omega) rfl rfl hM.2.2.1 dX7_ifPassed_99 ?_
                refine lv_bipush (v := nI (11)) hx hb dX7_ifPassed_102 (by decide) ?_
                refine fa_iald (k := 400) (j := 11) CX HX2914 (by omega) rfl (by omega) (by first | decide | assumption) dX7_ifPassed_104 ?_
                refine lv_isub hx hb dX7_ifPassed_105 ?_
                refine lv_istore_n (lv' := [(3, .int ((v2913 398 11) - (v2913 400 11))), (0, .ref (fa_B G + (397))), (1, .int (a1)), (2, .int (a2))]) hx hb dX7_ifPassed_106 rfl hl (by decide) rfl (fun ls hl => ?_)
                refine lv_aload_n hx hb dX7_ifPassed_107 rfl (lv_at hl 1 rfl) ?_
                refine fa_callVvu (As := []) (rest := []) CX HX2914 (r_putBack l G n hn v2913 r hM) ln_X7_174 (by omega) rfl rfl rfl rfl (Nat.le_of_ble_eq_true rfl) hl.1 ⟨Nat.le_of_ble_eq_true rfl, Nat.le_of_ble_eq_true rfl⟩ ⟨Nat.le_refl _, Nat.le_refl _⟩ dX7_ifPassed_108 (fun v2916 H locs h2915 HX2917 => ?_)
                have h_putBack := h2915.1
                refine lv_iload_n hx hb dX7_ifPassed_111 rfl (lv_at hl 0 rfl) ?_
                exact RET _ _ _ _ _ _ _ HX2917 dX7_ifPassed_112 (⟨rfl, ⟨⟨(show fa_MJ v2916 from ⟨(fa_MS.cp (show fa_MS (v2913 400) from by rw [hi_29.2.2 400 (by decide) (by decide)]; exact (fa_MS.cp hJ.1 h2910.1)) h2915.1), (show fa_MS (v2916 399) from by rw [h2915.2 399 (by omega)]; exact (show fa_MS (v2913 399) from by rw [hi_29.2.2 399 (by decide) (by decide)]; exact (show fa_MS (v2911 399) from by rw [h2910.2 399 (by omega)]; exact hJ.2.1))), (show fa_MS (v2916 400) from by rw [h2915.2 400 (by omega)]; exact (show fa_MS (v2913 400) from by rw [hi_29.2.2 400 (by decide) (by decide)]; exact (fa_MS.cp hJ.1 h2910.1))), (show fa_MB (v2916 401) from by rw [h2915.2 401 (by omega)]; exact (show fa_MB (v2913 401) from by rw [hi_29.2.2 401 (by decide) (by decide)]; exact (show fa_MB (v2911 401) from by rw [h2910.2 401 (by omega)]; exact hJ.2.2.2.1))), ⟨n10, by omega, (by rw [h2915.2 _ (by omega)]; exact (by rw [(fa_f2.fr hi_29.2.2) _ (by omega)]; exact (by rw [h2910.2 _ (by omega)]; exact g10)))⟩, ⟨n9, by omega, (by rw [h2915.2 _ (by omega)]; exact (by rw [(fa_f2.fr hi_29.2.2) _ (by omega)]; exact (by rw [h2910.2 _ (by omega)]; exact g9)))⟩⟩), (show v2916 397 9 = v 397 9 from ((show v2916 397 9 = nI (n9) from (by rw [h2915.2 _ (by omega)]; exact (by rw [(fa_f2.fr hi_29.2.2) _ (by omega)]; exact (by rw [h2910.2 _ (by omega)]; exact g9)))).trans g9.symm)), (show v2916 397 8 = v 397 8 from ((congrFun (h2915.2 397 (by omega)) 8).trans ((congrFun ((fa_f2.fr hi_29.2.2) 397 (by omega)) 8).trans (congrFun (h2910.2 397 (by omega)) 8)))), (fun A H hV => hV.cong (fun i hi => ((h_putBack i hi).trans (congrFun (hi_29.2.2 400 (by decide) (by decide)) i)).trans (h_keepTrial i hi)) (congrFun (show v2916 397 = v 397 from by rw [h2915.2 397 (by omega), hi_29.2.2 397 (by decide) (by decide), h2910.2 397 (by omega)]) 10) (show v2916 401 = v 401 from by rw [h2915.2 401 (by omega), hi_29.2.2 401 (by decide) (by decide), h2910.2 401 (by omega)]))⟩, (fa_fr.tr (fa_fr.tr (fa_fr.tr fa_fr.rf (fa_fr.wide h2910.2 (by omega) (by omega))) (fa_fr.wide (fa_f2.fr hi_29.2.2) (by omega) (by omega))) (fa_fr.wide h2915.2 (by omega) (by omega)))⟩⟩)
              · refine lv_aload_n hx hb dX7_ifPassed_73 rfl (lv_at hl 0 rfl) ?_
                refine fa_getr (k := 397) (j := 398) CX HX2914 fl_X7_7 (by omega) rfl rfl hM.1 dX7_ifPassed_74 ?_
                refine lv_bipush (v := nI (10)) hx hb dX7_ifPassed_77 (by decide) ?_
                refine fa_iald (k := 398) (j := 10) CX HX2914 (by omega) rfl (by omega) (by first | decide | assumption) dX7_ifPassed_79 ?_
                refine lv_aload_n hx hb dX7_ifPassed_80 rfl (lv_at hl 0 rfl) ?_
                refine fa_getr (k := 397) (j := 400) CX HX2914 fl_X7_16 (by omega) rfl rfl hM.2.2.1 dX7_ifPassed_81 ?_
                refine lv_bipush (v := nI (10)) hx hb dX7_ifPassed_84 (by decide) ?_
                refine fa_iald (k := 400) (j := 10) CX HX2914 (by omega) rfl (by omega) (by first | decide | assumption) dX7_ifPassed_86 ?_
                refine lv_isub hx hb dX7_ifPassed_87 ?_
                refine lv_goto (tgt := 106) hx hb dX7_ifPassed_88 (by decide) ?_
                refine lv_istore_n (lv' := [(3, .int ((v2913 398 10) - (v2913 400 10))), (0, .ref (fa_B G + (397))), (1, .int (a1)), (2, .int (a2))]) hx hb dX7_ifPassed_106 rfl hl (by decide) rfl (fun ls hl => ?_)
                refine lv_aload_n hx hb dX7_ifPassed_107 rfl (lv_at hl 1 rfl) ?_
                refine fa_callVvu (As := []) (rest := []) CX HX2914 (r_putBack l G n hn v2913 r hM) ln_X7_174 (by omega) rfl rfl rfl rfl (Nat.le_of_ble_eq_true rfl) hl.1 ⟨Nat.le_of_ble_eq_true rfl, Nat.le_of_ble_eq_true rfl⟩ ⟨Nat.le_refl _, Nat.le_refl _⟩ dX7_ifPassed_108 (fun v2919 H locs h2918 HX2920 => ?_)
                have h_putBack := h2918.1
                refine lv_iload_n hx hb dX7_ifPassed_111 rfl (lv_at hl 0 rfl) ?_
                exact RET _ _ _ _ _ _ _ HX2920 dX7_ifPassed_112 (⟨rfl, ⟨⟨(show fa_MJ v2919 from ⟨(fa_MS.cp (show fa_MS (v2913 400) from by rw [hi_29.2.2 400 (by decide) (by decide)]; exact (fa_MS.cp hJ.1 h2910.1)) h2918.1), (show fa_MS (v2919 399) from by rw [h2918.2 399 (by omega)]; exact (show fa_MS (v2913 399) from by rw [hi_29.2.2 399 (by decide) (by decide)]; exact (show fa_MS (v2911 399) from by rw [h2910.2 399 (by omega)]; exact hJ.2.1))), (show fa_MS (v2919 400) from by rw [h2918.2 400 (by omega)]; exact (show fa_MS (v2913 400) from by rw [hi_29.2.2 400 (by decide) (by decide)]; exact (fa_MS.cp hJ.1 h2910.1))), (show fa_MB (v2919 401) from by rw [h2918.2 401 (by omega)]; exact (show fa_MB (v2913 401) from by rw [hi_29.2.2 401 (by decide) (by decide)]; exact (show fa_MB (v2911 401) from by rw [h2910.2 401 (by omega)]; exact hJ.2.2.2.1))), ⟨n10, by omega, (by rw [h2918.2 _ (by omega)]; exact (by rw [(fa_f2.fr hi_29.2.2) _ (by omega)]; exact (by rw [h2910.2 _ (by omega)]; exact g10)))⟩, ⟨n9, by omega, (by rw [h2918.2 _ (by omega)]; exact (by rw [(fa_f2.fr hi_29.2.2) _ (by omega)]; exact (by rw [h2910.2 _ (by omega)]; exact g9)))⟩⟩), (show v2919 397 9 = v 397 9 from ((show v2919 397 9 = nI (n9) from (by rw [h2918.2 _ (by omega)]; exact (by rw [(fa_f2.fr hi_29.2.2) _ (by omega)]; exact (by rw [h2910.2 _ (by omega)]; exact g9)))).trans g9.symm)), (show v2919 397 8 = v 397 8 from ((congrFun (h2918.2 397 (by omega)) 8).trans ((congrFun ((fa_f2.fr hi_29.2.2) 397 (by omega)) 8).trans (congrFun (h2910.2 397 (by omega)) 8)))), (fun A H hV => hV.cong (fun i hi => ((h_putBack i hi).trans (congrFun (hi_29.2.2 400 (by decide) (by decide)) i)).trans (h_keepTrial i hi)) (congrFun (show v2919 397 = v 397 from by rw [h2918.2 397 (by omega), hi_29.2.2 397 (by decide) (by decide), h2910.2 397 (by omega)]) 10) (show v2919 401 = v 401 from by rw [h2918.2 401 (by omega), hi_29.2.2 401 (by decide) (by decide), h2910.2 401 (by omega)]))⟩, (fa_fr.tr (fa_fr.tr (fa_fr.tr fa_fr.rf (fa_fr.wide h2910.2 (by omega) (by omega))) (fa_fr.wide (fa_f2.fr hi_29.2.2) (by omega) (by omega))) (fa_fr.wide h2918.2 (by omega) (by omega)))⟩⟩)
            · refine lv_aload_n hx hb dX7_ifPassed_50 rfl (lv_at hl 0 rfl) ?_
              refine fa_getr (k := 397) (j := 398) CX HX2914 fl_X7_7 (by omega) rfl rfl hM.1 dX7_ifPassed_51 ?_
              refine lv_bipush (v := nI (9)) hx hb dX7_ifPassed_54 (by decide) ?_
              refine fa_iald (k := 398) (j := 9) CX HX2914 (by omega) rfl (by omega) (by first | decide | assumption) dX7_ifPassed_56 ?_
              refine lv_aload_n hx hb dX7_ifPassed_57 rfl (lv_at hl 0 rfl) ?_
              refine fa_getr (k := 397) (j := 400) CX HX2914 fl_X7_16 (by omega) rfl rfl hM.2.2.1 dX7_ifPassed_58 ?_
              refine lv_bipush (v := nI (9)) hx hb dX7_ifPassed_61 (by decide) ?_
              refine fa_iald (k := 400) (j := 9) CX HX2914 (by omega) rfl (by omega) (by first | decide | assumption) dX7_ifPassed_63 ?_
              refine lv_isub hx hb dX7_ifPassed_64 ?_
              refine lv_goto (tgt := 106) hx hb dX7_ifPassed_65 (by decide) ?_
              refine lv_istore_n (lv' := [(3, .int ((v2913 398 9) - (v2913 400 9))), (0, .ref (fa_B G + (397))), (1, .int (a1)), (2, .int (a2))]) hx hb dX7_ifPassed_106 rfl hl (by decide) rfl (fun ls hl => ?_)
              refine lv_aload_n hx hb dX7_ifPassed_107 rfl (lv_at hl 1 rfl) ?_
              refine fa_callVvu (As := []) (rest := []) CX HX2914 (r_putBack l G n hn v2913 r hM) ln_X7_174 (by omega) rfl rfl rfl rfl (Nat.le_of_ble_eq_true rfl) hl.1 ⟨Nat.le_of_ble_eq_true rfl, Nat.le_of_ble_eq_true rfl⟩ ⟨Nat.le_refl _, Nat.le_refl _⟩ dX7_ifPassed_108 (fun v2922 H locs h2921 HX2923 => ?_)
              have h_putBack := h2921.1
              refine lv_iload_n hx hb dX7_ifPassed_111 rfl (lv_at hl 0 rfl) ?_
              exact RET _ _ _ _ _ _ _ HX2923 dX7_ifPassed_112 (⟨rfl, ⟨⟨(show fa_MJ v2922 from ⟨(fa_MS.cp (show fa_MS (v2913 400) from by rw [hi_29.2.2 400 (by decide) (by decide)]; exact (fa_MS.cp hJ.1 h2910.1)) h2921.1), (show fa_MS (v2922 399) from by rw [h2921.2 399 (by omega)]; exact (show fa_MS (v2913 399) from by rw [hi_29.2.2 399 (by decide) (by decide)]; exact (show fa_MS (v2911 399) from by rw [h2910.2 399 (by omega)]; exact hJ.2.1))), (show fa_MS (v2922 400) from by rw [h2921.2 400 (by omega)]; exact (show fa_MS (v2913 400) from by rw [hi_29.2.2 400 (by decide) (by decide)]; exact (fa_MS.cp hJ.1 h2910.1))), (show fa_MB (v2922 401) from by rw [h2921.2 401 (by omega)]; exact (show fa_MB (v2913 401) from by rw [hi_29.2.2 401 (by decide) (by decide)]; exact (show fa_MB (v2911 401) from by rw [h2910.2 401 (by omega)]; exact hJ.2.2.2.1))), ⟨n10, by omega, (by rw [h2921.2 _ (by omega)]; exact (by rw [(fa_f2.fr hi_29.2.2) _ (by omega)]; exact (by rw [h2910.2 _ (by omega)]; exact g10)))⟩, ⟨n9, by omega, (by rw [h2921.2 _ (by omega)]; exact (by rw [(fa_f2.fr hi_29.2.2) _ (by omega)]; exact (by rw [h2910.2 _ (by omega)]; exact g9)))⟩⟩), (show v2922 397 9 = v 397 9 from ((show v2922 397 9 = nI (n9) from (by rw [h2921.2 _ (by omega)]; exact (by rw [(fa_f2.fr hi_29.2.2) _ (by omega)]; exact (by rw [h2910.2 _ (by omega)]; exact g9)))).trans g9.symm)), (show v2922 397 8 = v 397 8 from ((congrFun (h2921.2 397 (by omega)) 8).trans ((congrFun ((fa_f2.fr hi_29.2.2) 397 (by omega)) 8).trans (congrFun (h2910.2 397 (by omega)) 8)))), (fun A H hV => hV.cong (fun i hi => ((h_putBack i hi).trans (congrFun (hi_29.2.2 400 (by decide) (by decide)) i)).trans (h_keepTrial i hi)) (congrFun (show v2922 397 = v 397 from by rw [h2921.2 397 (by omega), hi_29.2.2 397 (by decide) (by decide), h2910.2 397 (by omega)]) 10) (show v2922 401 = v 401 from by rw [h2921.2 401 (by omega), hi_29.2.2 401 (by decide) (by decide), h2910.2 401 (by omega)]))⟩, (fa_fr.tr (fa_fr.tr (fa_fr.tr fa_fr.rf (fa_fr.wide h2910.2 (by omega) (by omega))) (fa_fr.wide (fa_f2.fr hi_29.2.2) (by omega) (by omega))) (fa_fr.wide h2921.2 (by omega) (by omega)))⟩⟩)
          · have hjk : dn < ka := by
              rw [eka] at c_31
              exact fa_ltN (by omega) (by omega) c_31
            refine lv_aload_n hx hb dX7_ifPassed_34 rfl (lv_at hl 0 rfl) ?_
            refine fa_callViu (As := []) (rest := []) CX HX2914 (r_day l G n hn v2913 r hM hi_29.2.1 ) ln_X7_99 (by omega) rfl rfl rfl rfl (Nat.le_of_ble_eq_true rfl) hl.1 ⟨Nat.le_of_ble_eq_true rfl, Nat.le_of_ble_eq_true rfl⟩ ⟨Nat.le_refl _, Nat.le_refl _⟩ dX7_ifPassed_35 (fun x2925 v2926 H locs h2924 HX2927 => ?_)
            have hS_v2926 := h2924.1.1
            have h_day := h2924.1.2.2
            refine lv_istore (lv' := [(4, .int (x2925)), (0, .ref (fa_B G + (397))), (1, .int (a1)), (2, .int (a2)), (3, .int (nI (dn)))]) hx hb dX7_ifPassed_38 hl (by decide) rfl (fun ls hl => ?_)
            refine lv_iinc (v := nI (dn + 1)) (lv' := [(3, .int (nI (dn + 1))), (4, .int (x2925)), (0, .ref (fa_B G + (397))), (1, .int (a1)), (2, .int (a2))]) hx hb dX7_ifPassed_40 hl (k := 4) rfl (nI_add (dn) 1) (by decide) rfl (fun ls hl => ?_)
            refine lv_goto (tgt := 29) hx hb dX7_ifPassed_43 (by decide) ?_
            exact ih_29 (dn + 1) v2926 _ _ _ (by omega) (⟨by omega, hS_v2926, (fa_f2.tr (fa_f2.tr fa_f2.rf hi_29.2.2) h2924.1.2.1)⟩) (lv_sub hl [2, 3, 4, 0] rfl) HX2927
      exact LOOP_29 (ka - 0 + 1) (0) v2911 _ _ _ (Nat.lt_succ_self _) (⟨Nat.zero_le _, (show fa_MS (v2911 398) from by rw [h2910.2 398 (by omega)]; exact hJ.1), fa_f2.rf⟩) (lv_sub hl [1, 2, 3, 0] rfl) HX2912
    · refine lv_bipush (v := (-2 : Int32)) hx hb dX7_ifPassed_20 (by decide) ?_
      exact RET _ _ _ _ _ _ _ HX2909 dX7_ifPassed_22 (⟨rfl, ⟨⟨hJ, (show v 397 9 = v 397 9 from rfl), (show v 397 8 = v 397 8 from rfl), (fun A H hV => hV)⟩, fa_fr.rf⟩⟩)
