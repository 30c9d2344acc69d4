set_option maxHeartbeats 4000000 in
set_option maxRecDepth 100000 in
theorem r_tellStaying (l : Launch) (G : fa_G) (n : Nat) (hn : 406 ≤ n) (v : fa_V) (r : fa_R) (hM : fa_RM r) (hS : fa_MS (v 398)) : fa_MV l G n yX7_tellStaying cX7_tellStaying 4 5 [.ref (fa_B G + (397))] v r (fa_vo r (fun v1 => ((∀ A, fb_okA A → fb_mA (v 398) A → ∀ p, p < A.n → v1 402 p = if fb_stb A p = true then nI 1 else nI 0)) ∧ (fa_fr (402) (403) v v1))) := by
  refine fa_startV (by decide +kernel) (Nat.le_of_ble_eq_true rfl) (fun p e s m args below meth c ls Q CX hl HX RET => ?_)
  have hl : lv_has ls 4 [(0, .ref (fa_B G + (397)))] := hl
  have hx := CX.1.1
  have hb := CX.1.2.1
  obtain ⟨n4, en4⟩ : ∃ m, m = fa_N (v 398 14) := ⟨_, rfl⟩
  obtain ⟨hn4, g4⟩ := hS.n4 en4
  obtain ⟨n5, en5⟩ : ∃ m, m = fa_N (v 398 15) := ⟨_, rfl⟩
  obtain ⟨hn5, g5⟩ := hS.n5 en5
  obtain ⟨n6, en6⟩ : ∃ m, m = fa_N (v 398 16) := ⟨_, rfl⟩
  obtain ⟨hn6, g6⟩ := hS.n6 en6
  refine lv_iconst (v := nI (0)) hx hb dX7_tellStaying_0 (by decide) ?_
  refine lv_istore_n (lv' := [(1, .int (nI (0))), (0, .ref (fa_B G + (397)))]) hx hb dX7_tellStaying_1 rfl hl (by decide) rfl (fun ls hl => ?_)
  have LOOP_2 : ∀ (fu : Nat) (j : Nat) (v1749 : fa_V) (H : Heap) (locs : List Loc) (ls : Array Slot), n4 - j < fu → (j ≤ n4 ∧ fa_fr 402 403 v v1749 ∧ (∀ A, fb_okA A → fb_mA (v 398) A → fb_t1 A (v1749 402) j)) → lv_has ls 4 [(0, .ref (fa_B G + (397))), (1, .int (nI (j)))] → fa_HX G (n) v1749 r s H locs → W p l e (fa_rm 5) s m args below meth c H locs (0) (0) Q (F0 m 2 ls []) := by
    intro fu
    induction fu with
    | zero => intro j v1749 H locs ls hk; exact absurd hk (Nat.not_lt_zero _)
    | succ fu ih_2 =>
      intro j v1749 H locs ls hk_2 hi_2 hl HX1750
      refine lv_iload_n hx hb dX7_tellStaying_2 rfl (lv_at hl 1 rfl) ?_
      refine lv_aload_n hx hb dX7_tellStaying_3 rfl (lv_at hl 0 rfl) ?_
      refine fa_getr (k := 397) (j := 398) CX HX1750 fl_X7_7 (by omega) rfl rfl hM.1 dX7_tellStaying_4 ?_
      refine lv_bipush (v := nI (14)) hx hb dX7_tellStaying_7 (by decide) ?_
      refine fa_iald (k := 398) (j := 14) CX HX1750 (by omega) rfl (by omega) (by first | decide | assumption) dX7_tellStaying_9 ?_
      rw [show v1749 398 14 = nI (n4) from (by rw [hi_2.2.1 _ (by omega)]; exact g4)]
      refine lv_icmp_ge (tgt := 38) hx hb dX7_tellStaying_10 (by decide) (fun c_10 => ?_) (fun c_10 => ?_)
      · have hjn : j = n4 := by
          have := fa_leN (by omega) (by omega) c_10
          omega
        refine lv_iconst (v := nI (1)) hx hb dX7_tellStaying_38 (by decide) ?_
        refine lv_istore_n (lv' := [(1, .int (nI (1))), (0, .ref (fa_B G + (397)))]) hx hb dX7_tellStaying_39 rfl hl (by decide) rfl (fun ls hl => ?_)
        have LOOP_40 : ∀ (fu : Nat) (mo : Int32) (v1751 : fa_V) (H : Heap) (locs : List Loc) (ls : Array Slot), 2 * fa_cnt (v1751 402) 24 + (if mo = 0 then 0 else 1) < fu → ((fa_fr 402 403 v v1751) ∧ (∀ A, fb_okA A → fb_mA (v 398) A → fb_t3 A (v1751 402) mo A.n)) → lv_has ls 4 [(0, .ref (fa_B G + (397))), (1, .int (mo))] → fa_HX G (n) v1751 r s H locs → W p l e (fa_rm 5) s m args below meth c H locs (0) (0) Q (F0 m 40 ls []) := by
          intro fu
          induction fu with
          | zero => intro mo v1751 H locs ls hk; exact absurd hk (Nat.not_lt_zero _)
          | succ fu ih_40 =>
            intro mo v1751 H locs ls hk_40 hi_40 hl HX1752
            refine lv_iload_n hx hb dX7_tellStaying_40 rfl (lv_at hl 1 rfl) ?_
            refine lv_if_eq (tgt := 117) hx hb dX7_tellStaying_41 (by decide) (fun c_41 => ?_) (fun c_41 => ?_)
            · exact RET _ _ _ _ _ _ HX1752 dX7_tellStaying_117 (⟨rfl, ⟨(fun A hok hc p hp => fb_t3.e (by have z := hi_40.2 A hok hc; rw [c_41] at z; exact z) hp), (fa_fr.tr fa_fr.rf (fa_fr.wide hi_40.1 (by omega) (by omega)))⟩⟩)
            · refine lv_iconst (v := nI (0)) hx hb dX7_tellStaying_44 (by decide) ?_
              refine lv_istore_n (lv' := [(1, .int (nI (0))), (0, .ref (fa_B G + (397)))]) hx hb dX7_tellStaying_45 rfl hl (by decide) rfl (fun ls hl => ?_)
              refine lv_iconst (v := nI (0)) hx hb dX7_tellStaying_46 (by decide) ?_
              refine lv_istore_n (lv' := [(2, .int (nI (0))), (1, .int (nI (0))), (0, .ref (fa_B G + (397)))]) hx hb dX7_tellStaying_47 rfl hl (by decide) rfl (fun ls hl => ?_)
              have LOOP_48 : ∀ (fu : Nat) (pl : Nat) (mi : Int32) (v1753 : fa_V) (H : Heap) (locs : List Loc) (ls : Array Slot), n4 - pl < fu → (pl ≤ n4 ∧ fa_fr 402 403 v v1753 ∧ ((mi = nI 0 ∧ fa_cnt (v1753 402) 24 ≤ fa_cnt (v1751 402) 24) ∨ (mi = nI 1 ∧ fa_cnt (v1753 402) 24 < fa_cnt (v1751 402) 24)) ∧ (∀ A, fb_okA A → fb_mA (v 398) A → fb_t3 A (v1753 402) mi pl)) → lv_has ls 4 [(0, .ref (fa_B G + (397))), (1, .int (mi)), (2, .int (nI (pl)))] → fa_HX G (n) v1753 r s H locs → W p l e (fa_rm 5) s m args below meth c H locs (0) (0) Q (F0 m 48 ls []) := by
                intro fu
                induction fu with
                | zero => intro pl mi v1753 H locs ls hk; exact absurd hk (Nat.not_lt_zero _)
                | succ fu ih_48 =>
                  intro pl mi v1753 H locs ls hk_48 hi_48 hl HX1754
                  refine lv_iload_n hx hb dX7_tellStaying_48 rfl (lv_at hl 2 rfl) ?_
                  refine lv_aload_n hx hb dX7_tellStaying_49 rfl (lv_at hl 0 rfl) ?_
                  refine fa_getr (k := 397) (j := 398) CX HX1754 fl_X7_7 (by omega) rfl rfl hM.1 dX7_tellStaying_50 ?_
                  refine lv_bipush (v := nI (14)) hx hb dX7_tellStaying_53 (by decide) ?_
                  refine fa_iald (k := 398) (j := 14) CX HX1754 (by omega) rfl (by omega) (by first | decide | assumption) dX7_tellStaying_55 ?_
                  rw [show v1753 398 14 = nI (n4) from (by rw [hi_48.2.1 _ (by omega)]; exact g4)]
                  refine lv_icmp_ge (tgt := 114) hx hb dX7_tellStaying_56 (by decide) (fun c_56 => ?_) (fun c_56 => ?_)
                  · have hjp : pl = n4 := by
                      have := fa_leN (by omega) (by omega) c_56
                      omega
                    refine lv_goto (tgt := 40) hx hb dX7_tellStaying_114 (by decide) ?_
                    exact ih_40 (mi) v1753 _ _ _ (fa_more hk_40 c_41 hi_48.2.2.1) (⟨(fa_fr.tr fa_fr.rf (fa_fr.wide hi_48.2.1 (by omega) (by omega))), fun A hok hc => (by have z := hi_48.2.2.2 A hok hc; rw [show pl = A.n by rw [← hc.n, ← en4]; exact hjp] at z; exact z)⟩) (lv_sub hl [0, 1] rfl) HX1754
                  · have hj := fa_ltN (by omega) (by omega) c_56
                    refine lv_aload_n hx hb dX7_tellStaying_59 rfl (lv_at hl 0 rfl) ?_
                    refine lv_aload_n hx hb dX7_tellStaying_60 rfl (lv_at hl 0 rfl) ?_
                    refine fa_getr (k := 397) (j := 398) CX HX1754 fl_X7_7 (by omega) rfl rfl hM.1 dX7_tellStaying_61 ?_
                    refine lv_iload_n hx hb dX7_tellStaying_64 rfl (lv_at hl 2 rfl) ?_
                    refine fa_callSip (As := [.int (nI (pl))]) (rest := [.ref (fa_B G + (398)), .ref (fa_B G + (397))]) CX HX1754 (r_f l G n v1753 r (pl)) ln_X7_36 rfl rfl (Nat.le_of_ble_eq_true rfl) hl.1 ⟨Nat.le_of_ble_eq_true rfl, Nat.le_of_ble_eq_true rfl⟩ ⟨Nat.le_refl _, Nat.le_refl _⟩ dX7_tellStaying_65 (fun x1756 H locs h1755 HX1757 => ?_)
                    subst h1755
                    refine lv_bipush (v := nI (6)) hx hb dX7_tellStaying_68 (by decide) ?_
                    refine fa_iaddN hx hb dX7_tellStaying_70 ?_
                    refine fa_iald (k := 398) (j := 17 + 15 * pl + 6) CX HX1757 (by omega) rfl (by omega) (by first | decide | assumption) dX7_tellStaying_71 ?_
                    refine fa_callVip (As := [.int (v1753 398 (17 + 15 * pl + 6))]) (rest := []) CX HX1757 (r_placeOf l G n hn v1753 r hM (show fa_MS (v1753 398) from by rw [hi_48.2.1 398 (by omega)]; exact hS) (v1753 398 (17 + 15 * pl + 6))) ln_X7_60 (by omega) rfl rfl rfl rfl (Nat.le_of_ble_eq_true rfl) hl.1 ⟨Nat.le_of_ble_eq_true rfl, Nat.le_of_ble_eq_true rfl⟩ ⟨Nat.le_refl _, Nat.le_refl _⟩ dX7_tellStaying_72 (fun x1759 H locs h1758 HX1760 => ?_)
                    have h_pl72 := h1758.1
                    have h_plm72 := h1758.2
                    refine lv_istore_n (lv' := [(3, .int (x1759)), (0, .ref (fa_B G + (397))), (1, .int (mi)), (2, .int (nI (pl)))]) hx hb dX7_tellStaying_75 rfl hl (by decide) rfl (fun ls hl => ?_)
                    refine lv_iload_n hx hb dX7_tellStaying_76 rfl (lv_at hl 0 rfl) ?_
                    refine lv_iconst (v := (-1 : Int32)) hx hb dX7_tellStaying_77 (by decide) ?_
                    refine lv_icmp_eq (tgt := 108) hx hb dX7_tellStaying_78 (by decide) (fun c_78 => ?_) (fun c_78 => ?_)
                    · refine lv_iinc (v := nI (pl + 1)) (lv' := [(2, .int (nI (pl + 1))), (3, .int (x1759)), (0, .ref (fa_B G + (397))), (1, .int (mi))]) hx hb dX7_tellStaying_108 hl (k := 3) rfl (nI_add (pl) 1) (by decide) rfl (fun ls hl => ?_)
                      refine lv_goto (tgt := 48) hx hb dX7_tellStaying_111 (by decide) ?_
                      exact ih_48 (pl + 1) (mi) v1753 _ _ _ (by omega) (⟨by omega, hi_48.2.1, hi_48.2.2.1, fun A hok hc => by (have hm := (show fb_mA (v1753 398) A from by rw [hi_48.2.1 398 (by omega)]; exact hc); exact (hi_48.2.2.2 A hok hc).no hok hm (by rw [← hc.n, ← en4]; exact hj) h_plm72 c_78)⟩) (lv_sub hl [2, 3, 0] rfl) HX1760
                    · obtain ⟨tp, htp, etp⟩ := h_pl72.ne c_78
                      refine lv_aload_n hx hb dX7_tellStaying_81 rfl (lv_at hl 1 rfl) ?_
                      refine fa_getr (k := 397) (j := 402) CX HX1760 fl_X7_22 (by omega) rfl rfl hM.2.2.2.2.1 dX7_tellStaying_82 ?_
                      refine lv_iload_n hx hb dX7_tellStaying_85 rfl (lv_at hl 3 rfl) ?_
                      refine fa_zald (k := 402) (j := pl) CX HX1760 (by omega) rfl (by omega) (by first | decide | assumption) dX7_tellStaying_86 ?_
                      refine lv_if_eq (tgt := 108) hx hb dX7_tellStaying_87 (by decide) (fun c_87 => ?_) (fun c_87 => ?_)
                      · refine lv_iinc (v := nI (pl + 1)) (lv' := [(2, .int (nI (pl + 1))), (3, .int (x1759)), (0, .ref (fa_B G + (397))), (1, .int (mi))]) hx hb dX7_tellStaying_108 hl (k := 3) rfl (nI_add (pl) 1) (by decide) rfl (fun ls hl => ?_)
                        refine lv_goto (tgt := 48) hx hb dX7_tellStaying_111 (by decide) ?_
                        exact ih_48 (pl + 1) (mi) v1753 _ _ _ (by omega) (⟨by omega, hi_48.2.1, hi_48.2.2.1, fun A hok hc => by (have hm := (show fb_mA (v1753 398) A from by rw [hi_48.2.1 398 (by omega)]; exact hc); exact (hi_48.2.2.2 A hok hc).at (fun i hi e y => absurd c_87 y))⟩) (lv_sub hl [2, 3, 0] rfl) HX1760
                      · refine lv_aload_n hx hb dX7_tellStaying_90 rfl (lv_at hl 1 rfl) ?_
                        refine fa_getr (k := 397) (j := 402) CX HX1760 fl_X7_22 (by omega) rfl rfl hM.2.2.2.2.1 dX7_tellStaying_91 ?_
                        refine lv_iload_n hx hb dX7_tellStaying_94 rfl (lv_at hl 0 rfl) ?_
                        rw [show x1759 = nI (tp) from etp]
                        refine fa_zald (k := 402) (j := tp) CX HX1760 (by omega) rfl (by omega) (by first | decide | assumption) dX7_tellStaying_95 ?_
                        refine lv_if_ne (tgt := 108) hx hb dX7_tellStaying_96 (by decide) (fun c_96 => ?_) (fun c_96 => ?_)
                        · refine lv_iinc (v := nI (pl + 1)) (lv' := [(2, .int (nI (pl + 1))), (3, .int (x1759)), (0, .ref (fa_B G + (397))), (1, .int (mi))]) hx hb dX7_tellStaying_108 hl (k := 3) rfl (nI_add (pl) 1) (by decide) rfl (fun ls hl => ?_)
                          refine lv_goto (tgt := 48) hx hb dX7_tellStaying_111 (by decide) ?_
                          exact ih_48 (pl + 1) (mi) v1753 _ _ _ (by omega) (⟨by omega, hi_48.2.1, hi_48.2.2.1, fun A hok hc => by (have hm := (show fb_mA (v1753 398) A from by rw [hi_48.2.1 398 (by omega)]; exact hc); exact (hi_48.2.2.2 A hok hc).ne hok hm (by rw [← hc.n, ← en4]; exact hj) h_plm72 htp etp c_96)⟩) (lv_sub hl [2, 3, 0] rfl) HX1760
                        · refine lv_aload_n hx hb dX7_tellStaying_99 rfl (lv_at hl 1 rfl) ?_
                          refine fa_getr (k := 397) (j := 402) CX HX1760 fl_X7_22 (by omega) rfl rfl hM.2.2.2.2.1 dX7_tellStaying_100 ?_
                          refine lv_iload_n hx hb dX7_tellStaying_103 rfl (lv_at hl 0 rfl) ?_
                          rw [show x1759 = nI (tp) from etp]
                          refine lv_iconst (v := nI (1)) hx hb dX7_tellStaying_104 (by decide) ?_
                          refine fa_zast (k := 402) (j := tp) CX HX1760 (by omega) rfl (by omega) (by first | decide | assumption) dX7_tellStaying_105 (fun H locs v1761 e1762 HX1763 => ?_)
                          refine lv_iconst (v := nI (1)) hx hb dX7_tellStaying_106 (by decide) ?_
                          refine lv_istore_n (lv' := [(1, .int (nI (1))), (3, .int (x1759)), (0, .ref (fa_B G + (397))), (2, .int (nI (pl)))]) hx hb dX7_tellStaying_107 rfl hl (by decide) rfl (fun ls hl => ?_)
                          refine lv_iinc (v := nI (pl + 1)) (lv' := [(2, .int (nI (pl + 1))), (1, .int (nI (1))), (3, .int (x1759)), (0, .ref (fa_B G + (397)))]) hx hb dX7_tellStaying_108 hl (k := 3) rfl (nI_add (pl) 1) (by decide) rfl (fun ls hl => ?_)
                          refine lv_goto (tgt := 48) hx hb dX7_tellStaying_111 (by decide) ?_
                          exact ih_48 (pl + 1) (nI (1)) v1761 _ _ _ (by omega) (⟨by omega, (by rw [e1762]; exact fa_fr.u (fa_fr.tr fa_fr.rf (fa_fr.wide hi_48.2.1 (by omega) (by omega))) (by omega)), Or.inr ⟨rfl, fa_more2 hi_48.2.2.1 (by rw [e1762]; exact fa_cnt_u (by omega) c_96 (by decide))⟩, fun A hok hc => by (have hm := (show fb_mA (v1753 398) A from by rw [hi_48.2.1 398 (by omega)]; exact hc); rw [e1762]; exact (hi_48.2.2.2 A hok hc).wr hok hm (by rw [← hc.n, ← en4]; exact hj) h_plm72 htp etp c_87)⟩) (lv_sub hl [3, 1, 0] rfl) HX1763
              exact LOOP_48 (n4 - 0 + 1) (0) (nI (0)) v1751 _ _ _ (Nat.lt_succ_self _) (⟨Nat.zero_le _, (fa_fr.tr fa_fr.rf (fa_fr.wide hi_40.1 (by omega) (by omega))), Or.inl ⟨rfl, Nat.le_refl _⟩, fun A hok hc => (hi_40.2 A hok hc).z⟩) (lv_sub hl [2, 1, 0] rfl) HX1752
        exact LOOP_40 (2 * fa_cnt (v1749 402) 24 + (if (nI (1)) = 0 then 0 else 1) + 1) (nI (1)) v1749 _ _ _ (Nat.lt_succ_self _) (⟨(fa_fr.tr fa_fr.rf (fa_fr.wide hi_2.2.1 (by omega) (by omega))), fun A hok hc => fb_t1.e (by have z := hi_2.2.2 A hok hc; rw [show j = A.n by rw [← hc.n, ← en4]; exact hjn] at z; exact z) (by decide)⟩) (lv_sub hl [1, 0] rfl) HX1750
      · have hj := fa_ltN (by omega) (by omega) c_10
        refine lv_aload_n hx hb dX7_tellStaying_13 rfl (lv_at hl 0 rfl) ?_
        refine fa_getr (k := 397) (j := 402) CX HX1750 fl_X7_22 (by omega) rfl rfl hM.2.2.2.2.1 dX7_tellStaying_14 ?_
        refine lv_iload_n hx hb dX7_tellStaying_17 rfl (lv_at hl 1 rfl) ?_
        refine lv_aload_n hx hb dX7_tellStaying_18 rfl (lv_at hl 0 rfl) ?_
        refine lv_iload_n hx hb dX7_tellStaying_19 rfl (lv_at hl 1 rfl) ?_
        refine fa_callVip (As := [.int (nI (j))]) (rest := [.int (nI (j)), .ref (fa_B G + (402))]) CX HX1750 (r_ownReason l G n hn v1749 r hM (show fa_MS (v1749 398) from by rw [hi_2.2.1 398 (by omega)]; exact hS) (j) (by omega)) ln_X7_57 (by omega) rfl rfl rfl rfl (Nat.le_of_ble_eq_true rfl) hl.1 ⟨Nat.le_of_ble_eq_true rfl, Nat.le_of_ble_eq_true rfl⟩ ⟨Nat.le_refl _, Nat.le_refl _⟩ dX7_tellStaying_20 (fun x1765 H locs h1764 HX1766 => ?_)
        have h_ownReason := h1764
        refine lv_if_le (tgt := 30) hx hb dX7_tellStaying_23 (by decide) (fun c_23 => ?_) (fun c_23 => ?_)
        · refine lv_iconst (v := nI (0)) hx hb dX7_tellStaying_30 (by decide) ?_
          refine fa_zast (k := 402) (j := j) CX HX1766 (by omega) rfl (by omega) (by first | decide | assumption) dX7_tellStaying_31 (fun H locs v1767 e1768 HX1769 => ?_)
          refine lv_iinc (v := nI (j + 1)) (lv' := [(1, .int (nI (j + 1))), (0, .ref (fa_B G + (397)))]) hx hb dX7_tellStaying_32 hl (k := 1) rfl (nI_add (j) 1) (by decide) rfl (fun ls hl => ?_)
          refine lv_goto (tgt := 2) hx hb dX7_tellStaying_35 (by decide) ?_
          exact ih_2 (j + 1) v1767 _ _ _ (by omega) (⟨by omega, (by rw [e1768]; exact fa_fr.u (fa_fr.tr fa_fr.rf (fa_fr.wide hi_2.2.1 (by omega) (by omega))) (by omega)), fun A hok hc => by (rw [e1768]; exact fb_t1.s (hi_2.2.2 A hok hc) (h_ownReason.trans ((show fb_mA (v1749 398) A from by rw [hi_2.2.1 398 (by omega)]; exact hc).own hok (by rw [← hc.n, ← en4]; exact hj))) (if_pos c_23).symm)⟩) (lv_sub hl [1, 0] rfl) HX1769
        · refine lv_iconst (v := nI (1)) hx hb dX7_tellStaying_26 (by decide) ?_
          refine lv_goto (tgt := 31) hx hb dX7_tellStaying_27 (by decide) ?_
          refine fa_zast (k := 402) (j := j) CX HX1766 (by omega) rfl (by omega) (by first | decide | assumption) dX7_tellStaying_31 (fun H locs v1770 e1771 HX1772 => ?_)
          refine lv_iinc (v := nI (j + 1)) (lv' := [(1, .int (nI (j + 1))), (0, .ref (fa_B G + (397)))]) hx hb dX7_tellStaying_32 hl (k := 1) rfl (nI_add (j) 1) (by decide) rfl (fun ls hl => ?_)
          refine lv_goto (tgt := 2) hx hb dX7_tellStaying_35 (by decide) ?_
          exact ih_2 (j + 1) v1770 _ _ _ (by omega) (⟨by omega, (by rw [e1771]; exact fa_fr.u (fa_fr.tr fa_fr.rf (fa_fr.wide hi_2.2.1 (by omega) (by omega))) (by omega)), fun A hok hc => by (rw [e1771]; exact fb_t1.s (hi_2.2.2 A hok hc) (h_ownReason.trans ((show fb_mA (v1749 398) A from by rw [hi_2.2.1 398 (by omega)]; exact hc).own hok (by rw [← hc.n, ← en4]; exact hj))) (if_neg c_23).symm)⟩) (lv_sub hl [1, 0] rfl) HX1772
  exact LOOP_2 (n4 - 0 + 1) (0) v _ _ _ (Nat.lt_succ_self _) (⟨Nat.zero_le _, fa_fr.rf, fun _ _ _ p hp => absurd hp (Nat.not_lt_zero _)⟩) (lv_sub hl [1, 0] rfl) HX
