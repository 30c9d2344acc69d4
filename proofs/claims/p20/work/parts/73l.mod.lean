set_option maxHeartbeats 4000000 in
set_option maxRecDepth 100000 in
theorem r_burn (l : Launch) (G : fa_G) (n : Nat) (hn : 406 ≤ n) (v : fa_V) (r : fa_R) (hM : fa_RM r) (hS : fa_MS (v 398)) (u : Nat) (hu : u < 24) : fa_MV l G n yX7_burn cX7_burn 4 3 [.ref (fa_B G + (397)), .int (nI (u))] v r (fa_vo r (fun v1 => ((fa_MS (v1 398)) ∧ (v1 398 14 = v 398 14) ∧ (v1 398 15 = v 398 15) ∧ (fb_mBU (v 398) (v1 398) u)) ∧ (fa_fr (398) (399) v v1))) := by
  refine fa_startV (by decide +kernel) (Nat.le_of_ble_eq_true rfl) (fun p e s m args below meth c ls Q CX hl HX RET => ?_)
  have hl : lv_has ls 4 [(0, .ref (fa_B G + (397))), (1, .int (nI (u)))] := hl
  have hx := CX.1.1
  have hb := CX.1.2.1
  obtain ⟨n4, en4⟩ : ∃ m, m = fa_N (v 398 14) := ⟨_, rfl⟩
  obtain ⟨hn4, g4⟩ := hS.n4 en4
  obtain ⟨n5, en5⟩ : ∃ m, m = fa_N (v 398 15) := ⟨_, rfl⟩
  obtain ⟨hn5, g5⟩ := hS.n5 en5
  obtain ⟨n6, en6⟩ : ∃ m, m = fa_N (v 398 16) := ⟨_, rfl⟩
  obtain ⟨hn6, g6⟩ := hS.n6 en6
  refine lv_aload_n hx hb dX7_burn_0 rfl (lv_at hl 0 rfl) ?_
  refine fa_getr (k := 397) (j := 398) CX HX fl_X7_7 (by omega) rfl rfl hM.1 dX7_burn_1 ?_
  refine lv_iload_n hx hb dX7_burn_4 rfl (lv_at hl 1 rfl) ?_
  refine fa_callSip (As := [.int (nI (u))]) (rest := [.ref (fa_B G + (398))]) CX HX (r_f l G n v r (u)) ln_X7_36 rfl rfl (Nat.le_of_ble_eq_true rfl) hl.1 ⟨Nat.le_of_ble_eq_true rfl, Nat.le_of_ble_eq_true rfl⟩ ⟨Nat.le_refl _, Nat.le_refl _⟩ dX7_burn_5 (fun x1842 H locs h1841 HX1843 => ?_)
  subst h1841
  refine fa_iald (k := 398) (j := 17 + 15 * u) CX HX1843 (by omega) rfl (by omega) (by first | decide | assumption) dX7_burn_8 ?_
  refine lv_istore_n (lv' := [(2, .int (v 398 (17 + 15 * u))), (0, .ref (fa_B G + (397))), (1, .int (nI (u)))]) hx hb dX7_burn_9 rfl hl (by decide) rfl (fun ls hl => ?_)
  refine lv_aload_n hx hb dX7_burn_10 rfl (lv_at hl 1 rfl) ?_
  refine lv_iload_n hx hb dX7_burn_11 rfl (lv_at hl 2 rfl) ?_
  refine fa_callVvu (As := [.int (nI (u))]) (rest := []) CX HX1843 (r_leaveTrace l G n hn v r hM hS (u) (by omega)) ln_X7_63 (by omega) rfl rfl rfl rfl (Nat.le_of_ble_eq_true rfl) hl.1 ⟨Nat.le_of_ble_eq_true rfl, Nat.le_of_ble_eq_true rfl⟩ ⟨Nat.le_refl _, Nat.le_refl _⟩ dX7_burn_12 (fun v1845 H locs h1844 HX1846 => ?_)
  have hS_v1845 := h1844.1.1
  have h_leaveTrace := h1844.1.2.2.2
  refine lv_aload_n hx hb dX7_burn_15 rfl (lv_at hl 1 rfl) ?_
  refine fa_getr (k := 397) (j := 398) CX HX1846 fl_X7_7 (by omega) rfl rfl hM.1 dX7_burn_16 ?_
  refine lv_bipush (v := nI (9)) hx hb dX7_burn_19 (by decide) ?_
  refine lv_dup2_11 hx hb dX7_burn_21 rfl rfl ?_
  refine fa_iald (k := 398) (j := 9) CX HX1846 (by omega) rfl (by omega) (by first | decide | assumption) dX7_burn_22 ?_
  refine lv_iconst (v := nI (1)) hx hb dX7_burn_23 (by decide) ?_
  refine lv_iadd hx hb dX7_burn_24 ?_
  refine fa_iast (k := 398) (j := 9) CX HX1846 (by omega) rfl (by omega) (by first | decide | assumption) dX7_burn_25 (fun H locs v1847 e1848 HX1849 => ?_)
  refine lv_aload_n hx hb dX7_burn_26 rfl (lv_at hl 1 rfl) ?_
  refine fa_getr (k := 397) (j := 398) CX HX1849 fl_X7_7 (by omega) rfl rfl hM.1 dX7_burn_27 ?_
  refine lv_bipush (v := nI (10)) hx hb dX7_burn_30 (by decide) ?_
  refine lv_dup2_11 hx hb dX7_burn_32 rfl rfl ?_
  refine fa_iald (k := 398) (j := 10) CX HX1849 (by omega) rfl (by omega) (by first | decide | assumption) dX7_burn_33 ?_
  refine lv_aload_n hx hb dX7_burn_34 rfl (lv_at hl 1 rfl) ?_
  refine fa_getr (k := 397) (j := 398) CX HX1849 fl_X7_7 (by omega) rfl rfl hM.1 dX7_burn_35 ?_
  refine lv_iload_n hx hb dX7_burn_38 rfl (lv_at hl 2 rfl) ?_
  refine fa_callSip (As := [.int (nI (u))]) (rest := [.ref (fa_B G + (398)), .int (v1847 398 10), .int (nI (10)), .ref (fa_B G + (398))]) CX HX1849 (r_f l G n v1847 r (u)) ln_X7_36 rfl rfl (Nat.le_of_ble_eq_true rfl) hl.1 ⟨Nat.le_of_ble_eq_true rfl, Nat.le_of_ble_eq_true rfl⟩ ⟨Nat.le_refl _, Nat.le_refl _⟩ dX7_burn_39 (fun x1851 H locs h1850 HX1852 => ?_)
  subst h1850
  refine lv_iconst (v := nI (2)) hx hb dX7_burn_42 (by decide) ?_
  refine fa_iaddN hx hb dX7_burn_43 ?_
  refine fa_iald (k := 398) (j := 17 + 15 * u + 2) CX HX1852 (by omega) rfl (by omega) (by first | decide | assumption) dX7_burn_44 ?_
  refine lv_iadd hx hb dX7_burn_45 ?_
  refine fa_iast (k := 398) (j := 10) CX HX1852 (by omega) rfl (by omega) (by first | decide | assumption) dX7_burn_46 (fun H locs v1853 e1854 HX1855 => ?_)
  refine lv_iconst (v := nI (0)) hx hb dX7_burn_47 (by decide) ?_
  refine lv_istore_n (lv' := [(3, .int (nI (0))), (2, .int (v 398 (17 + 15 * u))), (0, .ref (fa_B G + (397))), (1, .int (nI (u)))]) hx hb dX7_burn_48 rfl hl (by decide) rfl (fun ls hl => ?_)
  have LOOP_49 : ∀ (fu : Nat) (j : Nat) (v1856 : fa_V) (H : Heap) (locs : List Loc) (ls : Array Slot), n4 - j < fu → (j ≤ n4 ∧ fa_MS (v1856 398) ∧ v1856 398 14 = v 398 14 ∧ v1856 398 15 = v 398 15 ∧ fa_fr 398 399 v v1856 ∧ fb_mBU (v 398) (v1856 398) u) → lv_has ls 4 [(0, .ref (fa_B G + (397))), (1, .int (nI (u))), (2, .int (v 398 (17 + 15 * u))), (3, .int (nI (j)))] → fa_HX G (n) v1856 r s H locs → W p l e (fa_rm 3) s m args below meth c H locs (0) (0) Q (F0 m 49 ls []) := by
    intro fu
    induction fu with
    | zero => intro j v1856 H locs ls hk; exact absurd hk (Nat.not_lt_zero _)
    | succ fu ih_49 =>
      intro j v1856 H locs ls hk_49 hi_49 hl HX1857
      refine lv_iload_n hx hb dX7_burn_49 rfl (lv_at hl 3 rfl) ?_
      refine lv_aload_n hx hb dX7_burn_50 rfl (lv_at hl 0 rfl) ?_
      refine fa_getr (k := 397) (j := 398) CX HX1857 fl_X7_7 (by omega) rfl rfl hM.1 dX7_burn_51 ?_
      refine lv_bipush (v := nI (14)) hx hb dX7_burn_54 (by decide) ?_
      refine fa_iald (k := 398) (j := 14) CX HX1857 (by omega) rfl (by omega) (by first | decide | assumption) dX7_burn_56 ?_
      rw [show v1856 398 14 = nI (n4) from ((hi_49.2.2.1).trans g4)]
      refine lv_icmp_ge (tgt := 110) hx hb dX7_burn_57 (by decide) (fun c_57 => ?_) (fun c_57 => ?_)
      · exact RET _ _ _ _ _ _ HX1857 dX7_burn_110 (⟨rfl, ⟨⟨hi_49.2.1, (show v1856 398 14 = v 398 14 from ((show v1856 398 14 = nI (n4) from ((hi_49.2.2.1).trans g4)).trans g4.symm)), (show v1856 398 15 = v 398 15 from ((show v1856 398 15 = nI (n5) from ((hi_49.2.2.2.1).trans g5)).trans g5.symm)), hi_49.2.2.2.2.2⟩, (fa_fr.tr fa_fr.rf (fa_fr.wide hi_49.2.2.2.2.1 (by omega) (by omega)))⟩⟩)
      · have hj := fa_ltN (by omega) (by omega) c_57
        refine lv_aload_n hx hb dX7_burn_60 rfl (lv_at hl 0 rfl) ?_
        refine fa_getr (k := 397) (j := 398) CX HX1857 fl_X7_7 (by omega) rfl rfl hM.1 dX7_burn_61 ?_
        refine lv_iload_n hx hb dX7_burn_64 rfl (lv_at hl 3 rfl) ?_
        refine fa_callSip (As := [.int (nI (j))]) (rest := [.ref (fa_B G + (398))]) CX HX1857 (r_f l G n v1856 r (j)) ln_X7_36 rfl rfl (Nat.le_of_ble_eq_true rfl) hl.1 ⟨Nat.le_of_ble_eq_true rfl, Nat.le_of_ble_eq_true rfl⟩ ⟨Nat.le_refl _, Nat.le_refl _⟩ dX7_burn_65 (fun x1859 H locs h1858 HX1860 => ?_)
        subst h1858
        refine lv_bipush (v := nI (6)) hx hb dX7_burn_68 (by decide) ?_
        refine fa_iaddN hx hb dX7_burn_70 ?_
        refine lv_aload_n hx hb dX7_burn_71 rfl (lv_at hl 0 rfl) ?_
        refine fa_getr (k := 397) (j := 398) CX HX1860 fl_X7_7 (by omega) rfl rfl hM.1 dX7_burn_72 ?_
        refine lv_iload_n hx hb dX7_burn_75 rfl (lv_at hl 3 rfl) ?_
        refine fa_callSip (As := [.int (nI (j))]) (rest := [.ref (fa_B G + (398)), .int (nI (17 + 15 * j + 6)), .ref (fa_B G + (398))]) CX HX1860 (r_f l G n v1856 r (j)) ln_X7_36 rfl rfl (Nat.le_of_ble_eq_true rfl) hl.1 ⟨Nat.le_of_ble_eq_true rfl, Nat.le_of_ble_eq_true rfl⟩ ⟨Nat.le_refl _, Nat.le_refl _⟩ dX7_burn_76 (fun x1862 H locs h1861 HX1863 => ?_)
        subst h1861
        refine lv_bipush (v := nI (6)) hx hb dX7_burn_79 (by decide) ?_
        refine fa_iaddN hx hb dX7_burn_81 ?_
        refine fa_iald (k := 398) (j := 17 + 15 * j + 6) CX HX1863 (by omega) rfl (by omega) (by first | decide | assumption) dX7_burn_82 ?_
        refine lv_iload_n hx hb dX7_burn_83 rfl (lv_at hl 2 rfl) ?_
        refine lv_icmp_ne (tgt := 91) hx hb dX7_burn_84 (by decide) (fun c_84 => ?_) (fun c_84 => ?_)
        · refine lv_aload_n hx hb dX7_burn_91 rfl (lv_at hl 0 rfl) ?_
          refine fa_getr (k := 397) (j := 398) CX HX1863 fl_X7_7 (by omega) rfl rfl hM.1 dX7_burn_92 ?_
          refine lv_iload_n hx hb dX7_burn_95 rfl (lv_at hl 3 rfl) ?_
          refine fa_callSip (As := [.int (nI (j))]) (rest := [.ref (fa_B G + (398)), .int (nI (17 + 15 * j + 6)), .ref (fa_B G + (398))]) CX HX1863 (r_f l G n v1856 r (j)) ln_X7_36 rfl rfl (Nat.le_of_ble_eq_true rfl) hl.1 ⟨Nat.le_of_ble_eq_true rfl, Nat.le_of_ble_eq_true rfl⟩ ⟨Nat.le_refl _, Nat.le_refl _⟩ dX7_burn_96 (fun x1865 H locs h1864 HX1866 => ?_)
          subst h1864
          refine lv_bipush (v := nI (6)) hx hb dX7_burn_99 (by decide) ?_
          refine fa_iaddN hx hb dX7_burn_101 ?_
          refine fa_iald (k := 398) (j := 17 + 15 * j + 6) CX HX1866 (by omega) rfl (by omega) (by first | decide | assumption) dX7_burn_102 ?_
          refine fa_iast (k := 398) (j := 17 + 15 * j + 6) CX HX1866 (by omega) rfl (by omega) (by first | decide | assumption) dX7_burn_103 (fun H locs v1867 e1868 HX1869 => ?_)
          refine lv_iinc (v := nI (j + 1)) (lv' := [(3, .int (nI (j + 1))), (0, .ref (fa_B G + (397))), (1, .int (nI (u))), (2, .int (v 398 (17 + 15 * u)))]) hx hb dX7_burn_104 hl (k := 3) rfl (nI_add (j) 1) (by decide) rfl (fun ls hl => ?_)
          refine lv_goto (tgt := 49) hx hb dX7_burn_107 (by decide) ?_
          exact ih_49 (j + 1) v1867 _ _ _ (by omega) (⟨by omega, (show fa_MS (v1867 398) from by rw [e1868]; exact fa_MS.u hi_49.2.1 (fa_ok.o (by omega) (by omega) (by omega) (fun p hp => by omega))), ((show v1867 398 14 = nI (n4) from (by rw [e1868, fa_u_n _ _ (by omega)]; exact ((hi_49.2.2.1).trans g4))).trans g4.symm), ((show v1867 398 15 = nI (n5) from (by rw [e1868, fa_u_n _ _ (by omega)]; exact ((hi_49.2.2.2.1).trans g5))).trans g5.symm), (by rw [e1868]; exact fa_fr.u (fa_fr.tr fa_fr.rf (fa_fr.wide hi_49.2.2.2.2.1 (by omega) (by omega))) (by omega)), hi_49.2.2.2.2.2.same e1868 rfl⟩) (lv_sub hl [1, 2, 3, 0] rfl) HX1869
        · refine lv_iconst (v := (-1 : Int32)) hx hb dX7_burn_87 (by decide) ?_
          refine lv_goto (tgt := 103) hx hb dX7_burn_88 (by decide) ?_
          refine fa_iast (k := 398) (j := 17 + 15 * j + 6) CX HX1863 (by omega) rfl (by omega) (by first | decide | assumption) dX7_burn_103 (fun H locs v1870 e1871 HX1872 => ?_)
          refine lv_iinc (v := nI (j + 1)) (lv' := [(3, .int (nI (j + 1))), (0, .ref (fa_B G + (397))), (1, .int (nI (u))), (2, .int (v 398 (17 + 15 * u)))]) hx hb dX7_burn_104 hl (k := 3) rfl (nI_add (j) 1) (by decide) rfl (fun ls hl => ?_)
          refine lv_goto (tgt := 49) hx hb dX7_burn_107 (by decide) ?_
          exact ih_49 (j + 1) v1870 _ _ _ (by omega) (⟨by omega, (show fa_MS (v1870 398) from by rw [e1871]; exact fa_MS.u hi_49.2.1 (fa_ok.o (by omega) (by omega) (by omega) (fun p hp => by omega))), ((show v1870 398 14 = nI (n4) from (by rw [e1871, fa_u_n _ _ (by omega)]; exact ((hi_49.2.2.1).trans g4))).trans g4.symm), ((show v1870 398 15 = nI (n5) from (by rw [e1871, fa_u_n _ _ (by omega)]; exact ((hi_49.2.2.2.1).trans g5))).trans g5.symm), (by rw [e1871]; exact fa_fr.u (fa_fr.tr fa_fr.rf (fa_fr.wide hi_49.2.2.2.2.1 (by omega) (by omega))) (by omega)), hi_49.2.2.2.2.2.w (by omega) e1871 (by first | exact c_84 | exact Decidable.not_not.mp c_84)⟩) (lv_sub hl [1, 2, 3, 0] rfl) HX1872
  exact LOOP_49 (n4 - 0 + 1) (0) v1853 _ _ _ (Nat.lt_succ_self _) (⟨Nat.zero_le _, (show fa_MS (v1853 398) from by rw [e1854]; exact fa_MS.u (show fa_MS (v1847 398) from by rw [e1848]; exact fa_MS.u hS_v1845 (fa_ok.o (by omega) (by omega) (by omega) (fun p hp => by omega))) (fa_ok.o (by omega) (by omega) (by omega) (fun p hp => by omega))), ((show v1853 398 14 = nI (n4) from (by rw [e1854, fa_u_n _ _ (by omega)]; exact (by rw [e1848, fa_u_n _ _ (by omega)]; exact ((h1844.1.2.1).trans g4)))).trans g4.symm), ((show v1853 398 15 = nI (n5) from (by rw [e1854, fa_u_n _ _ (by omega)]; exact (by rw [e1848, fa_u_n _ _ (by omega)]; exact ((h1844.1.2.2.1).trans g5)))).trans g5.symm), (by rw [e1854]; exact fa_fr.u (by rw [e1848]; exact fa_fr.u (fa_fr.tr fa_fr.rf (fa_fr.wide h1844.2 (by omega) (by omega))) (by omega)) (by omega)), fb_mBU.start hu h_leaveTrace e1848 e1854⟩) (lv_sub hl [2, 3, 1, 0] rfl) HX1855
