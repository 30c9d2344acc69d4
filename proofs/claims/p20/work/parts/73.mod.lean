set_option maxHeartbeats 4000000 in
set_option maxRecDepth 100000 in
theorem r_leaveTrace (l : Launch) (G : fa_G) (n : Nat) (hn : 406 ≤ n) (v : fa_V) (r : fa_R) (hM : fa_RM r) (hS : fa_MS (v 398)) (u : Nat) (hu : u < 24) : fa_MV l G n yX7_leaveTrace cX7_leaveTrace 3 2 [.ref (fa_B G + (397)), .int (nI (u))] v r (fa_vo r (fun v1 => ((fa_MS (v1 398)) ∧ (v1 398 14 = v 398 14) ∧ (v1 398 15 = v 398 15) ∧ (fb_mLV (v 398) (v1 398) u)) ∧ (fa_fr (398) (399) v v1))) := by
  refine fa_startV (by decide +kernel) (Nat.le_of_ble_eq_true rfl) (fun p e s m args below meth c ls Q CX hl HX RET => ?_)
  have hl : lv_has ls 3 [(0, .ref (fa_B G + (397))), (1, .int (nI (u)))] := hl
  have hx := CX.1.1
  have hb := CX.1.2.1
  obtain ⟨n4, en4⟩ : ∃ m, m = fa_N (v 398 14) := ⟨_, rfl⟩
  obtain ⟨hn4, g4⟩ := hS.n4 en4
  obtain ⟨n5, en5⟩ : ∃ m, m = fa_N (v 398 15) := ⟨_, rfl⟩
  obtain ⟨hn5, g5⟩ := hS.n5 en5
  obtain ⟨n6, en6⟩ : ∃ m, m = fa_N (v 398 16) := ⟨_, rfl⟩
  obtain ⟨hn6, g6⟩ := hS.n6 en6
  refine lv_aload_n hx hb dX7_leaveTrace_0 rfl (lv_at hl 0 rfl) ?_
  refine fa_getr (k := 397) (j := 398) CX HX fl_X7_7 (by omega) rfl rfl hM.1 dX7_leaveTrace_1 ?_
  refine lv_bipush (v := nI (16)) hx hb dX7_leaveTrace_4 (by decide) ?_
  refine fa_iald (k := 398) (j := 16) CX HX (by omega) rfl (by omega) (by first | decide | assumption) dX7_leaveTrace_6 ?_
  rw [show v 398 16 = nI (n6) from g6]
  refine lv_bipush (v := nI (12)) hx hb dX7_leaveTrace_7 (by decide) ?_
  refine lv_icmp_ne (tgt := 54) hx hb dX7_leaveTrace_9 (by decide) (fun c_9 => ?_) (fun c_9 => ?_)
  · have hne : ¬ n6 = 12 := fun z => c_9 (by rw [z])
    refine lv_sipush (v := nI (393)) hx hb dX7_leaveTrace_54 (by decide) ?_
    refine lv_iconst (v := nI (5)) hx hb dX7_leaveTrace_57 (by decide) ?_
    refine lv_aload_n hx hb dX7_leaveTrace_58 rfl (lv_at hl 0 rfl) ?_
    refine fa_getr (k := 397) (j := 398) CX HX fl_X7_7 (by omega) rfl rfl hM.1 dX7_leaveTrace_59 ?_
    refine lv_bipush (v := nI (16)) hx hb dX7_leaveTrace_62 (by decide) ?_
    refine fa_iald (k := 398) (j := 16) CX HX (by omega) rfl (by omega) (by first | decide | assumption) dX7_leaveTrace_64 ?_
    rw [show v 398 16 = nI (n6) from g6]
    refine fa_imulN hx hb dX7_leaveTrace_65 ?_
    refine fa_iaddN hx hb dX7_leaveTrace_66 ?_
    refine lv_istore_n (lv' := [(2, .int (nI (393 + (5 * n6)))), (0, .ref (fa_B G + (397))), (1, .int (nI (u)))]) hx hb dX7_leaveTrace_67 rfl hl (by decide) rfl (fun ls hl => ?_)
    refine lv_aload_n hx hb dX7_leaveTrace_68 rfl (lv_at hl 1 rfl) ?_
    refine fa_getr (k := 397) (j := 398) CX HX fl_X7_7 (by omega) rfl rfl hM.1 dX7_leaveTrace_69 ?_
    refine lv_iload_n hx hb dX7_leaveTrace_72 rfl (lv_at hl 0 rfl) ?_
    refine lv_aload_n hx hb dX7_leaveTrace_73 rfl (lv_at hl 1 rfl) ?_
    refine fa_getr (k := 397) (j := 398) CX HX fl_X7_7 (by omega) rfl rfl hM.1 dX7_leaveTrace_74 ?_
    refine lv_iload_n hx hb dX7_leaveTrace_77 rfl (lv_at hl 2 rfl) ?_
    refine fa_callSip (As := [.int (nI (u))]) (rest := [.ref (fa_B G + (398)), .int (nI (393 + (5 * n6))), .ref (fa_B G + (398))]) CX HX (r_f l G n v r (u)) ln_X7_36 rfl rfl (Nat.le_of_ble_eq_true rfl) hl.1 ⟨Nat.le_of_ble_eq_true rfl, Nat.le_of_ble_eq_true rfl⟩ ⟨Nat.le_refl _, Nat.le_refl _⟩ dX7_leaveTrace_78 (fun x1774 H locs h1773 HX1775 => ?_)
    subst h1773
    refine fa_iald (k := 398) (j := 17 + 15 * u) CX HX1775 (by omega) rfl (by omega) (by first | decide | assumption) dX7_leaveTrace_81 ?_
    refine fa_iast (k := 398) (j := 393 + (5 * n6)) CX HX1775 (by omega) rfl (by omega) (by first | decide | assumption) dX7_leaveTrace_82 (fun H locs v1776 e1777 HX1778 => ?_)
    refine lv_aload_n hx hb dX7_leaveTrace_83 rfl (lv_at hl 1 rfl) ?_
    refine fa_getr (k := 397) (j := 398) CX HX1778 fl_X7_7 (by omega) rfl rfl hM.1 dX7_leaveTrace_84 ?_
    refine lv_iload_n hx hb dX7_leaveTrace_87 rfl (lv_at hl 0 rfl) ?_
    refine lv_iconst (v := nI (1)) hx hb dX7_leaveTrace_88 (by decide) ?_
    refine fa_iaddN hx hb dX7_leaveTrace_89 ?_
    refine lv_aload_n hx hb dX7_leaveTrace_90 rfl (lv_at hl 1 rfl) ?_
    refine fa_getr (k := 397) (j := 398) CX HX1778 fl_X7_7 (by omega) rfl rfl hM.1 dX7_leaveTrace_91 ?_
    refine lv_iload_n hx hb dX7_leaveTrace_94 rfl (lv_at hl 2 rfl) ?_
    refine fa_callSip (As := [.int (nI (u))]) (rest := [.ref (fa_B G + (398)), .int (nI (393 + (5 * n6) + 1)), .ref (fa_B G + (398))]) CX HX1778 (r_f l G n v1776 r (u)) ln_X7_36 rfl rfl (Nat.le_of_ble_eq_true rfl) hl.1 ⟨Nat.le_of_ble_eq_true rfl, Nat.le_of_ble_eq_true rfl⟩ ⟨Nat.le_refl _, Nat.le_refl _⟩ dX7_leaveTrace_95 (fun x1780 H locs h1779 HX1781 => ?_)
    subst h1779
    refine lv_iconst (v := nI (1)) hx hb dX7_leaveTrace_98 (by decide) ?_
    refine fa_iaddN hx hb dX7_leaveTrace_99 ?_
    refine fa_iald (k := 398) (j := 17 + 15 * u + 1) CX HX1781 (by omega) rfl (by omega) (by first | decide | assumption) dX7_leaveTrace_100 ?_
    refine fa_iast (k := 398) (j := 393 + (5 * n6) + 1) CX HX1781 (by omega) rfl (by omega) (by first | decide | assumption) dX7_leaveTrace_101 (fun H locs v1782 e1783 HX1784 => ?_)
    refine lv_aload_n hx hb dX7_leaveTrace_102 rfl (lv_at hl 1 rfl) ?_
    refine fa_getr (k := 397) (j := 398) CX HX1784 fl_X7_7 (by omega) rfl rfl hM.1 dX7_leaveTrace_103 ?_
    refine lv_iload_n hx hb dX7_leaveTrace_106 rfl (lv_at hl 0 rfl) ?_
    refine lv_iconst (v := nI (2)) hx hb dX7_leaveTrace_107 (by decide) ?_
    refine fa_iaddN hx hb dX7_leaveTrace_108 ?_
    refine lv_aload_n hx hb dX7_leaveTrace_109 rfl (lv_at hl 1 rfl) ?_
    refine fa_getr (k := 397) (j := 398) CX HX1784 fl_X7_7 (by omega) rfl rfl hM.1 dX7_leaveTrace_110 ?_
    refine lv_iload_n hx hb dX7_leaveTrace_113 rfl (lv_at hl 2 rfl) ?_
    refine fa_callSip (As := [.int (nI (u))]) (rest := [.ref (fa_B G + (398)), .int (nI (393 + (5 * n6) + 2)), .ref (fa_B G + (398))]) CX HX1784 (r_f l G n v1782 r (u)) ln_X7_36 rfl rfl (Nat.le_of_ble_eq_true rfl) hl.1 ⟨Nat.le_of_ble_eq_true rfl, Nat.le_of_ble_eq_true rfl⟩ ⟨Nat.le_refl _, Nat.le_refl _⟩ dX7_leaveTrace_114 (fun x1786 H locs h1785 HX1787 => ?_)
    subst h1785
    refine lv_iconst (v := nI (2)) hx hb dX7_leaveTrace_117 (by decide) ?_
    refine fa_iaddN hx hb dX7_leaveTrace_118 ?_
    refine fa_iald (k := 398) (j := 17 + 15 * u + 2) CX HX1787 (by omega) rfl (by omega) (by first | decide | assumption) dX7_leaveTrace_119 ?_
    refine fa_iast (k := 398) (j := 393 + (5 * n6) + 2) CX HX1787 (by omega) rfl (by omega) (by first | decide | assumption) dX7_leaveTrace_120 (fun H locs v1788 e1789 HX1790 => ?_)
    refine lv_aload_n hx hb dX7_leaveTrace_121 rfl (lv_at hl 1 rfl) ?_
    refine fa_getr (k := 397) (j := 398) CX HX1790 fl_X7_7 (by omega) rfl rfl hM.1 dX7_leaveTrace_122 ?_
    refine lv_iload_n hx hb dX7_leaveTrace_125 rfl (lv_at hl 0 rfl) ?_
    refine lv_iconst (v := nI (3)) hx hb dX7_leaveTrace_126 (by decide) ?_
    refine fa_iaddN hx hb dX7_leaveTrace_127 ?_
    refine lv_aload_n hx hb dX7_leaveTrace_128 rfl (lv_at hl 1 rfl) ?_
    refine fa_getr (k := 397) (j := 398) CX HX1790 fl_X7_7 (by omega) rfl rfl hM.1 dX7_leaveTrace_129 ?_
    refine lv_bipush (v := nI (7)) hx hb dX7_leaveTrace_132 (by decide) ?_
    refine fa_iald (k := 398) (j := 7) CX HX1790 (by omega) rfl (by omega) (by first | decide | assumption) dX7_leaveTrace_134 ?_
    refine fa_iast (k := 398) (j := 393 + (5 * n6) + 3) CX HX1790 (by omega) rfl (by omega) (by first | decide | assumption) dX7_leaveTrace_135 (fun H locs v1791 e1792 HX1793 => ?_)
    refine lv_aload_n hx hb dX7_leaveTrace_136 rfl (lv_at hl 1 rfl) ?_
    refine fa_getr (k := 397) (j := 398) CX HX1793 fl_X7_7 (by omega) rfl rfl hM.1 dX7_leaveTrace_137 ?_
    refine lv_iload_n hx hb dX7_leaveTrace_140 rfl (lv_at hl 0 rfl) ?_
    refine lv_iconst (v := nI (4)) hx hb dX7_leaveTrace_141 (by decide) ?_
    refine fa_iaddN hx hb dX7_leaveTrace_142 ?_
    refine lv_aload_n hx hb dX7_leaveTrace_143 rfl (lv_at hl 1 rfl) ?_
    refine fa_getr (k := 397) (j := 398) CX HX1793 fl_X7_7 (by omega) rfl rfl hM.1 dX7_leaveTrace_144 ?_
    refine lv_iload_n hx hb dX7_leaveTrace_147 rfl (lv_at hl 2 rfl) ?_
    refine fa_callSip (As := [.int (nI (u))]) (rest := [.ref (fa_B G + (398)), .int (nI (393 + (5 * n6) + 4)), .ref (fa_B G + (398))]) CX HX1793 (r_f l G n v1791 r (u)) ln_X7_36 rfl rfl (Nat.le_of_ble_eq_true rfl) hl.1 ⟨Nat.le_of_ble_eq_true rfl, Nat.le_of_ble_eq_true rfl⟩ ⟨Nat.le_refl _, Nat.le_refl _⟩ dX7_leaveTrace_148 (fun x1795 H locs h1794 HX1796 => ?_)
    subst h1794
    refine lv_iconst (v := nI (5)) hx hb dX7_leaveTrace_151 (by decide) ?_
    refine fa_iaddN hx hb dX7_leaveTrace_152 ?_
    refine fa_iald (k := 398) (j := 17 + 15 * u + 5) CX HX1796 (by omega) rfl (by omega) (by first | decide | assumption) dX7_leaveTrace_153 ?_
    refine fa_iast (k := 398) (j := 393 + (5 * n6) + 4) CX HX1796 (by omega) rfl (by omega) (by first | decide | assumption) dX7_leaveTrace_154 (fun H locs v1797 e1798 HX1799 => ?_)
    refine lv_aload_n hx hb dX7_leaveTrace_155 rfl (lv_at hl 1 rfl) ?_
    refine fa_getr (k := 397) (j := 398) CX HX1799 fl_X7_7 (by omega) rfl rfl hM.1 dX7_leaveTrace_156 ?_
    refine lv_bipush (v := nI (16)) hx hb dX7_leaveTrace_159 (by decide) ?_
    refine lv_dup2_11 hx hb dX7_leaveTrace_161 rfl rfl ?_
    refine fa_iald (k := 398) (j := 16) CX HX1799 (by omega) rfl (by omega) (by first | decide | assumption) dX7_leaveTrace_162 ?_
    rw [show v1797 398 16 = nI (n6) from (by rw [e1798, fa_u_n _ _ (by omega)]; exact (by rw [e1792, fa_u_n _ _ (by omega)]; exact (by rw [e1789, fa_u_n _ _ (by omega)]; exact (by rw [e1783, fa_u_n _ _ (by omega)]; exact (by rw [e1777, fa_u_n _ _ (by omega)]; exact g6)))))]
    refine lv_iconst (v := nI (1)) hx hb dX7_leaveTrace_163 (by decide) ?_
    refine fa_iaddN hx hb dX7_leaveTrace_164 ?_
    refine fa_iast (k := 398) (j := 16) CX HX1799 (by omega) rfl (by omega) (by first | decide | assumption) dX7_leaveTrace_165 (fun H locs v1800 e1801 HX1802 => ?_)
    exact RET _ _ _ _ _ _ HX1802 dX7_leaveTrace_166 (⟨rfl, ⟨⟨(show fa_MS (v1800 398) from by rw [e1801]; exact fa_MS.u (show fa_MS (v1797 398) from by rw [e1798]; exact fa_MS.u (show fa_MS (v1791 398) from by rw [e1792]; exact fa_MS.u (show fa_MS (v1788 398) from by rw [e1789]; exact fa_MS.u (show fa_MS (v1782 398) from by rw [e1783]; exact fa_MS.u (show fa_MS (v1776 398) from by rw [e1777]; exact fa_MS.u hS (fa_ok.o (by omega) (by omega) (by omega) (fun p hp => by omega))) (fa_ok.o (by omega) (by omega) (by omega) (fun p hp => by omega))) (fa_ok.o (by omega) (by omega) (by omega) (fun p hp => by omega))) (fa_ok.o (by omega) (by omega) (by omega) (fun p hp => by omega))) (fa_ok.o (by omega) (by omega) (by omega) (fun p hp => by omega))) (fa_ok.n16 (by omega))), (show v1800 398 14 = v 398 14 from ((show v1800 398 14 = nI (n4) from (by rw [e1801, fa_u_n _ _ (by omega)]; exact (by rw [e1798, fa_u_n _ _ (by omega)]; exact (by rw [e1792, fa_u_n _ _ (by omega)]; exact (by rw [e1789, fa_u_n _ _ (by omega)]; exact (by rw [e1783, fa_u_n _ _ (by omega)]; exact (by rw [e1777, fa_u_n _ _ (by omega)]; exact g4))))))).trans g4.symm)), (show v1800 398 15 = v 398 15 from ((show v1800 398 15 = nI (n5) from (by rw [e1801, fa_u_n _ _ (by omega)]; exact (by rw [e1798, fa_u_n _ _ (by omega)]; exact (by rw [e1792, fa_u_n _ _ (by omega)]; exact (by rw [e1789, fa_u_n _ _ (by omega)]; exact (by rw [e1783, fa_u_n _ _ (by omega)]; exact (by rw [e1777, fa_u_n _ _ (by omega)]; exact g5))))))).trans g5.symm)), (fb_m_lv1 (by omega) (by omega) g6 e1777 e1783 e1789 e1792 e1798 e1801)⟩, (by rw [e1801]; exact fa_fr.u (by rw [e1798]; exact fa_fr.u (by rw [e1792]; exact fa_fr.u (by rw [e1789]; exact fa_fr.u (by rw [e1783]; exact fa_fr.u (by rw [e1777]; exact fa_fr.u fa_fr.rf (by omega)) (by omega)) (by omega)) (by omega)) (by omega)) (by omega))⟩⟩)
  · have hn12 : n6 = 12 := fa_nIinj (by omega) (by omega) c_9
    refine lv_sipush (v := nI (393)) hx hb dX7_leaveTrace_12 (by decide) ?_
    refine lv_istore_n (lv' := [(2, .int (nI (393))), (0, .ref (fa_B G + (397))), (1, .int (nI (u)))]) hx hb dX7_leaveTrace_15 rfl hl (by decide) rfl (fun ls hl => ?_)
    have LOOP_16 : ∀ (fu : Nat) (k : Nat) (v1803 : fa_V) (H : Heap) (locs : List Loc) (ls : Array Slot), 448 - k < fu → ((393 ≤ k ∧ k ≤ 448) ∧ fa_MS (v1803 398) ∧ v1803 398 14 = v 398 14 ∧ v1803 398 15 = v 398 15 ∧ v1803 398 16 = v 398 16 ∧ fa_fr 398 399 v v1803 ∧ ∀ i, v1803 398 i = if 393 ≤ i ∧ i < k then v 398 (i + 5) else v 398 i) → lv_has ls 3 [(0, .ref (fa_B G + (397))), (1, .int (nI (u))), (2, .int (nI (k)))] → fa_HX G (n) v1803 r s H locs → W p l e (fa_rm 2) s m args below meth c H locs (0) (0) Q (F0 m 16 ls []) := by
      intro fu
      induction fu with
      | zero => intro k v1803 H locs ls hk; exact absurd hk (Nat.not_lt_zero _)
      | succ fu ih_16 =>
        intro k v1803 H locs ls hk_16 hi_16 hl HX1804
        refine lv_iload_n hx hb dX7_leaveTrace_16 rfl (lv_at hl 2 rfl) ?_
        refine lv_sipush (v := nI (448)) hx hb dX7_leaveTrace_17 (by decide) ?_
        refine lv_icmp_ge (tgt := 43) hx hb dX7_leaveTrace_20 (by decide) (fun c_20 => ?_) (fun c_20 => ?_)
        · have hk := fa_leN (by omega) (by omega) c_20
          refine lv_aload_n hx hb dX7_leaveTrace_43 rfl (lv_at hl 0 rfl) ?_
          refine fa_getr (k := 397) (j := 398) CX HX1804 fl_X7_7 (by omega) rfl rfl hM.1 dX7_leaveTrace_44 ?_
          refine lv_bipush (v := nI (16)) hx hb dX7_leaveTrace_47 (by decide) ?_
          refine lv_dup2_11 hx hb dX7_leaveTrace_49 rfl rfl ?_
          refine fa_iald (k := 398) (j := 16) CX HX1804 (by omega) rfl (by omega) (by first | decide | assumption) dX7_leaveTrace_50 ?_
          rw [show v1803 398 16 = nI (n6) from ((hi_16.2.2.2.2.1).trans g6)]
          refine lv_iconst (v := nI (1)) hx hb dX7_leaveTrace_51 (by decide) ?_
          refine fa_isubN hx hb dX7_leaveTrace_52 (by omega) ?_
          refine fa_iast (k := 398) (j := 16) CX HX1804 (by omega) rfl (by omega) (by first | decide | assumption) dX7_leaveTrace_53 (fun H locs v1805 e1806 HX1807 => ?_)
          refine lv_sipush (v := nI (393)) hx hb dX7_leaveTrace_54 (by decide) ?_
          refine lv_iconst (v := nI (5)) hx hb dX7_leaveTrace_57 (by decide) ?_
          refine lv_aload_n hx hb dX7_leaveTrace_58 rfl (lv_at hl 0 rfl) ?_
          refine fa_getr (k := 397) (j := 398) CX HX1807 fl_X7_7 (by omega) rfl rfl hM.1 dX7_leaveTrace_59 ?_
          refine lv_bipush (v := nI (16)) hx hb dX7_leaveTrace_62 (by decide) ?_
          refine fa_iald (k := 398) (j := 16) CX HX1807 (by omega) rfl (by omega) (by first | decide | assumption) dX7_leaveTrace_64 ?_
          rw [show v1805 398 16 = nI (n6 - 1) from (by rw [e1806, fa_u_s])]
          refine fa_imulN hx hb dX7_leaveTrace_65 ?_
          refine fa_iaddN hx hb dX7_leaveTrace_66 ?_
          refine lv_istore_n (lv' := [(2, .int (nI (393 + (5 * (n6 - 1))))), (0, .ref (fa_B G + (397))), (1, .int (nI (u)))]) hx hb dX7_leaveTrace_67 rfl hl (by decide) rfl (fun ls hl => ?_)
          refine lv_aload_n hx hb dX7_leaveTrace_68 rfl (lv_at hl 1 rfl) ?_
          refine fa_getr (k := 397) (j := 398) CX HX1807 fl_X7_7 (by omega) rfl rfl hM.1 dX7_leaveTrace_69 ?_
          refine lv_iload_n hx hb dX7_leaveTrace_72 rfl (lv_at hl 0 rfl) ?_
          refine lv_aload_n hx hb dX7_leaveTrace_73 rfl (lv_at hl 1 rfl) ?_
          refine fa_getr (k := 397) (j := 398) CX HX1807 fl_X7_7 (by omega) rfl rfl hM.1 dX7_leaveTrace_74 ?_
          refine lv_iload_n hx hb dX7_leaveTrace_77 rfl (lv_at hl 2 rfl) ?_
          refine fa_callSip (As := [.int (nI (u))]) (rest := [.ref (fa_B G + (398)), .int (nI (393 + (5 * (n6 - 1)))), .ref (fa_B G + (398))]) CX HX1807 (r_f l G n v1805 r (u)) ln_X7_36 rfl rfl (Nat.le_of_ble_eq_true rfl) hl.1 ⟨Nat.le_of_ble_eq_true rfl, Nat.le_of_ble_eq_true rfl⟩ ⟨Nat.le_refl _, Nat.le_refl _⟩ dX7_leaveTrace_78 (fun x1809 H locs h1808 HX1810 => ?_)
          subst h1808
          refine fa_iald (k := 398) (j := 17 + 15 * u) CX HX1810 (by omega) rfl (by omega) (by first | decide | assumption) dX7_leaveTrace_81 ?_
          refine fa_iast (k := 398) (j := 393 + (5 * (n6 - 1))) CX HX1810 (by omega) rfl (by omega) (by first | decide | assumption) dX7_leaveTrace_82 (fun H locs v1811 e1812 HX1813 => ?_)
          refine lv_aload_n hx hb dX7_leaveTrace_83 rfl (lv_at hl 1 rfl) ?_
          refine fa_getr (k := 397) (j := 398) CX HX1813 fl_X7_7 (by omega) rfl rfl hM.1 dX7_leaveTrace_84 ?_
          refine lv_iload_n hx hb dX7_leaveTrace_87 rfl (lv_at hl 0 rfl) ?_
          refine lv_iconst (v := nI (1)) hx hb dX7_leaveTrace_88 (by decide) ?_
          refine fa_iaddN hx hb dX7_leaveTrace_89 ?_
          refine lv_aload_n hx hb dX7_leaveTrace_90 rfl (lv_at hl 1 rfl) ?_
          refine fa_getr (k := 397) (j := 398) CX HX1813 fl_X7_7 (by omega) rfl rfl hM.1 dX7_leaveTrace_91 ?_
          refine lv_iload_n hx hb dX7_leaveTrace_94 rfl (lv_at hl 2 rfl) ?_
          refine fa_callSip (As := [.int (nI (u))]) (rest := [.ref (fa_B G + (398)), .int (nI (393 + (5 * (n6 - 1)) + 1)), .ref (fa_B G + (398))]) CX HX1813 (r_f l G n v1811 r (u)) ln_X7_36 rfl rfl (Nat.le_of_ble_eq_true rfl) hl.1 ⟨Nat.le_of_ble_eq_true rfl, Nat.le_of_ble_eq_true rfl⟩ ⟨Nat.le_refl _, Nat.le_refl _⟩ dX7_leaveTrace_95 (fun x1815 H locs h1814 HX1816 => ?_)
          subst h1814
          refine lv_iconst (v := nI (1)) hx hb dX7_leaveTrace_98 (by decide) ?_
          refine fa_iaddN hx hb dX7_leaveTrace_99 ?_
          refine fa_iald (k := 398) (j := 17 + 15 * u + 1) CX HX1816 (by omega) rfl (by omega) (by first | decide | assumption) dX7_leaveTrace_100 ?_
          refine fa_iast (k := 398) (j := 393 + (5 * (n6 - 1)) + 1) CX HX1816 (by omega) rfl (by omega) (by first | decide | assumption) dX7_leaveTrace_101 (fun H locs v1817 e1818 HX1819 => ?_)
          refine lv_aload_n hx hb dX7_leaveTrace_102 rfl (lv_at hl 1 rfl) ?_
          refine fa_getr (k := 397) (j := 398) CX HX1819 fl_X7_7 (by omega) rfl rfl hM.1 dX7_leaveTrace_103 ?_
          refine lv_iload_n hx hb dX7_leaveTrace_106 rfl (lv_at hl 0 rfl) ?_
          refine lv_iconst (v := nI (2)) hx hb dX7_leaveTrace_107 (by decide) ?_
          refine fa_iaddN hx hb dX7_leaveTrace_108 ?_
          refine lv_aload_n hx hb dX7_leaveTrace_109 rfl (lv_at hl 1 rfl) ?_
          refine fa_getr (k := 397) (j := 398) CX HX1819 fl_X7_7 (by omega) rfl rfl hM.1 dX7_leaveTrace_110 ?_
          refine lv_iload_n hx hb dX7_leaveTrace_113 rfl (lv_at hl 2 rfl) ?_
          refine fa_callSip (As := [.int (nI (u))]) (rest := [.ref (fa_B G + (398)), .int (nI (393 + (5 * (n6 - 1)) + 2)), .ref (fa_B G + (398))]) CX HX1819 (r_f l G n v1817 r (u)) ln_X7_36 rfl rfl (Nat.le_of_ble_eq_true rfl) hl.1 ⟨Nat.le_of_ble_eq_true rfl, Nat.le_of_ble_eq_true rfl⟩ ⟨Nat.le_refl _, Nat.le_refl _⟩ dX7_leaveTrace_114 (fun x1821 H locs h1820 HX1822 => ?_)
          subst h1820
          refine lv_iconst (v := nI (2)) hx hb dX7_leaveTrace_117 (by decide) ?_
          refine fa_iaddN hx hb dX7_leaveTrace_118 ?_
          refine fa_iald (k := 398) (j := 17 + 15 * u + 2) CX HX1822 (by omega) rfl (by omega) (by first | decide | assumption) dX7_leaveTrace_119 ?_
          refine fa_iast (k := 398) (j := 393 + (5 * (n6 - 1)) + 2) CX HX1822 (by omega) rfl (by omega) (by first | decide | assumption) dX7_leaveTrace_120 (fun H locs v1823 e1824 HX1825 => ?_)
          refine lv_aload_n hx hb dX7_leaveTrace_121 rfl (lv_at hl 1 rfl) ?_
          refine fa_getr (k := 397) (j := 398) CX HX1825 fl_X7_7 (by omega) rfl rfl hM.1 dX7_leaveTrace_122 ?_
          refine lv_iload_n hx hb dX7_leaveTrace_125 rfl (lv_at hl 0 rfl) ?_
          refine lv_iconst (v := nI (3)) hx hb dX7_leaveTrace_126 (by decide) ?_
          refine fa_iaddN hx hb dX7_leaveTrace_127 ?_
          refine lv_aload_n hx hb dX7_leaveTrace_128 rfl (lv_at hl 1 rfl) ?_
          refine fa_getr (k := 397) (j := 398) CX HX1825 fl_X7_7 (by omega) rfl rfl hM.1 dX7_leaveTrace_129 ?_
          refine lv_bipush (v := nI (7)) hx hb dX7_leaveTrace_132 (by decide) ?_
          refine fa_iald (k := 398) (j := 7) CX HX1825 (by omega) rfl (by omega) (by first | decide | assumption) dX7_leaveTrace_134 ?_
          refine fa_iast (k := 398) (j := 393 + (5 * (n6 - 1)) + 3) CX HX1825 (by omega) rfl (by omega) (by first | decide | assumption) dX7_leaveTrace_135 (fun H locs v1826 e1827 HX1828 => ?_)
          refine lv_aload_n hx hb dX7_leaveTrace_136 rfl (lv_at hl 1 rfl) ?_
          refine fa_getr (k := 397) (j := 398) CX HX1828 fl_X7_7 (by omega) rfl rfl hM.1 dX7_leaveTrace_137 ?_
          refine lv_iload_n hx hb dX7_leaveTrace_140 rfl (lv_at hl 0 rfl) ?_
          refine lv_iconst (v := nI (4)) hx hb dX7_leaveTrace_141 (by decide) ?_
          refine fa_iaddN hx hb dX7_leaveTrace_142 ?_
          refine lv_aload_n hx hb dX7_leaveTrace_143 rfl (lv_at hl 1 rfl) ?_
          refine fa_getr (k := 397) (j := 398) CX HX1828 fl_X7_7 (by omega) rfl rfl hM.1 dX7_leaveTrace_144 ?_
          refine lv_iload_n hx hb dX7_leaveTrace_147 rfl (lv_at hl 2 rfl) ?_
          refine fa_callSip (As := [.int (nI (u))]) (rest := [.ref (fa_B G + (398)), .int (nI (393 + (5 * (n6 - 1)) + 4)), .ref (fa_B G + (398))]) CX HX1828 (r_f l G n v1826 r (u)) ln_X7_36 rfl rfl (Nat.le_of_ble_eq_true rfl) hl.1 ⟨Nat.le_of_ble_eq_true rfl, Nat.le_of_ble_eq_true rfl⟩ ⟨Nat.le_refl _, Nat.le_refl _⟩ dX7_leaveTrace_148 (fun x1830 H locs h1829 HX1831 => ?_)
          subst h1829
          refine lv_iconst (v := nI (5)) hx hb dX7_leaveTrace_151 (by decide) ?_
          refine fa_iaddN hx hb dX7_leaveTrace_152 ?_
          refine fa_iald (k := 398) (j := 17 + 15 * u + 5) CX HX1831 (by omega) rfl (by omega) (by first | decide | assumption) dX7_leaveTrace_153 ?_
          refine fa_iast (k := 398) (j := 393 + (5 * (n6 - 1)) + 4) CX HX1831 (by omega) rfl (by omega) (by first | decide | assumption) dX7_leaveTrace_154 (fun H locs v1832 e1833 HX1834 => ?_)
          refine lv_aload_n hx hb dX7_leaveTrace_155 rfl (lv_at hl 1 rfl) ?_
          refine fa_getr (k := 397) (j := 398) CX HX1834 fl_X7_7 (by omega) rfl rfl hM.1 dX7_leaveTrace_156 ?_
          refine lv_bipush (v := nI (16)) hx hb dX7_leaveTrace_159 (by decide) ?_
          refine lv_dup2_11 hx hb dX7_leaveTrace_161 rfl rfl ?_
          refine fa_iald (k := 398) (j := 16) CX HX1834 (by omega) rfl (by omega) (by first | decide | assumption) dX7_leaveTrace_162 ?_
          rw [show v1832 398 16 = nI (n6 - 1) from (by rw [e1833, fa_u_n _ _ (by omega)]; exact (by rw [e1827, fa_u_n _ _ (by omega)]; exact (by rw [e1824, fa_u_n _ _ (by omega)]; exact (by rw [e1818, fa_u_n _ _ (by omega)]; exact (by rw [e1812, fa_u_n _ _ (by omega)]; exact (by rw [e1806, fa_u_s]))))))]
          refine lv_iconst (v := nI (1)) hx hb dX7_leaveTrace_163 (by decide) ?_
          refine fa_iaddN hx hb dX7_leaveTrace_164 ?_
          refine fa_iast (k := 398) (j := 16) CX HX1834 (by omega) rfl (by omega) (by first | decide | assumption) dX7_leaveTrace_165 (fun H locs v1835 e1836 HX1837 => ?_)
          exact RET _ _ _ _ _ _ HX1837 dX7_leaveTrace_166 (⟨rfl, ⟨⟨(show fa_MS (v1835 398) from by rw [e1836]; exact fa_MS.u (show fa_MS (v1832 398) from by rw [e1833]; exact fa_MS.u (show fa_MS (v1826 398) from by rw [e1827]; exact fa_MS.u (show fa_MS (v1823 398) from by rw [e1824]; exact fa_MS.u (show fa_MS (v1817 398) from by rw [e1818]; exact fa_MS.u (show fa_MS (v1811 398) from by rw [e1812]; exact fa_MS.u (show fa_MS (v1805 398) from by rw [e1806]; exact fa_MS.u hi_16.2.1 (fa_ok.n16 (by omega))) (fa_ok.o (by omega) (by omega) (by omega) (fun p hp => by omega))) (fa_ok.o (by omega) (by omega) (by omega) (fun p hp => by omega))) (fa_ok.o (by omega) (by omega) (by omega) (fun p hp => by omega))) (fa_ok.o (by omega) (by omega) (by omega) (fun p hp => by omega))) (fa_ok.o (by omega) (by omega) (by omega) (fun p hp => by omega))) (fa_ok.n16 (by omega))), (show v1835 398 14 = v 398 14 from ((show v1835 398 14 = nI (n4) from (by rw [e1836, fa_u_n _ _ (by omega)]; exact (by rw [e1833, fa_u_n _ _ (by omega)]; exact (by rw [e1827, fa_u_n _ _ (by omega)]; exact (by rw [e1824, fa_u_n _ _ (by omega)]; exact (by rw [e1818, fa_u_n _ _ (by omega)]; exact (by rw [e1812, fa_u_n _ _ (by omega)]; exact (by rw [e1806, fa_u_n _ _ (by omega)]; exact ((hi_16.2.2.1).trans g4))))))))).trans g4.symm)), (show v1835 398 15 = v 398 15 from ((show v1835 398 15 = nI (n5) from (by rw [e1836, fa_u_n _ _ (by omega)]; exact (by rw [e1833, fa_u_n _ _ (by omega)]; exact (by rw [e1827, fa_u_n _ _ (by omega)]; exact (by rw [e1824, fa_u_n _ _ (by omega)]; exact (by rw [e1818, fa_u_n _ _ (by omega)]; exact (by rw [e1812, fa_u_n _ _ (by omega)]; exact (by rw [e1806, fa_u_n _ _ (by omega)]; exact ((hi_16.2.2.2.1).trans g5))))))))).trans g5.symm)), (fb_m_lv2 (by omega) hn12 rfl g6 (fun i => by rw [hi_16.2.2.2.2.2.2 i, show k = 448 by omega]) e1806 e1812 e1818 e1824 e1827 e1833 e1836)⟩, (by rw [e1836]; exact fa_fr.u (by rw [e1833]; exact fa_fr.u (by rw [e1827]; exact fa_fr.u (by rw [e1824]; exact fa_fr.u (by rw [e1818]; exact fa_fr.u (by rw [e1812]; exact fa_fr.u (by rw [e1806]; exact fa_fr.u (fa_fr.tr fa_fr.rf (fa_fr.wide hi_16.2.2.2.2.2.1 (by omega) (by omega))) (by omega)) (by omega)) (by omega)) (by omega)) (by omega)) (by omega)) (by omega))⟩⟩)
        · have hk : k < 448 := fa_ltN (by omega) (by omega) c_20
          refine lv_aload_n hx hb dX7_leaveTrace_23 rfl (lv_at hl 0 rfl) ?_
          refine fa_getr (k := 397) (j := 398) CX HX1804 fl_X7_7 (by omega) rfl rfl hM.1 dX7_leaveTrace_24 ?_
          refine lv_iload_n hx hb dX7_leaveTrace_27 rfl (lv_at hl 2 rfl) ?_
          refine lv_aload_n hx hb dX7_leaveTrace_28 rfl (lv_at hl 0 rfl) ?_
          refine fa_getr (k := 397) (j := 398) CX HX1804 fl_X7_7 (by omega) rfl rfl hM.1 dX7_leaveTrace_29 ?_
          refine lv_iload_n hx hb dX7_leaveTrace_32 rfl (lv_at hl 2 rfl) ?_
          refine lv_iconst (v := nI (5)) hx hb dX7_leaveTrace_33 (by decide) ?_
          refine fa_iaddN hx hb dX7_leaveTrace_34 ?_
          refine fa_iald (k := 398) (j := k + 5) CX HX1804 (by omega) rfl (by omega) (by first | decide | assumption) dX7_leaveTrace_35 ?_
          refine fa_iast (k := 398) (j := k) CX HX1804 (by omega) rfl (by omega) (by first | decide | assumption) dX7_leaveTrace_36 (fun H locs v1838 e1839 HX1840 => ?_)
          refine lv_iinc (v := nI (k + 1)) (lv' := [(2, .int (nI (k + 1))), (0, .ref (fa_B G + (397))), (1, .int (nI (u)))]) hx hb dX7_leaveTrace_37 hl (k := 2) rfl (nI_add (k) 1) (by decide) rfl (fun ls hl => ?_)
          refine lv_goto (tgt := 16) hx hb dX7_leaveTrace_40 (by decide) ?_
          exact ih_16 (k + 1) v1838 _ _ _ (by omega) (⟨⟨by omega, by omega⟩, (show fa_MS (v1838 398) from by rw [e1839]; exact fa_MS.u hi_16.2.1 (fa_ok.o (by omega) (by omega) (by omega) (fun p hp => by omega))), ((show v1838 398 14 = nI (n4) from (by rw [e1839, fa_u_n _ _ (by omega)]; exact ((hi_16.2.2.1).trans g4))).trans g4.symm), ((show v1838 398 15 = nI (n5) from (by rw [e1839, fa_u_n _ _ (by omega)]; exact ((hi_16.2.2.2.1).trans g5))).trans g5.symm), ((show v1838 398 16 = nI (n6) from (by rw [e1839, fa_u_n _ _ (by omega)]; exact ((hi_16.2.2.2.2.1).trans g6))).trans g6.symm), (by rw [e1839]; exact fa_fr.u (fa_fr.tr fa_fr.rf (fa_fr.wide hi_16.2.2.2.2.2.1 (by omega) (by omega))) (by omega)), fb_m_sh hi_16.1.1 hi_16.2.2.2.2.2.2 e1839⟩) (lv_sub hl [1, 2, 0] rfl) HX1840
    exact LOOP_16 (448 - 393 + 1) (393) v _ _ _ (Nat.lt_succ_self _) (⟨⟨by decide, by decide⟩, hS, rfl, rfl, rfl, fa_fr.rf, fun i => (if_neg (by omega)).symm⟩) (lv_sub hl [1, 2, 0] rfl) HX
