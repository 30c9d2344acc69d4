set_option maxHeartbeats 4000000 in
set_option maxRecDepth 100000 in
theorem r_leaveTrace (l : Launch) (G : fa_G) (n : Nat) (hn : 406 ≤ n) (v : fa_V) (r : fa_R) (hM : fa_RM r) (hS : fa_MS (v 398)) (u : Nat) (hu : u < 24) : fa_MV l G n yX7_leaveTrace cX7_leaveTrace 3 2 [.ref (fa_B G + (397)), .int (nI (u))] v r (fa_vo r (fun v1 => ((fa_MS (v1 398)) ∧ (v1 398 14 = v 398 14) ∧ (v1 398 15 = v 398 15) ∧ (fb_mLV (v 398) (v1 398) u)) ∧ (fa_fr (398) (399) v v1))) := by
  refine fa_startV (by decide +kernel) (Nat.le_of_ble_eq_true rfl) (fun p e s m args below meth c ls Q CX hl HX RET => ?_)
  have hl : lv_has ls 3 [(0, .ref (fa_B G + (397))), (1, .int (nI (u)))] := hl
  have hx := CX.1.1
  have hb := CX.1.2.1
  obtain ⟨n4, en4⟩ : ∃ m, m = fa_N (v 398 14) := ⟨_, rfl⟩
  obtain ⟨hn4, g4⟩ := hS.n4 en4
  obtain ⟨n5, en5⟩ : ∃ m, m = fa_N (v 398 15) := ⟨_, rfl⟩
  obtain ⟨hn5, g5⟩ := hS.n5 en5
  obtain ⟨n6, en6⟩ : ∃ m, m = fa_N (v 398 16) := ⟨_, rfl⟩
  obtain ⟨hn6, g6⟩ := hS.n6 en6
  refine lv_aload_n hx hb dX7_leaveTrace_0 rfl (lv_at hl 0 rfl) ?_
  refine fa_getr (k := 397) (j := 398) CX HX fl_X7_7 (by omega) rfl rfl hM.1 dX7_leaveTrace_1 ?_
  refine lv_bipush (v := nI (16)) hx hb dX7_leaveTrace_4 (by decide) ?_
  refine fa_iald (k := 398) (j := 16) CX HX (by omega) rfl (by omega) (by first | decide | assumption) dX7_leaveTrace_6 ?_
  rw [show v 398 16 = nI (n6) from g6]
  refine lv_bipush (v := nI (12)) hx hb dX7_leaveTrace_7 (by decide) ?_
  refine lv_icmp_ne (tgt := 54) hx hb dX7_leaveTrace_9 (by decide) (fun c_9 => ?_) (fun c_9 => ?_)
  · have hne : ¬ n6 = 12 := fun z => c_9 (by rw [z])
    refine lv_sipush (v := nI (393)) hx hb dX7_leaveTrace_54 (by decide) ?_
    refine lv_iconst (v := nI (5)) hx hb dX7_leaveTrace_57 (by decide) ?_
    refine lv_aload_n hx hb dX7_leaveTrace_58 rfl (lv_at hl 0 rfl) ?_
    refine fa_getr (k := 397) (j := 398) CX HX fl_X7_7 (by omega) rfl rfl hM.1 dX7_leaveTrace_59 ?_
    refine lv_bipush (v := nI (16)) hx hb dX7_leaveTrace_62 (by decide) ?_
    refine fa_iald (k := 398) (j := 16) CX HX (by omega) rfl (by omega) (by first | decide | assumption) dX7_leaveTrace_64 ?_
    rw [show v 398 16 = nI (n6) from g6]
    refine fa_imulN hx hb dX7_leaveTrace_65 ?_
    refine fa_iaddN hx hb dX7_leaveTrace_66 ?_
    refine lv_istore_n (lv' := [(2, .int (nI (393 + (5 * n6)))), (0, .ref (fa_B G + (397))), (1, .int (nI (u)))]) hx hb dX7_leaveTrace_67 rfl hl (by decide) rfl (fun ls hl => ?_)
    refine lv_aload_n hx hb dX7_leaveTrace_68 rfl (lv_at hl 1 rfl) ?_
    refine fa_getr (k := 397) (j := 398) CX HX fl_X7_7 (by omega) rfl rfl hM.1 dX7_leaveTrace_69 ?_
    refine lv_iload_n hx hb dX7_leaveTrace_72 rfl (lv_at hl 0 rfl) ?_
    refine lv_aload_n hx hb dX7_leaveTrace_73 rfl (lv_at hl 1 rfl) ?_
    refine fa_getr (k := 397) (j := 398) CX HX fl_X7_7 (by omega) rfl rfl hM.1 dX7_leaveTrace_74 ?_
    refine lv_iload_n hx hb dX7_leaveTrace_77 rfl (lv_at hl 2 rfl) ?_
    refine fa_callSip (As := [.int (nI (u))]) (rest := [.ref (fa_B G + (398)), .int (nI (393 + (5 * n6))), .ref (fa_B G + (398))]) CX HX (r_f l G n v r (u)) ln_X7_36 rfl rfl (Nat.le_of_ble_eq_true rfl) hl.1 ⟨Nat.le_of_ble_eq_true rfl, Nat.le_of_ble_eq_true rfl⟩ ⟨Nat.le_refl _, Nat.le_refl _⟩ dX7_leaveTrace_78 (fun x1774 H locs h1773 HX1775 => ?_)
    subst h1773
    refine fa_iald (k := 398) (j := 17 + 15 * u) CX HX1775 (by omega) rfl (by omega) (by first | decide | assumption) dX7_leaveTrace_81 ?_
    refine fa_iast (k := 398) (j := 393 + (5 * n6)) CX HX1775 (by omega) rfl (by omega) (by first | decide | assumption) dX7_leaveTrace_82 (fun H locs v1776 e1777 HX1778 => ?_)
    refine lv_aload_n hx hb dX7_leaveTrace_83 rfl (lv_at hl 1 rfl) ?_
    refine fa_getr (k := 397) (j := 398) CX HX1778 fl_X7_7 (by omega) rfl rfl hM.1 dX7_leaveTrace_84 ?_
    refine lv_iload_n hx hb dX7_leaveTrace_87 rfl (lv_at hl 0 rfl) ?_
    refine lv_iconst (v := nI (1)) hx hb dX7_leaveTrace_88 (by decide) ?_
    refine fa_iaddN hx hb dX7_leaveTrace_89 ?_
    refine lv_aload_n hx hb dX7_leaveTrace_90 rfl (lv_at hl 1 rfl) ?_
    refine fa_getr (k := 397) (j := 398) CX HX1778 fl_X7_7 (by omega) rfl rfl hM.1 dX7_leaveTrace_91 ?_
    refine lv_iload_n hx hb dX7_leaveTrace_94 rfl (lv_at hl 2 rfl) ?_
    refine fa_callSip (As := [.int (nI (u))]) (rest := [.ref (fa_B G + (398)), .int (nI (393 + (5 * n6) + 1)), .ref (fa_B G + (398))]) CX HX1778 (r_f l G n v1776 r (u)) ln_X7_36 rfl rfl (Nat.le_of_ble_eq_true rfl) hl.1 ⟨Nat.le_of_ble_eq_true rfl, Nat.le_of_ble_eq_true rfl⟩ ⟨Nat.le_refl _, Nat.le_refl _⟩ dX7_leaveTrace_95 (fun x1780 H locs h1779 HX1781 => ?_)
    subst h1779
    refine lv_iconst (v := nI (1)) hx hb dX7_leaveTrace_98 (by decide) ?_
    refine fa_iaddN hx hb dX7_leaveTrace_99 ?_
    refine fa_iald (k := 398) (j := 17 + 15 * u + 1) CX HX1781 (by omega) rfl (by omega) (by first | decide | assumption) dX7_leaveTrace_100 ?_
    refine fa_iast (k := 398) (j := 393 + (5 * n6) + 1) CX HX1781 (by omega) rfl (by omega) (by first | decide | assumption) dX7_leaveTrace_101 (fun H locs v1782 e1783 HX1784 => ?_)
    refine lv_aload_n hx hb dX7_leaveTrace_102 rfl (lv_at hl 1 rfl) ?_
    refine fa_getr (k := 397) (j := 398) CX HX1784 fl_X7_7 (by omega) rfl rfl hM.1 dX7_leaveTrace_103 ?_
    refine lv_iload_n hx hb dX7_leaveTrace_106 rfl (lv_at hl 0 rfl) ?_
    refine lv_iconst (v := nI (2)) hx hb dX7_leaveTrace_107 (by decide) ?_
    refine fa_iaddN hx hb dX7_leaveTrace_108 ?_
    refine lv_aload_n hx hb dX7_leaveTrace_109 rfl (lv_at hl 1 rfl) ?_
    refine fa_getr (k := 397) (j := 398) CX HX1784 fl_X7_7 (by omega) rfl rfl hM.1 dX7_leaveTrace_110 ?_
    refine lv_iload_n hx hb dX7_leaveTrace_113 rfl (lv_at hl 2 rfl) ?_
    refine fa_callSip (As := [.int (nI (u))]) (rest := [.ref (fa_B G + (398)), .int (nI (393 + (5 * n6) + 2)), .ref (fa_B G + (398))]) CX HX1784 (r_f l G n v1782 r (u)) ln_X7_36 rfl rfl (Nat.le_of_ble_eq_true rfl) hl.1 ⟨Nat.le_of_ble_eq_true rfl, Nat.le_of_ble_eq_true rfl⟩ ⟨Nat.le_refl _, Nat.le_refl _⟩ dX7_leaveTrace_114 (fun x1786 H locs h1785 HX1787 => ?_)
    subst h1785
    refine lv_iconst (v := nI (2)) hx hb dX7_leaveTrace_117 (by decide) ?_
    refine fa_iaddN hx hb dX7_leaveTrace_118 ?_
    refine fa_iald (k := 398) (j := 17 + 15 * u + 2) CX HX1787 (by omega) rfl (by omega) (by first | decide | assumption) dX7_leaveTrace_119 ?_
    refine fa_iast (k := 398) (j := 393 + (5 * n6) + 2) CX HX1787 (by omega) rfl (by omega) (by first | decide | assumption) dX7_leaveTrace_120 (fun H locs v1788 e1789 HX1790 => ?_)
    refine lv_aload_n hx hb dX7_leaveTrace_121 rfl (lv_at hl 1 rfl) ?_
    refine fa_getr (k := 397) (j := 398) CX HX1790 fl_X7_7 (by omega) rfl rfl hM.1 dX7_leaveTrace_122 ?_
    refine lv_iload_n hx hb dX7_leaveTrace_125 rfl (lv_at hl 0 rfl) ?_
    refine lv_iconst (v := nI (3)) hx hb dX7_leaveTrace_126 (by decide) ?_
    refine fa_iaddN hx hb dX7_leaveTrace_127 ?_
    refine lv_aload_n hx hb dX7_leaveTrace_128 rfl (lv_at hl 1 rfl) ?_
    refine fa_getr (k := 397) (j := 398) CX HX1790 fl_X7_7 (by omega) rfl rfl hM.1 dX7_leaveTrace_129 ?_
    refine lv_bipush (v := nI (7)) hx hb dX7_leaveTrace_132 (by decide) ?_
    refine fa_iald (k := 398) (j := 7) CX HX1790 (by omega) rfl (by omega) (by first | decide | assumption) dX7_leaveTrace_134 ?_
    refine fa_iast (k := 398) (j := 393 + (5 * n6) + 3) CX HX1790 (by omega) rfl (by omega) (by first | decide | assumption) dX7_leaveTrace_135 (fun H locs v1791 e1792 HX1793 => ?_)
    refine lv_aload_n hx hb dX7_leaveTrace_136 rfl (lv_at hl 1 rfl) ?_
    refine fa_getr (k := 397) (j := 398) CX HX1793 fl_X7_7 (by omega) rfl rfl hM.1 dX7_leaveTrace_137 ?_
    refine lv_iload_n hx hb dX7_leaveTrace_140 rfl (lv_at hl 0 rfl) ?_
    refine lv_iconst (v := nI (4)) hx hb dX7_leaveTrace_141 (by decide) ?_
    refine fa_iaddN hx hb dX7_leaveTrace_142 ?_
    refine lv_aload_n hx hb dX7_leaveTrace_143 rfl (lv_at hl 1 rfl) ?_
    refine fa_getr (k := 397) (j := 398) CX HX1793 fl_X7_7 (by omega) rfl rfl hM.1 dX7_leaveTrace_144 ?_
    refine lv_iload_n hx hb dX7_leaveTrace_147 rfl (lv_at hl 2 rfl) ?_
    refine fa_callSip (As := [.int (nI (u))]) (rest := [.ref (fa_B G + (398)), .int (nI (393 + (5 * n6) + 4)), .ref (fa_B G + (398))]) CX HX1793 (r_f l G n v1791 r (u)) ln_X7_36 rfl rfl (Nat.le_of_ble_eq_true rfl) hl.1 ⟨Nat.le_of_ble_eq_true rfl, Nat.le_of_ble_eq_true rfl⟩ ⟨Nat.le_refl _, Nat.le_refl _⟩ dX7_leaveTrace_148 (fun x1795 H locs h1794 HX1796 => ?_)
    subst h1794
    refine lv_iconst (v := nI (5)) hx hb dX7_leaveTrace_151 (by decide) ?_
    refine fa_iaddN hx hb dX7_leaveTrace_152 ?_
    refine fa_iald (k := 398) (j := 17 + 15 * u + 5) CX HX1796 (by omega) rfl (by omega) (by first | decide | assumption) dX7_leaveTrace_153 ?_
    refine fa_iast (k := 398) (j := 393 + (5 * n6) + 4) CX HX1796 (by omega) rfl (by omega) (by first | decide | assumption) dX7_leaveTrace_154 (fun H locs v1797 e1798 HX1799 => ?_)
    refine lv_aload_n hx hb dX7_leaveTrace_155 rfl (lv_at hl 1 rfl) ?_
    refine fa_getr (k := 397) (j := 398) CX HX1799 fl_X7_7 (by omega) rfl rfl hM.1 dX7_leaveTrace_156 ?_
    refine lv_bipush (v := nI (16)) hx hb dX7_leaveTrace_159 (by decide) ?_
    refine lv_dup2_11 hx hb dX7_leaveTrace_161 rfl rfl ?_
    refine fa_iald (k := 398) (j := 16) CX HX1799 (by omega) rfl (by omega) (by first | decide | assumption) dX7_leaveTrace_162 ?_
    rw [show v1797 398 16 = nI (n6) from (by rw [e1798, fa_u_n _ _ (by omega)]; exact (by rw [e1792, fa_u_n _ _ (by omega)]; exact (by rw [e1789, fa_u_n _ _ (by omega)]; exact (by rw [e1783, fa_u_n _ _ (by omega)]; exact (by rw [e1777, fa_u_n _ _ (by omega)]; exact g6)))))]
    refine lv_iconst (v := nI (1)) hx hb dX7_leaveTrace_163 (by decide) ?_
    refine fa_iaddN hx hb dX7_leaveTrace_164 ?_
    refine fa_iast (k := 398) (j := 16) CX HX1799 (by omega) rfl (by omega) (by first | decide | assumption) dX7_leaveTrace_165 (fun H locs v1800 e1801 HX1802 => ?_)
    exact RET _ _ _ _ _ _ HX1802 dX7_leaveTrace_166 (⟨rfl, ⟨⟨(show fa_MS (v1800 398) from by rw [e1801]; exact fa_MS.u (show fa_MS (v1797 398) from by rw [e1798]; exact fa_MS.u (show fa_MS (v1791 398) from by rw [e1792]; exact fa_MS.u (show fa_MS (v1788 398) from by rw [e1789]; exact fa_MS.u (show fa_MS (v1782 398) from by rw [e1783]; exact fa_MS.u (show fa_MS (v1776 398) from by rw [e1777]; exact fa_MS.u hS (fa_ok.o (by omega) (by omega) (by omega) (fun p hp => by omega))) (fa_ok.o (by omega) (by omega) (by omega) (fun p hp => by omega))) (fa_ok.o (by omega) (by omega) (by omega) (fun p hp => by omega))) (fa_ok.o (by omega) (by omega) (by omega) (fun p hp => by omega))) (fa_ok.o (by omega) (by omega) (by omega) (fun p hp => by omega))) (fa_ok.n16 (by omega))), (show v1800 398 14 = v 398 14 from ((show v1800 398 14 = nI (n4) from (by rw [e1801, fa_u_n _ _ (by omega)]; exact (by rw [e1798, fa_u_n _ _ (by omega)]; exact (by rw [e1792, fa_u_n _ _ (by omega)]; exact (by rw [e1789, fa_u_n _ _ (by omega)]; exact (by rw [e1783, fa_u_n _ _ (by omega)]; exact (by rw [e1777, fa_u_n _ _ (by omega)]; exact g4))))))).trans g4.symm)), (show v1800 398 15 = v 398 15 from ((show v1800 398 15 = nI (n5) from (by rw [e1801, fa_u_n _ _ (by omega)]; exact (by rw [e1798, fa_u_n _ _ (by omega)]; exact (by rw [e1792, fa_u_n _ _ (by omega)]; exact (by rw [e1789, fa_u_n _ _ (by omega)]; exact (by rw [e1783, fa_u_n _ _ (by omega)]; exact (by rw [e1777, fa_u_n _ _ (by omega)]; exact g5))))))).trans g5.symm)), (fb_m_lv1 (by omega) (by omega) g6 e1777 e1783 e1789 e1792 e1798 e1801)⟩, (by rw [e1801]; exact fa_fr.u (by rw [e1798]; exact fa_fr.u (by rw [e1792]; exact fa_fr.u (by rw [e1789]; exact fa_fr.u (by rw [e1783]; exact fa_fr.u (by rw [e1777]; exact fa_fr.u fa_fr.rf (by omega)) (by omega)) (by omega)) (by omega)) (by omega)) (by omega))⟩⟩)
  · have hn12 : n6 = 12 := fa_nIinj (by omega) (by omega) c_9
    refine lv_sipush (v := nI (393)) hx hb dX7_leaveTrace_12 (by decide) ?_
    refine lv_istore_n (lv' := [(2, .int (nI (393))), (0, .ref (fa_B G + (397))), (1, .int (nI (u)))]) hx hb dX7_leaveTrace_15 rfl hl (by decide) rfl (fun ls hl => ?_)
    have LOOP_16 : ∀ (fu : Nat) (k : Nat) (v1803 : fa_V) (H : Heap) (locs : List Loc) (ls : Array Slot), 448 - k < fu → ((393 ≤ k ∧ k ≤ 448) ∧ fa_MS (v1803 398) ∧ v1803 398 14 = v 398 14 ∧ v1803 398 15 = v 398 15 ∧ v1803 398 16 = v 398 16 ∧ fa_fr 398 399 v v1803 ∧ ∀ i, v1803 398 i = if 393 ≤ i ∧ i < k then v 398 (i + 5) else v 398 i) → lv_has ls 3 [(0, .ref (fa_B G + (397))), (1, .int (nI (u))), (2, .int (nI (k)))] → fa_HX G (n) v1803 r s H locs → W p l e (fa_rm 2) s m args below meth c H locs (0) (0) Q (F0 m 16 ls []) := by
      intro fu
      induction fu with
      | zero => intro k v1803 H locs ls hk; exact absurd hk (Nat.not_lt_zero _)
      | succ fu ih_16 =>
        intro k v1803 H locs ls hk_16 hi_16 hl HX1804
        refine lv_iload_n hx hb dX7_leaveTrace_16 rfl (lv_at hl 2 rfl) ?_
        refine lv_sipush (v := nI (448)) hx hb dX7_leaveTrace_17 (by decide) ?_
        refine lv_icmp_ge (tgt := 43) hx hb dX7_leaveTrace_20 (by decide) (fun c_20 => ?_) (fun c_20 => ?_)
        · have hk := fa_leN (by omega) (by omega) c_20
          refine lv_aload_n hx hb dX7_leaveTrace_43 rfl (lv_at hl 0 rfl) ?_
          refine fa_getr (k := 397) (j := 398) CX HX1804 fl_X7_7 (by omega) rfl rfl hM.1 dX7_leaveTrace_44 ?_
          refine lv_bipush (v := nI (16)) hx hb dX7_leaveTrace_47 (by decide) ?_
          refine lv_dup2_11 hx hb dX7_leaveTrace_49 rfl rfl ?_
          refine fa_iald (k := 398) (j := 16) CX HX1804 (by omega) rfl (by omega) (by first | decide | assumption) dX7_leaveTrace_50 ?_
          rw [show v1803 398 16 = nI (n6) from ((hi_16.2.2.2.2.1).trans g6)]
          refine lv_iconst (v := nI (1)) hx hb dX7_leaveTrace_51 (by decide) ?_
          refine fa_isubN hx hb dX7_leaveTrace_52 (by omega) ?_
          refine fa_iast (k := 398) (j := 16) CX HX1804 (by omega) rfl (by omega) (by first | decide | assumption) dX7_leaveTrace_53 (fun H locs v1805 e1806 HX1807 => ?_)
          refine lv_sipush (v := nI (393)) hx hb dX7_leaveTrace_54 (by decide) ?_
          refine lv_iconst (v := nI (5)) hx hb dX7_leaveTrace_57 (by decide) ?_
          refine lv_aload_n hx hb dX7_leaveTrace_58 rfl (lv_at hl 0 rfl) ?_
          refine fa_getr (k := 397) (j := 398) CX HX1807 fl_X7_7 (by omega) rfl rfl hM.1 dX7_leaveTrace_59 ?_
          refine lv_bipush (v := nI (16)) hx hb dX7_leaveTrace_62 (by decide) ?_
          refine fa_iald (k := 398) (j := 16) CX HX1807 (by omega) rfl (by omega) (by first | decide | assumption) dX7_leaveTrace_64 ?_
          rw [show v1805 398 16 = nI (n6 - 1) from (by rw [e1806, fa_u_s])]
          refine fa_imulN hx hb dX7_leaveTrace_65 ?_
          refine fa_iaddN hx hb dX7_leaveTrace_66 ?_
          refine lv_istore_n (lv' := [(2, .int (nI (393 + (5 * (n6 - 1))))), (0, .ref (fa_B G + (397))), (1, .int (nI (u)))]) hx hb dX7_leaveTrace_67 rfl hl (by decide) rfl (fun ls hl => ?_)
          refine lv_aload_n hx hb dX7_leaveTrace_68 rfl (lv_at hl 1 rfl) ?_
          refine fa_getr (k := 397) (j := 398) CX HX1807 fl_X7_7 (by omega) rfl rfl hM.1 dX7_leaveTrace_69 ?_
          refine lv_iload_n hx hb dX7_leaveTrace_72 rfl (lv_at hl 0 rfl) ?_
          refine lv_aload_n hx hb dX7_leaveTrace_73 rfl (lv_at hl 1 rfl) ?_
          refine fa_getr (k := 397) (j := 398) CX HX1807 fl_X7_7 (by omega) rfl rfl hM.1 dX7_leaveTrace_74 ?_
          refine lv_iload_n hx hb dX7_leaveTrace_77 rfl (lv_at hl 2 rfl) ?_
          refine fa_callSip (As := [.int (nI (u))]) (rest := [.ref (fa_B G + (398)), .int (nI (393 + (5 * (n6 - 1)))), .ref (fa_B G + (398))]) CX HX1807 (r_f l G n v1805 r (u)) ln_X7_36 rfl rfl (Nat.le_of_ble_eq_true rfl) hl.1 ⟨Nat.le_of_ble_eq_true rfl, Nat.le_of_ble_eq_true rfl⟩ ⟨Nat.le_refl _, Nat.le_refl _⟩ dX7_leaveTrace_78 (fun x1809 H locs h1808 HX1810 => ?_)
          subst h1808
          refine fa_iald (k := 398) (j := 17 + 15 * u) CX HX1810 (by omega) rfl (by omega) (by first | decide | assumption) dX7_leaveTrace_81 ?_
          refine fa_iast (k := 398) (j := 393 + (5 * (n6 - 1))) CX HX1810 (by omega) rfl (by omega) (by first | decide | assumption) dX7_leaveTrace_82 (fun H locs v1811 e1812 HX1813 => ?_)
          refine lv_aload_n hx hb dX7_leaveTrace_83 rfl (lv_at hl 1 rfl) ?_
          refine fa_getr (k := 397) (j := 398) CX HX1813 fl_X7_7 (by omega) rfl rfl hM.1 dX7_leaveTrace_84 ?_
          refine lv_iload_n hx hb dX7_leaveTrace_87 rfl (lv_at hl 0 rfl) ?_
          refine lv_iconst (v := nI (1)) hx hb dX7_leaveTrace_88 (by decide) ?_
          refine fa_iaddN hx hb dX7_leaveTrace_89 ?_
          refine lv_aload_n hx hb dX7_leaveTrace_90 rfl (lv_at hl 1 rfl) ?_
          refine fa_getr (k := 397) (j := 398) CX HX1813 fl_X7_7 (by omega) rfl rfl hM.1 dX7_leaveTrace_91 ?_
          refine lv_iload_n hx hb dX7_leaveTrace_94 rfl (lv_at hl 2 rfl) ?_
          refine fa_callSip (As := [.int (nI (u))]) (rest := [.ref (fa_B G + (398)), .int (nI (393 + (5 * (n6 - 1)) + 1)), .ref (fa_B G + (398))]) CX HX1813 (r_f l G n v1811 r (u)) ln_X7_36 rfl rfl (Nat.le_of_ble_eq_true rfl) hl.1 ⟨Nat.le_of_ble_eq_true rfl, Nat.le_of_ble_eq_true rfl⟩ ⟨Nat.le_refl _, Nat.le_refl _⟩ dX7_leaveTrace_95 (fun x1815 H locs h1814 HX1816 => ?_)
          subst h1814
          refine lv_iconst (v := nI (1)) hx hb dX7_leaveTrace_98 (by decide) ?_
          refine fa_iaddN hx hb dX7_leaveTrace_99 ?_
          refine fa_iald (k := 398) (j := 17 + 15 * u + 1) CX HX1816 (by omega) rfl (by omega) (by first | decide | assumption) dX7_leaveTrace_100 ?_
          refine fa_iast (k := 398) (j := 393 + (5 * (n6 - 1)) + 1) CX HX1816 (by omega) rfl (by omega) (by first | decide | assumption) dX7_leaveTrace_101 (fun H locs v1817 e1818 HX1819 => ?_)
          refine lv_aload_n hx hb dX7_leaveTrace_102 rfl (lv_at hl 1 rfl) ?_
          refine fa_getr (k := 397) (j := 398) CX HX1819 fl_X7_7 (by omega) rfl rfl hM.1 dX7_leaveTrace_103 ?_
          refine lv_iload_n hx hb dX7_leaveTrace_106 rfl (lv_at hl 0 rfl) ?_
          refine lv_iconst (v := nI (2)) hx hb dX7_leaveTrace_107 (by decide) ?_
          refine fa_iaddN hx hb dX7_leaveTrace_108 ?_
          refine lv_aload_n hx hb dX7_leaveTrace_109 rfl (lv_at hl 1 rfl) ?_
          refine fa_getr (k := 397) (j := 398) CX HX1819 fl_X7_7 (by omega) rfl rfl hM.1 dX7_leaveTrace_110 ?_
          refine lv_iload_n hx hb dX7_leaveTrace_113 rfl (lv_at hl 2 rfl) ?_
          refine fa_callSip (As := [.int (nI (u))]) (rest := [.ref (fa_B G + (398)), .int (nI (393 + (5 * (n6 - 1)) + 2)), .ref (fa_B G + (398))]) CX HX1819 (r_f l G n v1817 r (u)) ln_X7_36 rfl rfl (Nat.le_of_ble_eq_true rfl) hl.1 ⟨Nat.le_of_ble_eq_true rfl, Nat.le_of_ble_eq_true rfl⟩ ⟨Nat.le_refl _, Nat.le_refl _⟩ dX7_leaveTrace_114 (fun x1821 H locs h1820 HX1822 => ?_)
          subst h1820
          refine lv_iconst (v := nI (2)) hx hb dX7_leaveTrace_117 (by decide) ?_
          refine fa_iaddN hx hb dX7_leaveTrace_118 ?_
          refine fa_iald (k := 398) (j := 17 + 15 * u + 2) CX HX1822 (by omega) rfl (by omega) (by first | decide | assumption) dX7_leaveTrace_119 ?_
          refine fa_iast (k := 398) (j := 393 + (5 * (n6 - 1)) + 2) CX HX1822 (by omega) rfl (by omega) (by first | decide | assumption) dX7_leaveTrace_120 (fun H locs v1823 e1824 HX1825 => ?_)
          refine lv_aload_n hx hb dX7_leaveTrace_121 rfl (lv_at hl 1 rfl) ?_
          refine fa_getr (k := 397) (j := 398) CX HX1825 fl_X7_7 (by omega) rfl rfl hM.1 dX7_leaveTrace_122 ?_
          refine lv_iload_n hx hb dX7_leaveTrace_125 rfl (lv_at hl 0 rfl) ?_
          refine lv_iconst (v := nI (3)) hx hb dX7_leaveTrace_126 (by decide) ?_
          refine fa_iaddN hx hb dX7_leaveTrace_127 ?_
          refine lv_aload_n hx hb dX7_leaveTrace_128 rfl (lv_at hl 1 rfl) ?_
          refine fa_getr (k := 397) (j := 398) CX HX1825 fl_X7_7 (by omega) rfl rfl hM.1 dX7_leaveTrace_129 ?_
          refine lv_bipush (v := nI (7)) hx hb dX7_leaveTrace_132 (by decide) ?_
          refine fa_iald (k := 398) (j := 7) CX HX1825 (by omega) rfl (by omega) (by first | decide | assumption) dX7_leaveTrace_134 ?_
          refine fa_iast (k := 398) (j := 393 + (5 * (n6 - 1)) + 3) CX HX1825 (by omega) rfl (by omega) (by first | decide | assumption) dX7_leaveTrace_135 (fun H locs v1826 e1827 HX1828 => ?_)
          refine lv_aload_n hx hb dX7_leaveTrace_136 rfl (lv_at hl 1 rfl) ?_
          refine fa_getr (k := 397) (j := 398) CX HX1828 fl_X7_7 (by omega) rfl rfl hM.1 dX7_leaveTrace_137 ?_
          refine lv_iload_n hx hb dX7_leaveTrace_140 rfl (lv_at hl 0 rfl) ?_
          refine lv_iconst (v := nI (4)) hx hb dX7_leaveTrace_141 (by decide) ?_
          refine fa_iaddN hx hb dX7_leaveTrace_142 ?_
          refine lv_aload_n hx hb dX7_leaveTrace_143 rfl (lv_at hl 1 rfl) ?_
          refine fa_getr (k := 397) (j := 398) CX HX1828 fl_X7_7 (by omega) rfl rfl hM.1 dX7_leaveTrace_144 ?_
          refine lv_iload_n hx hb dX7_leaveTrace_147 rfl (lv_at hl 2 rfl) ?_
          refine fa_callSip (As := [.int (nI (u))]) (rest := [.ref (fa_B G + (398)), .int (nI (393 + (5 * (n6 - 1)) + 4)), .ref (fa_B G + (398))]) CX HX1828 (r_f l G n v1826 r (u)) ln_X7_36 rfl rfl (Nat.le_of_ble_eq_true rfl) hl.1 ⟨Nat.le_of_ble_eq_true rfl, Nat.le_of_ble_eq_true rfl⟩ ⟨Nat.le_refl _, Nat.le_refl _⟩ dX7_leaveTrace_148 (fun x1830 H locs h1829 HX1831 => ?_)
          subst h1829
          refine lv_iconst (v := nI (5)) hx hb dX7_leaveTrace_151 (by decide) ?_
          refine fa_iaddN hx hb dX7_leaveTrace_152 ?_
          refine fa_iald (k := 398) (j := 17 + 15 * u + 5) CX HX1831 (by omega) rfl (by omega) (by first | decide | assumption) dX7_leaveTrace_153 ?_
          refine fa_iast (k := 398) (j := 393 + (5 * (n6 - 1)) + 4) CX HX1831 (by omega) rfl (by omega) (by first | decide | assumption) dX7_leaveTrace_154 (fun H locs v1832 e1833 HX1834 => ?_)
          refine lv_aload_n hx hb dX7_leaveTrace_155 rfl (lv_at hl 1 rfl) ?_
          refine fa_getr (k := 397) (j := 398) CX HX1834 fl_X7_7 (by omega) rfl rfl hM.1 dX7_leaveTrace_156 ?_
          refine lv_bipush (v := nI (16)) hx hb dX7_leaveTrace_159 (by decide) ?_
          refine lv_dup2_11 hx hb dX7_leaveTrace_161 rfl rfl ?_
          refine fa_iald (k := 398) (j := 16) CX HX1834 (by omega) rfl (by omega) (by first | decide | assumption) dX7_leaveTrace_162 ?_
          rw [show v1832 398 16 = nI (n6 - 1) from (by rw [e1833, fa_u_n _ _ (by omega)]; exact (by rw [e1827, fa_u_n _ _ (by omega)]; exact (by rw [e1824, fa_u_n _ _ (by omega)]; exact (by rw [e1818, fa_u_n _ _ (by omega)]; exact (by rw [e1812, fa_u_n _ _ (by omega)]; exact (by rw [e1806, fa_u_s]))))))]
          refine lv_iconst (v := nI (1)) hx hb dX7_leaveTrace_163 (by decide) ?_
          refine fa_iaddN hx hb dX7_leaveTrace_164 ?_
          refine fa_iast (k := 398) (j := 16) CX HX1834 (by omega) rfl (by omega) (by first | decide | assumption) dX7_leaveTrace_165 (fun H locs v1835 e1836 HX1837 => ?_)
          exact RET _ _ _ _ _ _ HX1837 dX7_leaveTrace_166 (⟨rfl, ⟨⟨(show fa_MS (v1835 398) from by rw [e1836]; exact fa_MS.u (show fa_MS (v1832 398) from by rw [e1833]; exact fa_MS.u (show fa_MS (v1826 398) from by rw [e1827]; exact fa_MS.u (show fa_MS (v1823 398) from by rw [e1824]; exact fa_MS.u (show fa_MS (v1817 398) from by rw [e1818]; exact fa_MS.u (show fa_MS (v1811 398) from by rw [e1812]; exact fa_MS.u (show fa_MS (v1805 398) from by rw [e1806]; exact fa_MS.u hi_16.2.1 (fa_ok.n16 (by omega))) (fa_ok.o (by omega) (by omega) (by omega) (fun p hp => by omega))) (fa_ok.o (by omega) (by omega) (by omega) (fun p hp => by omega))) (fa_ok.o (by omega) (by omega) (by omega) (fun p hp => by omega))) (fa_ok.o (by omega) (by omega) (by omega) (fun p hp => by omega))) (fa_ok.o (by omega) (by omega) (by omega) (fun p hp => by omega))) (fa_ok.n16 (by omega))), (show v1835 398 14 = v 398 14 from ((show v1835 398 14 = nI (n4) from (by rw [e1836, fa_u_n _ _ (by omega)]; exact (by rw [e1833, fa_u_n _ _ (by omega)]; exact (by rw [e1827, fa_u_n _ _ (by omega)]; exact (by rw [e1824, fa_u_n _ _ (by omega)]; exact (by rw [e1818, fa_u_n _ _ (by omega)]; exact (by rw [e1812, fa_u_n _ _ (by omega)]; exact (by rw [e1806, fa_u_n _ _ (by omega)]; exact ((hi_16.2.2.1).trans g4))))))))).trans g4.symm)), (show v1835 398 15 = v 398 15 from ((show v1835 398 15 = nI (n5) from (by rw [e1836, fa_u_n _ _ (by omega)]; exact (by rw [e1833, fa_u_n _ _ (by omega)]; exact (by rw [e1827, fa_u_n _ _ (by omega)]; exact (by rw [e1824, fa_u_n _ _ (by omega)]; exact (by rw [e1818, fa_u_n _ _ (by omega)]; exact (by rw [e1812, fa_u_n _ _ (by omega)]; exact (by rw [e1806, fa_u_n _ _ (by omega)]; exact ((hi_16.2.2.2.1).trans g5))))))))).trans g5.symm)), (fb_m_lv2 (by omega) hn12 rfl g6 (fun i => by rw [hi_16.2.2.2.2.2.2 i, show k = 448 by omega]) e1806 e1812 e1818 e1824 e1827 e1833 e1836)⟩, (by rw [e1836]; exact fa_fr.u (by rw [e1833]; exact fa_fr.u (by rw [e1827]; exact fa_fr.u (by rw [e1824]; exact fa_fr.u (by rw [e1818]; exact fa_fr.u (by rw [e1812]; exact fa_fr.u (by rw [e1806]; exact fa_fr.u (fa_fr.tr fa_fr.rf (fa_fr.wide hi_16.2.2.2.2.2.1 (by omega) (by omega))) (by omega)) (by omega)) (by omega)) (by omega)) (by omega)) (by omega)) (by omega))⟩⟩)
        · have hk : k < 448 := fa_ltN (by omega) (by omega) c_20
          refine lv_aload_n hx hb dX7_leaveTrace_23 rfl (lv_at hl 0 rfl) ?_
          refine fa_getr (k := 397) (j := 398) CX HX1804 fl_X7_7 (by omega) rfl rfl hM.1 dX7_leaveTrace_24 ?_
          refine lv_iload_n hx hb dX7_leaveTrace_27 rfl (lv_at hl 2 rfl) ?_
          refine lv_aload_n hx hb dX7_leaveTrace_28 rfl (lv_at hl 0 rfl) ?_
          refine fa_getr (k := 397) (j := 398) CX HX1804 fl_X7_7 (by omega) rfl rfl hM.1 dX7_leaveTrace_29 ?_
          refine lv_iload_n hx hb dX7_leaveTrace_32 rfl (lv_at hl 2 rfl) ?_
          refine lv_iconst (v := nI (5)) hx hb dX7_leaveTrace_33 (by decide) ?_
          refine fa_iaddN hx hb dX7_leaveTrace_34 ?_
          refine fa_iald (k := 398) (j := k + 5) CX HX1804 (by omega) rfl (by omega) (by first | decide | assumption) dX7_leaveTrace_35 ?_
          refine fa_iast (k := 398) (j := k) CX HX1804 (by omega) rfl (by omega) (by first | decide | assumption) dX7_leaveTrace_36 (fun H locs v1838 e1839 HX1840 => ?_)
          refine lv_iinc (v := nI (k + 1)) (lv' := [(2, .int (nI (k + 1))), (0, .ref (fa_B G + (397))), (1, .int (nI (u)))]) hx hb dX7_leaveTrace_37 hl (k := 2) rfl (nI_add (k) 1) (by decide) rfl (fun ls hl => ?_)
          refine lv_goto (tgt := 16) hx hb dX7_leaveTrace_40 (by decide) ?_
          exact ih_16 (k + 1) v1838 _ _ _ (by omega) (⟨⟨by omega, by omega⟩, (show fa_MS (v1838 398) from by rw [e1839]; exact fa_MS.u hi_16.2.1 (fa_ok.o (by omega) (by omega) (by omega) (fun p hp => by omega))), ((show v1838 398 14 = nI (n4) from (by rw [e1839, fa_u_n _ _ (by omega)]; exact ((hi_16.2.2.1).trans g4))).trans g4.symm), ((show v1838 398 15 = nI (n5) from (by rw [e1839, fa_u_n _ _ (by omega)]; exact ((hi_16.2.2.2.1).trans g5))).trans g5.symm), ((show v1838 398 16 = nI (n6) from (by rw [e1839, fa_u_n _ _ (by omega)]; exact ((hi_16.2.2.2.2.1).trans g6))).trans g6.symm), (by rw [e1839]; exact fa_fr.u (fa_fr.tr fa_fr.rf (fa_fr.wide hi_16.2.2.2.2.2.1 (by omega) (by omega))) (by omega)), fb_m_sh hi_16.1.1 hi_16.2.2.2.2.2.2 e1839⟩) (lv_sub hl [1, 2, 0] rfl) HX1840
    exact LOOP_16 (448 - 393 + 1) (393) v _ _ _ (Nat.lt_succ_self _) (⟨⟨by decide, by decide⟩, hS, rfl, rfl, rfl, fa_fr.rf, fun i => (if_neg (by omega)).symm⟩) (lv_sub hl [1, 2, 0] rfl) HX
/-! A FILE IS BURNT in the reference's row -/
def fb_mBU (f f1 : Nat → Int32) (u : Nat) : Prop := (∀ i, i < 14 → ¬ i = 9 → ¬ i = 10 → f1 i = f i) ∧ f1 9 = f 9 + nI 1 ∧ f1 10 = f 10 + f (17 + 15 * u + 2) ∧ (∀ i, 377 ≤ i → i < 393 → f1 i = f i) ∧ (∀ p i, p < 24 → i < 15 → ¬ i = 6 → f1 (17 + 15 * p + i) = f (17 + 15 * p + i)) ∧
  (∀ p, p < 24 → ¬ f (17 + 15 * p + 6) = f (17 + 15 * u) → f1 (17 + 15 * p + 6) = f (17 + 15 * p + 6)) ∧ ∀ m T, fb_mT f m T → fb_mT f1 (fb_lv (f 7) (fun i => f (17 + 15 * u + i)) (m, T)).1 (fb_lv (f 7) (fun i => f (17 + 15 * u + i)) (m, T)).2
theorem fb_mT.congr {f f1 : Nat → Int32} {m : Nat} {T : Nat → Nat → Int32} (h : fb_mT f m T) (e : ∀ i, i = 16 ∨ 393 ≤ i → f1 i = f i) : fb_mT f1 m T :=
  ⟨h.1, by rw [e 16 (Or.inl rfl)]; exact h.2.1, fun p i hp hi => by rw [e _ (Or.inr (by omega))]; exact h.2.2 p i hp hi⟩
theorem fb_mBU.start {f : Nat → Int32} {w v1 v2 : fa_V} {u : Nat} (hu : u < 24) (h : fb_mLV f (w 398) u) (e1 : v1 = fa_u w 398 9 (w 398 9 + nI 1)) (e2 : v2 = fa_u v1 398 10 (v1 398 10 + v1 398 (17 + 15 * u + 2))) : fb_mBU f (v2 398) u := by
  have a1 : ∀ i, ¬ i = 9 → v1 398 i = w 398 i := fun i hi => by rw [e1]; exact fa_u_n _ _ (fun z => hi z.2)
  have a2 : ∀ i, ¬ i = 10 → v2 398 i = v1 398 i := fun i hi => by rw [e2]; exact fa_u_n _ _ (fun z => hi z.2)
  refine ⟨fun i h1 h2 h3 => by rw [a2 i h3, a1 i h2, h.1 i (by omega) (by omega)], ?_, ?_, fun i h1 h2 => by rw [a2 i (by omega), a1 i (by omega), h.1 i h2 (by omega)], fun p i hp hi _ => by rw [a2 _ (by omega), a1 _ (by omega), h.1 _ (by omega) (by omega)],
    fun p hp _ => by rw [a2 _ (by omega), a1 _ (by omega), h.1 _ (by omega) (by omega)], fun m T hT => (h.2 m T hT).congr (fun i hi => by rw [a2 i (by omega), a1 i (by omega)])⟩
  · rw [a2 9 (by decide), e1, fa_u_s, h.1 9 (by decide) (by decide)]
  · rw [e2, fa_u_s, a1 10 (by decide), a1 _ (by omega), h.1 10 (by decide) (by decide), h.1 (17 + 15 * u + 2) (by omega) (by omega)]
theorem fb_mBU.same {f : Nat → Int32} {w w1 : fa_V} {u i : Nat} {y : Int32} (h : fb_mBU f (w 398) u) (e : w1 = fa_u w 398 i y) (hy : y = w 398 i) : fb_mBU f (w1 398) u := by
  have : w1 398 = w 398 := by
    funext j
    rw [e]
    by_cases z : j = i
    · rw [z, fa_u_s, hy]
    · exact fa_u_n _ _ (fun q => z q.2)
  rw [this]
  exact h
theorem fb_mBU.w {f : Nat → Int32} {w w1 : fa_V} {u j : Nat} {y : Int32} (h : fb_mBU f (w 398) u) (hj : j < 24) (e : w1 = fa_u w 398 (17 + 15 * j + 6) y) (c : w 398 (17 + 15 * j + 6) = f (17 + 15 * u)) : fb_mBU f (w1 398) u := by
  obtain ⟨h1, h2, h3, h4, h5, h6, h7⟩ := h
  have a : ∀ i, ¬ i = 17 + 15 * j + 6 → w1 398 i = w 398 i := fun i hi => by rw [e]; exact fa_u_n _ _ (fun z => hi z.2)
  refine ⟨fun i q1 q2 q3 => by rw [a i (by omega)]; exact h1 i q1 q2 q3, by rw [a 9 (by omega)]; exact h2, by rw [a 10 (by omega)]; exact h3, fun i q1 q2 => by rw [a i (by omega)]; exact h4 i q1 q2, fun p i hp hi h => by rw [a _ (by omega)]; exact h5 p i hp hi h,
    fun p hp q => ?_, fun m T hT => (h7 m T hT).congr (fun i hi => a i (by omega))⟩
  by_cases z : p = j
  · have := h6 p hp q
    rw [z, c] at this
    rw [z] at q
    exact absurd this.symm q
  · rw [a _ (by omega)]; exact h6 p hp q
set_option maxHeartbeats 4000000 in
set_option maxRecDepth 100000 in
theorem r_burn (l : Launch) (G : fa_G) (n : Nat) (hn : 406 ≤ n) (v : fa_V) (r : fa_R) (hM : fa_RM r) (hS : fa_MS (v 398)) (u : Nat) (hu : u < 24) : fa_MV l G n yX7_burn cX7_burn 4 3 [.ref (fa_B G + (397)), .int (nI (u))] v r (fa_vo r (fun v1 => ((fa_MS (v1 398)) ∧ (v1 398 14 = v 398 14) ∧ (v1 398 15 = v 398 15) ∧ (fb_mBU (v 398) (v1 398) u)) ∧ (fa_fr (398) (399) v v1))) := by
  refine fa_startV (by decide +kernel) (Nat.le_of_ble_eq_true rfl) (fun p e s m args below meth c ls Q CX hl HX RET => ?_)
  have hl : lv_has ls 4 [(0, .ref (fa_B G + (397))), (1, .int (nI (u)))] := hl
  have hx := CX.1.1
  have hb := CX.1.2.1
  obtain ⟨n4, en4⟩ : ∃ m, m = fa_N (v 398 14) := ⟨_, rfl⟩
  obtain ⟨hn4, g4⟩ := hS.n4 en4
  obtain ⟨n5, en5⟩ : ∃ m, m = fa_N (v 398 15) := ⟨_, rfl⟩
  obtain ⟨hn5, g5⟩ := hS.n5 en5
  obtain ⟨n6, en6⟩ : ∃ m, m = fa_N (v 398 16) := ⟨_, rfl⟩
  obtain ⟨hn6, g6⟩ := hS.n6 en6
  refine lv_aload_n hx hb dX7_burn_0 rfl (lv_at hl 0 rfl) ?_
  refine fa_getr (k := 397) (j := 398) CX HX fl_X7_7 (by omega) rfl rfl hM.1 dX7_burn_1 ?_
  refine lv_iload_n hx hb dX7_burn_4 rfl (lv_at hl 1 rfl) ?_
  refine fa_callSip (As := [.int (nI (u))]) (rest := [.ref (fa_B G + (398))]) CX HX (r_f l G n v r (u)) ln_X7_36 rfl rfl (Nat.le_of_ble_eq_true rfl) hl.1 ⟨Nat.le_of_ble_eq_true rfl, Nat.le_of_ble_eq_true rfl⟩ ⟨Nat.le_refl _, Nat.le_refl _⟩ dX7_burn_5 (fun x1842 H locs h1841 HX1843 => ?_)
  subst h1841
  refine fa_iald (k := 398) (j := 17 + 15 * u) CX HX1843 (by omega) rfl (by omega) (by first | decide | assumption) dX7_burn_8 ?_
  refine lv_istore_n (lv' := [(2, .int (v 398 (17 + 15 * u))), (0, .ref (fa_B G + (397))), (1, .int (nI (u)))]) hx hb dX7_burn_9 rfl hl (by decide) rfl (fun ls hl => ?_)
  refine lv_aload_n hx hb dX7_burn_10 rfl (lv_at hl 1 rfl) ?_
  refine lv_iload_n hx hb dX7_burn_11 rfl (lv_at hl 2 rfl) ?_
  refine fa_callVvu (As := [.int (nI (u))]) (rest := []) CX HX1843 (r_leaveTrace l G n hn v r hM hS (u) (by omega)) ln_X7_63 (by omega) rfl rfl rfl rfl (Nat.le_of_ble_eq_true rfl) hl.1 ⟨Nat.le_of_ble_eq_true rfl, Nat.le_of_ble_eq_true rfl⟩ ⟨Nat.le_refl _, Nat.le_refl _⟩ dX7_burn_12 (fun v1845 H locs h1844 HX1846 => ?_)
  have hS_v1845 := h1844.1.1
  have h_leaveTrace := h1844.1.2.2.2
  refine lv_aload_n hx hb dX7_burn_15 rfl (lv_at hl 1 rfl) ?_
  refine fa_getr (k := 397) (j := 398) CX HX1846 fl_X7_7 (by omega) rfl rfl hM.1 dX7_burn_16 ?_
  refine lv_bipush (v := nI (9)) hx hb dX7_burn_19 (by decide) ?_
  refine lv_dup2_11 hx hb dX7_burn_21 rfl rfl ?_
  refine fa_iald (k := 398) (j := 9) CX HX1846 (by omega) rfl (by omega) (by first | decide | assumption) dX7_burn_22 ?_
  refine lv_iconst (v := nI (1)) hx hb dX7_burn_23 (by decide) ?_
  refine lv_iadd hx hb dX7_burn_24 ?_
  refine fa_iast (k := 398) (j := 9) CX HX1846 (by omega) rfl (by omega) (by first | decide | assumption) dX7_burn_25 (fun H locs v1847 e1848 HX1849 => ?_)
  refine lv_aload_n hx hb dX7_burn_26 rfl (lv_at hl 1 rfl) ?_
  refine fa_getr (k := 397) (j := 398) CX HX1849 fl_X7_7 (by omega) rfl rfl hM.1 dX7_burn_27 ?_
  refine lv_bipush (v := nI (10)) hx hb dX7_burn_30 (by decide) ?_
  refine lv_dup2_11 hx hb dX7_burn_32 rfl rfl ?_
  refine fa_iald (k := 398) (j := 10) CX HX1849 (by omega) rfl (by omega) (by first | decide | assumption) dX7_burn_33 ?_
  refine lv_aload_n hx hb dX7_burn_34 rfl (lv_at hl 1 rfl) ?_
  refine fa_getr (k := 397) (j := 398) CX HX1849 fl_X7_7 (by omega) rfl rfl hM.1 dX7_burn_35 ?_
  refine lv_iload_n hx hb dX7_burn_38 rfl (lv_at hl 2 rfl) ?_
  refine fa_callSip (As := [.int (nI (u))]) (rest := [.ref (fa_B G + (398)), .int (v1847 398 10), .int (nI (10)), .ref (fa_B G + (398))]) CX HX1849 (r_f l G n v1847 r (u)) ln_X7_36 rfl rfl (Nat.le_of_ble_eq_true rfl) hl.1 ⟨Nat.le_of_ble_eq_true rfl, Nat.le_of_ble_eq_true rfl⟩ ⟨Nat.le_refl _, Nat.le_refl _⟩ dX7_burn_39 (fun x1851 H locs h1850 HX1852 => ?_)
  subst h1850
  refine lv_iconst (v := nI (2)) hx hb dX7_burn_42 (by decide) ?_
  refine fa_iaddN hx hb dX7_burn_43 ?_
  refine fa_iald (k := 398) (j := 17 + 15 * u + 2) CX HX1852 (by omega) rfl (by omega) (by first | decide | assumption) dX7_burn_44 ?_
  refine lv_iadd hx hb dX7_burn_45 ?_
  refine fa_iast (k := 398) (j := 10) CX HX1852 (by omega) rfl (by omega) (by first | decide | assumption) dX7_burn_46 (fun H locs v1853 e1854 HX1855 => ?_)
  refine lv_iconst (v := nI (0)) hx hb dX7_burn_47 (by decide) ?_
  refine lv_istore_n (lv' := [(3, .int (nI (0))), (2, .int (v 398 (17 + 15 * u))), (0, .ref (fa_B G + (397))), (1, .int (nI (u)))]) hx hb dX7_burn_48 rfl hl (by decide) rfl (fun ls hl => ?_)
  have LOOP_49 : ∀ (fu : Nat) (j : Nat) (v1856 : fa_V) (H : Heap) (locs : List Loc) (ls : Array Slot), n4 - j < fu → (j ≤ n4 ∧ fa_MS (v1856 398) ∧ v1856 398 14 = v 398 14 ∧ v1856 398 15 = v 398 15 ∧ fa_fr 398 399 v v1856 ∧ fb_mBU (v 398) (v1856 398) u) → lv_has ls 4 [(0, .ref (fa_B G + (397))), (1, .int (nI (u))), (2, .int (v 398 (17 + 15 * u))), (3, .int (nI (j)))] → fa_HX G (n) v1856 r s H locs → W p l e (fa_rm 3) s m args below meth c H locs (0) (0) Q (F0 m 49 ls []) := by
    intro fu
    induction fu with
    | zero => intro j v1856 H locs ls hk; exact absurd hk (Nat.not_lt_zero _)
    | succ fu ih_49 =>
      intro j v1856 H locs ls hk_49 hi_49 hl HX1857
      refine lv_iload_n hx hb dX7_burn_49 rfl (lv_at hl 3 rfl) ?_
      refine lv_aload_n hx hb dX7_burn_50 rfl (lv_at hl 0 rfl) ?_
      refine fa_getr (k := 397) (j := 398) CX HX1857 fl_X7_7 (by omega) rfl rfl hM.1 dX7_burn_51 ?_
      refine lv_bipush (v := nI (14)) hx hb dX7_burn_54 (by decide) ?_
      refine fa_iald (k := 398) (j := 14) CX HX1857 (by omega) rfl (by omega) (by first | decide | assumption) dX7_burn_56 ?_
      rw [show v1856 398 14 = nI (n4) from ((hi_49.2.2.1).trans g4)]
      refine lv_icmp_ge (tgt := 110) hx hb dX7_burn_57 (by decide) (fun c_57 => ?_) (fun c_57 => ?_)
      · exact RET _ _ _ _ _ _ HX1857 dX7_burn_110 (⟨rfl, ⟨⟨hi_49.2.1, (show v1856 398 14 = v 398 14 from ((show v1856 398 14 = nI (n4) from ((hi_49.2.2.1).trans g4)).trans g4.symm)), (show v1856 398 15 = v 398 15 from ((show v1856 398 15 = nI (n5) from ((hi_49.2.2.2.1).trans g5)).trans g5.symm)), hi_49.2.2.2.2.2⟩, (fa_fr.tr fa_fr.rf (fa_fr.wide hi_49.2.2.2.2.1 (by omega) (by omega)))⟩⟩)
      · have hj := fa_ltN (by omega) (by omega) c_57
        refine lv_aload_n hx hb dX7_burn_60 rfl (lv_at hl 0 rfl) ?_
        refine fa_getr (k := 397) (j := 398) CX HX1857 fl_X7_7 (by omega) rfl rfl hM.1 dX7_burn_61 ?_
        refine lv_iload_n hx hb dX7_burn_64 rfl (lv_at hl 3 rfl) ?_
        refine fa_callSip (As := [.int (nI (j))]) (rest := [.ref (fa_B G + (398))]) CX HX1857 (r_f l G n v1856 r (j)) ln_X7_36 rfl rfl (Nat.le_of_ble_eq_true rfl) hl.1 ⟨Nat.le_of_ble_eq_true rfl, Nat.le_of_ble_eq_true rfl⟩ ⟨Nat.le_refl _, Nat.le_refl _⟩ dX7_burn_65 (fun x1859 H locs h1858 HX1860 => ?_)
        subst h1858
        refine lv_bipush (v := nI (6)) hx hb dX7_burn_68 (by decide) ?_
        refine fa_iaddN hx hb dX7_burn_70 ?_
        refine lv_aload_n hx hb dX7_burn_71 rfl (lv_at hl 0 rfl) ?_
        refine fa_getr (k := 397) (j := 398) CX HX1860 fl_X7_7 (by omega) rfl rfl hM.1 dX7_burn_72 ?_
        refine lv_iload_n hx hb dX7_burn_75 rfl (lv_at hl 3 rfl) ?_
        refine fa_callSip (As := [.int (nI (j))]) (rest := [.ref (fa_B G + (398)), .int (nI (17 + 15 * j + 6)), .ref (fa_B G + (398))]) CX HX1860 (r_f l G n v1856 r (j)) ln_X7_36 rfl rfl (Nat.le_of_ble_eq_true rfl) hl.1 ⟨Nat.le_of_ble_eq_true rfl, Nat.le_of_ble_eq_true rfl⟩ ⟨Nat.le_refl _, Nat.le_refl _⟩ dX7_burn_76 (fun x1862 H locs h1861 HX1863 => ?_)
        subst h1861
        refine lv_bipush (v := nI (6)) hx hb dX7_burn_79 (by decide) ?_
        refine fa_iaddN hx hb dX7_burn_81 ?_
        refine fa_iald (k := 398) (j := 17 + 15 * j + 6) CX HX1863 (by omega) rfl (by omega) (by first | decide | assumption) dX7_burn_82 ?_
        refine lv_iload_n hx hb dX7_burn_83 rfl (lv_at hl 2 rfl) ?_
        refine lv_icmp_ne (tgt := 91) hx hb dX7_burn_84 (by decide) (fun c_84 => ?_) (fun c_84 => ?_)
        · refine lv_aload_n hx hb dX7_burn_91 rfl (lv_at hl 0 rfl) ?_
          refine fa_getr (k := 397) (j := 398) CX HX1863 fl_X7_7 (by omega) rfl rfl hM.1 dX7_burn_92 ?_
          refine lv_iload_n hx hb dX7_burn_95 rfl (lv_at hl 3 rfl) ?_
          refine fa_callSip (As := [.int (nI (j))]) (rest := [.ref (fa_B G + (398)), .int (nI (17 + 15 * j + 6)), .ref (fa_B G + (398))]) CX HX1863 (r_f l G n v1856 r (j)) ln_X7_36 rfl rfl (Nat.le_of_ble_eq_true rfl) hl.1 ⟨Nat.le_of_ble_eq_true rfl, Nat.le_of_ble_eq_true rfl⟩ ⟨Nat.le_refl _, Nat.le_refl _⟩ dX7_burn_96 (fun x1865 H locs h1864 HX1866 => ?_)
          subst h1864
          refine lv_bipush (v := nI (6)) hx hb dX7_burn_99 (by decide) ?_
          refine fa_iaddN hx hb dX7_burn_101 ?_
          refine fa_iald (k := 398) (j := 17 + 15 * j + 6) CX HX1866 (by omega) rfl (by omega) (by first | decide | assumption) dX7_burn_102 ?_
          refine fa_iast (k := 398) (j := 17 + 15 * j + 6) CX HX1866 (by omega) rfl (by omega) (by first | decide | assumption) dX7_burn_103 (fun H locs v1867 e1868 HX1869 => ?_)
          refine lv_iinc (v := nI (j + 1)) (lv' := [(3, .int (nI (j + 1))), (0, .ref (fa_B G + (397))), (1, .int (nI (u))), (2, .int (v 398 (17 + 15 * u)))]) hx hb dX7_burn_104 hl (k := 3) rfl (nI_add (j) 1) (by decide) rfl (fun ls hl => ?_)
          refine lv_goto (tgt := 49) hx hb dX7_burn_107 (by decide) ?_
          exact ih_49 (j + 1) v1867 _ _ _ (by omega) (⟨by omega, (show fa_MS (v1867 398) from by rw [e1868]; exact fa_MS.u hi_49.2.1 (fa_ok.o (by omega) (by omega) (by omega) (fun p hp => by omega))), ((show v1867 398 14 = nI (n4) from (by rw [e1868, fa_u_n _ _ (by omega)]; exact ((hi_49.2.2.1).trans g4))).trans g4.symm), ((show v1867 398 15 = nI (n5) from (by rw [e1868, fa_u_n _ _ (by omega)]; exact ((hi_49.2.2.2.1).trans g5))).trans g5.symm), (by rw [e1868]; exact fa_fr.u (fa_fr.tr fa_fr.rf (fa_fr.wide hi_49.2.2.2.2.1 (by omega) (by omega))) (by omega)), hi_49.2.2.2.2.2.same e1868 rfl⟩) (lv_sub hl [1, 2, 3, 0] rfl) HX1869
        · refine lv_iconst (v := (-1 : Int32)) hx hb dX7_burn_87 (by decide) ?_
          refine lv_goto (tgt := 103) hx hb dX7_burn_88 (by decide) ?_
          refine fa_iast (k := 398) (j := 17 + 15 * j + 6) CX HX1863 (by omega) rfl (by omega) (by first | decide | assumption) dX7_burn_103 (fun H locs v1870 e1871 HX1872 => ?_)
          refine lv_iinc (v := nI (j + 1)) (lv' := [(3, .int (nI (j + 1))), (0, .ref (fa_B G + (397))), (1, .int (nI (u))), (2, .int (v 398 (17 + 15 * u)))]) hx hb dX7_burn_104 hl (k := 3) rfl (nI_add (j) 1) (by decide) rfl (fun ls hl => ?_)
          refine lv_goto (tgt := 49) hx hb dX7_burn_107 (by decide) ?_
          exact ih_49 (j + 1) v1870 _ _ _ (by omega) (⟨by omega, (show fa_MS (v1870 398) from by rw [e1871]; exact fa_MS.u hi_49.2.1 (fa_ok.o (by omega) (by omega) (by omega) (fun p hp => by omega))), ((show v1870 398 14 = nI (n4) from (by rw [e1871, fa_u_n _ _ (by omega)]; exact ((hi_49.2.2.1).trans g4))).trans g4.symm), ((show v1870 398 15 = nI (n5) from (by rw [e1871, fa_u_n _ _ (by omega)]; exact ((hi_49.2.2.2.1).trans g5))).trans g5.symm), (by rw [e1871]; exact fa_fr.u (fa_fr.tr fa_fr.rf (fa_fr.wide hi_49.2.2.2.2.1 (by omega) (by omega))) (by omega)), hi_49.2.2.2.2.2.w (by omega) e1871 (by first | exact c_84 | exact Decidable.not_not.mp c_84)⟩) (lv_sub hl [1, 2, 3, 0] rfl) HX1872
  exact LOOP_49 (n4 - 0 + 1) (0) v1853 _ _ _ (Nat.lt_succ_self _) (⟨Nat.zero_le _, (show fa_MS (v1853 398) from by rw [e1854]; exact fa_MS.u (show fa_MS (v1847 398) from by rw [e1848]; exact fa_MS.u hS_v1845 (fa_ok.o (by omega) (by omega) (by omega) (fun p hp => by omega))) (fa_ok.o (by omega) (by omega) (by omega) (fun p hp => by omega))), ((show v1853 398 14 = nI (n4) from (by rw [e1854, fa_u_n _ _ (by omega)]; exact (by rw [e1848, fa_u_n _ _ (by omega)]; exact ((h1844.1.2.1).trans g4)))).trans g4.symm), ((show v1853 398 15 = nI (n5) from (by rw [e1854, fa_u_n _ _ (by omega)]; exact (by rw [e1848, fa_u_n _ _ (by omega)]; exact ((h1844.1.2.2.1).trans g5)))).trans g5.symm), (by rw [e1854]; exact fa_fr.u (by rw [e1848]; exact fa_fr.u (fa_fr.tr fa_fr.rf (fa_fr.wide h1844.2 (by omega) (by omega))) (by omega)) (by omega)), fb_mBU.start hu h_leaveTrace e1848 e1854⟩) (lv_sub hl [2, 3, 1, 0] rfl) HX1855
/-! A BURNING in the reference's row -/
def fb_bS (A : fb_At) (w : Nat → Int32) : Prop := ∀ p, p < A.n → w p = if fb_stb A p = true then nI 1 else nI 0
theorem fb_bS.t {A : fb_At} {w : Nat → Int32} {p : Nat} (h : fb_bS A w) (hp : p < A.n) (c : ¬ w p = 0) : fb_stb A p = true := Decidable.byContradiction (fun z => c (by rw [h p hp, if_neg z]; rfl))
theorem fb_bS.f {A : fb_At} {w : Nat → Int32} {p : Nat} (h : fb_bS A w) (hp : p < A.n) (c : w p = 0) : ¬ fb_stb A p = true := fun z => by
  rw [h p hp, if_pos z] at c
  exact absurd c (by decide)
noncomputable def fb_bj (A : fb_At) (j : Nat) : Int32 × Int32 × Nat × (Nat → Nat → Int32) := fb_bt (fb_stb A) A.F (A.g 7) (A.m, A.T) j
def fb_bg (A : fb_At) (f : Nat → Int32) (j : Nat) : Prop := (∀ i, i < 14 → ¬ i = 9 → ¬ i = 10 → f i = A.g i) ∧ f 9 = A.g 9 + (fb_bj A j).1 ∧ f 10 = A.g 10 + (fb_bj A j).2.1 ∧ (∃ L, fb_mL f L ∧ L.Perm A.q) ∧ fb_mT f (fb_bj A j).2.2.1 (fb_bj A j).2.2.2
def fb_b1 (A : fb_At) (f : Nat → Int32) (x : Int32) (j : Nat) : Prop := x = (fb_bj A j).1 ∧ fb_bg A f j ∧ (∀ p i, p < A.n → i < 15 → ¬ i = 6 → f (17 + 15 * p + i) = A.F p i) ∧ ∀ p, p < A.n → fb_stb A p = true → f (17 + 15 * p + 6) = A.F p 6
def fb_b2 (A : fb_At) (f : Nat → Int32) (lf pl : Nat) : Prop := fb_bg A f A.n ∧ lf = (fb_kp (fb_stb A) A.F pl).1 ∧ (∀ p i, p < lf → i < 15 → f (17 + 15 * p + i) = (fb_kp (fb_stb A) A.F pl).2 p i) ∧ ∀ p i, pl ≤ p → p < A.n → fb_stb A p = true → i < 15 → f (17 + 15 * p + i) = A.F p i
def fb_b3 (A : fb_At) (f : Nat → Int32) (lf pl k : Nat) : Prop := fb_b2 A f lf pl ∧ ∀ i, i < k → i < 15 → f (17 + 15 * lf + i) = A.F pl i
theorem fb_bg.congr {A : fb_At} {f f1 : Nat → Int32} {j : Nat} (h : fb_bg A f j) (e : ∀ i, i < 14 ∨ i = 15 ∨ i = 16 ∨ 377 ≤ i → f1 i = f i) : fb_bg A f1 j := by
  obtain ⟨h1, h2, h3, ⟨L, h4, h5⟩, h6⟩ := h
  exact ⟨fun i a b c => by rw [e i (Or.inl a)]; exact h1 i a b c, by rw [e 9 (by decide)]; exact h2, by rw [e 10 (by decide)]; exact h3, ⟨L, h4.congr (fun i hi => e i (by omega)), h5⟩, h6.congr (fun i hi => e i (by omega))⟩
theorem fb_b1.start {A : fb_At} {f : Nat → Int32} (h : fb_mA f A) : fb_b1 A f (nI 0) 0 :=
  ⟨rfl, ⟨fun i hi _ _ => h.g hi, by rw [h.g (k := 9) (by decide)]; exact (Int32.add_zero _).symm, by rw [h.g (k := 10) (by decide)]; exact (Int32.add_zero _).symm, h.2.2.1, h.2.2.2⟩, fun p i hp hi _ => h.F hp hi, fun p hp _ => h.F hp (by decide)⟩
theorem fb_bj_t {A : fb_At} {j : Nat} (c : fb_stb A j = true) : fb_bj A (j + 1) = fb_bj A j := if_pos c
theorem fb_bj_f {A : fb_At} {j : Nat} (c : ¬ fb_stb A j = true) : fb_bj A (j + 1) = ((fb_bj A j).1 + nI 1, (fb_bj A j).2.1 + A.F j 2, fb_lv (A.g 7) (A.F j) (fb_bj A j).2.2) := if_neg c
theorem fb_b1.skip {A : fb_At} {f : Nat → Int32} {x : Int32} {j : Nat} (h : fb_b1 A f x j) (c : fb_stb A j = true) : fb_b1 A f x (j + 1) := by
  unfold fb_b1 fb_bg
  rw [fb_bj_t c]
  exact h
theorem fb_m_lvc {now : Int32} {x y : Nat → Int32} {f : Nat → Int32} {t : Nat × (Nat → Nat → Int32)} (e : ∀ i, i < 6 → x i = y i) (h : fb_mT f (fb_lv now x t).1 (fb_lv now x t).2) : fb_mT f (fb_lv now y t).1 (fb_lv now y t).2 := by
  unfold fb_lv at h ⊢
  by_cases z : t.1 = 12
  · rw [if_pos z] at h ⊢
    refine ⟨h.1, h.2.1, fun p i hp hi => ?_⟩
    rw [h.2.2 p i hp hi]
    show (if p = 11 then _ else _) = if p = 11 then _ else _
    rw [e 5 (by decide), e i (by omega)]
  · rw [if_neg z] at h ⊢
    refine ⟨h.1, h.2.1, fun p i hp hi => ?_⟩
    rw [h.2.2 p i hp hi]
    show (if p = t.1 then _ else _) = if p = t.1 then _ else _
    rw [e 5 (by decide), e i (by omega)]
theorem fb_b1.burn {A : fb_At} {f f1 : Nat → Int32} {x : Int32} {j : Nat} (hn : A.n ≤ 24) (h : fb_b1 A f x j) (hj : j < A.n) (c : ¬ fb_stb A j = true) (h15 : f1 15 = f 15) (hb : fb_mBU f f1 j) : fb_b1 A f1 (x + nI 1) (j + 1) := by
  obtain ⟨h1, ⟨g1, g2, g3, ⟨L, g4, g5⟩, g6⟩, h2, h3⟩ := h
  obtain ⟨b1, b2, b3, b4, b5, b6, b7⟩ := hb
  have e0 : f (17 + 15 * j) = A.F j 0 := h2 j 0 hj (by decide) (by decide)
  unfold fb_b1 fb_bg
  rw [fb_bj_f c]
  refine ⟨by rw [h1], ⟨fun i a b c => by rw [b1 i a b c]; exact g1 i a b c, ?_, ?_, ⟨L, g4.congr (fun i hi => ?_), g5⟩, ?_⟩, fun p i hp hi h6 => by rw [b5 p i (by omega) hi h6]; exact h2 p i hp hi h6, fun p hp hs => ?_⟩
  · rw [b2, g2, Int32.add_assoc]
  · rw [b3, g3, h2 j 2 hj (by decide) (by decide), Int32.add_assoc]
  · rcases hi with z | z
    · rw [z]; exact h15
    · exact b4 i z.1 z.2
  · have z := b7 _ _ g6
    rw [g1 7 (by decide) (by decide) (by decide)] at z
    exact fb_m_lvc (fun i hi => h2 j i hj (by omega) (by omega)) z
  · rw [b6 p (by omega) (fun z => ?_)]
    · exact h3 p hp hs
    · rw [h3 p hp hs, e0] at z
      exact c (fb_stb_t.mpr (fb_stay.clos.2 p j hp hj (fb_stb_t.mp hs) z.symm))
theorem fb_b1.two {A : fb_At} {f : Nat → Int32} {x : Int32} (h : fb_b1 A f x A.n) : fb_b2 A f 0 0 :=
  ⟨h.2.1, rfl, fun p i hp => absurd hp (Nat.not_lt_zero _), fun p i _ hp hs hi => by
    by_cases z : i = 6
    · rw [z]; exact h.2.2.2 p hp hs
    · exact h.2.2.1 p i hp hi z⟩
theorem fb_b2.skip {A : fb_At} {f : Nat → Int32} {lf pl : Nat} (h : fb_b2 A f lf pl) (c : ¬ fb_stb A pl = true) : fb_b2 A f lf (pl + 1) := by
  have e : fb_kp (fb_stb A) A.F (pl + 1) = fb_kp (fb_stb A) A.F pl := if_neg c
  unfold fb_b2
  rw [e]
  exact ⟨h.1, h.2.1, h.2.2.1, fun p i hp => h.2.2.2 p i (by omega)⟩
theorem fb_b2.three {A : fb_At} {f : Nat → Int32} {lf pl : Nat} (h : fb_b2 A f lf pl) : fb_b3 A f lf pl 0 := ⟨h, fun i hi => absurd hi (Nat.not_lt_zero _)⟩
theorem fb_b3.s {A : fb_At} {w w1 : fa_V} {lf pl k : Nat} (hn : A.n ≤ 24) (hl : lf ≤ pl) (hp : pl < A.n) (c : fb_stb A pl = true) (hk : k < 15) (h : fb_b3 A (w 398) lf pl k) (e : w1 = fa_u w 398 (17 + 15 * lf + k) (w 398 (17 + 15 * pl + k))) : fb_b3 A (w1 398) lf pl (k + 1) := by
  obtain ⟨⟨h1, h2, h3, h4⟩, h5⟩ := h
  have a : ∀ i, ¬ i = 17 + 15 * lf + k → w1 398 i = w 398 i := fun i hi => by rw [e]; exact fa_u_n _ _ (fun z => hi z.2)
  have s : w1 398 (17 + 15 * lf + k) = A.F pl k := by rw [e, fa_u_s]; exact h4 pl k (Nat.le_refl _) hp c hk
  refine ⟨⟨h1.congr (fun i hi => a i (by omega)), h2, fun p i hp hi => by rw [a _ (by omega)]; exact h3 p i hp hi, fun p i h hpn hs hi => ?_⟩, fun i hi h15 => ?_⟩
  · by_cases z : p = lf ∧ i = k
    · have : p = pl := by omega
      rw [z.1, z.2, s, ← this, z.1]
    · rw [a _ (by omega)]; exact h4 p i h hpn hs hi
  · by_cases z : i = k
    · rw [z]; exact s
    · rw [a _ (by omega)]; exact h5 i (by omega) h15
theorem fb_b3.e {A : fb_At} {f : Nat → Int32} {lf pl : Nat} (h : fb_b3 A f lf pl 15) (c : fb_stb A pl = true) : fb_b2 A f (lf + 1) (pl + 1) := by
  obtain ⟨⟨h1, h2, h3, h4⟩, h5⟩ := h
  have e : fb_kp (fb_stb A) A.F (pl + 1) = ((fb_kp (fb_stb A) A.F pl).1 + 1, fun p i => if p = (fb_kp (fb_stb A) A.F pl).1 then A.F pl i else (fb_kp (fb_stb A) A.F pl).2 p i) := if_pos c
  unfold fb_b2
  rw [e, ← h2]
  refine ⟨h1, rfl, fun p i hp hi => ?_, fun p i hp => h4 p i (by omega)⟩
  show _ = if p = lf then _ else _
  by_cases z : p = lf
  · rw [if_pos z, z]; exact h5 i hi hi
  · rw [if_neg z]; exact h3 p i (by omega) hi
theorem fb_kp_n (P : Nat → Bool) (F : Nat → Nat → Int32) : ∀ n, (fb_kp P F n).1 ≤ n
  | 0 => Nat.le_refl _
  | n + 1 => by
    have := fb_kp_n P F n
    rw [fb_kp]
    split
    · show (fb_kp P F n).1 + 1 ≤ n + 1; omega
    · omega
theorem fb_b2.e {A : fb_At} {w w1 w2 : fa_V} {lf : Nat} (hn : A.n ≤ 24) (h : fb_b2 A (w 398) lf A.n) (e1 : w1 = fa_u w 398 14 (nI lf)) (e2 : w2 = fa_u w1 398 13 (w1 398 13 + nI 1)) : fb_mA (w2 398) (fb_burnA A).2 := by
  obtain ⟨⟨g1, g2, g3, ⟨L, g4, g5⟩, g6⟩, h2, h3, -⟩ := h
  have hl := fb_kp_n (fb_stb A) A.F A.n
  have a1 : ∀ i, ¬ i = 14 → w1 398 i = w 398 i := fun i hi => by rw [e1]; exact fa_u_n _ _ (fun z => hi z.2)
  have a2 : ∀ i, ¬ i = 13 → w2 398 i = w1 398 i := fun i hi => by rw [e2]; exact fa_u_n _ _ (fun z => hi z.2)
  have a : ∀ i, ¬ i = 13 → ¬ i = 14 → w2 398 i = w 398 i := fun i x y => by rw [a2 i x, a1 i y]
  refine ⟨fun k hk => ?_, ⟨?_, ?_, fun p i hp hi => ?_⟩, ⟨L, g4.congr (fun i hi => a i (by omega) (by omega)), g5⟩, g6.congr (fun i hi => a i (by omega) (by omega))⟩
  · show _ = fb_s1 (fb_s1 (fb_s1 A.g 9 (A.g 9 + (fb_bj A A.n).1)) 10 (A.g 10 + (fb_bj A A.n).2.1)) 13 (A.g 13 + nI 1) k
    by_cases z13 : k = 13
    · rw [z13, fb_s1_s, e2, fa_u_s, a1 13 (by decide), g1 13 (by decide) (by decide) (by decide)]
    · rw [fb_s1_n z13, a k z13 (by omega)]
      by_cases z10 : k = 10
      · rw [z10, fb_s1_s]; exact g3
      · rw [fb_s1_n z10]
        by_cases z9 : k = 9
        · rw [z9, fb_s1_s]; exact g2
        · rw [fb_s1_n z9]; exact g1 k hk z9 z10
  · show (fb_kp (fb_stb A) A.F A.n).1 ≤ 24; omega
  · rw [a2 14 (by decide), e1, fa_u_s, h2]; rfl
  · have hp' : p < (fb_kp (fb_stb A) A.F A.n).1 := hp
    rw [a _ (by omega) (by omega)]
    exact h3 p i (by rw [h2]; exact hp') hi
/-! ASKING; A RESERVATION GOES, in the reference's row -/
theorem fb_m_ask {v v1 v2 v3 : fa_V} {p : Nat} {A : fb_At} (h : fb_mA (v 398) A) (hp : p < A.n) (e1 : v1 = fa_u v 398 (17 + 15 * p + 4) (v 398 7)) (e2 : v2 = fa_u v1 398 (17 + 15 * p + 5) (v1 398 (17 + 15 * p + 5) + nI 1)) (e3 : v3 = fa_u v2 398 11 (v2 398 11 + nI 1)) :
    v3 398 (17 + 15 * p + 5) = A.F p 5 + nI 1 ∧ fb_mA (v3 398) (fb_askp A p) ∧ ∀ i, i = 15 ∨ 377 ≤ i → v3 398 i = v 398 i := by
  have m1 : fb_mA (v1 398) (A.sF p 4 (A.g 7)) := by
    rw [e1, h.g (k := 7) (by decide)]; exact h.uF hp (by decide)
  have q5 : v1 398 (17 + 15 * p + 5) = A.F p 5 := by
    rw [e1, fa_u_n _ _ (by omega)]; exact h.F hp (by decide)
  have m2 : fb_mA (v2 398) ((A.sF p 4 (A.g 7)).sF p 5 (A.F p 5 + nI 1)) := by
    rw [e2, q5]; exact m1.uF (A := A.sF p 4 (A.g 7)) hp (by decide)
  have q11 : v2 398 11 = A.g 11 := m2.g (k := 11) (by decide)
  have hn := h.2.1.1
  refine ⟨?_, ?_, fun i hi => by rw [e3, fa_u_n _ _ (by omega), e2, fa_u_n _ _ (by omega), e1, fa_u_n _ _ (by omega)]⟩
  · rw [e3, fa_u_n _ _ (by omega), e2, fa_u_s, q5]
  · rw [e3, q11]; exact m2.ug (by decide)
def fb_mRM (f f1 : Nat → Int32) (u : Nat) : Prop := (∀ i, ¬ i = 15 → ¬ (377 ≤ i ∧ i < 393) → f1 i = f i) ∧ ∀ L, fb_mL f L → u < L.length → fb_mL f1 (L.eraseIdx u)
theorem fb_m_rsh {v w w1 : fa_V} {k u : Nat} (h3 : 377 + 2 * u ≤ k) (h : ∀ i, w 398 i = if 377 + 2 * u ≤ i ∧ i < k then v 398 (i + 2) else v 398 i) (e : w1 = fa_u w 398 k (w 398 (k + 2))) : ∀ i, w1 398 i = if 377 + 2 * u ≤ i ∧ i < k + 1 then v 398 (i + 2) else v 398 i := fun i => by
  by_cases z : i = k
  · rw [if_pos (by omega), z, e, fa_u_s, h (k + 2), if_neg (by omega)]
  · rw [e, fa_u_n _ _ (fun y => z y.2), h i]
    by_cases y : 377 + 2 * u ≤ i ∧ i < k
    · rw [if_pos y, if_pos (by omega)]
    · rw [if_neg y, if_neg (by omega)]
theorem fb_m_rem {v w w1 : fa_V} {k u n5 : Nat} (hn : n5 ≤ 8) (g5 : v 398 15 = nI n5) (hu : u < n5) (h1 : 377 + 2 * u ≤ k) (hk : 377 + 2 * n5 - 2 ≤ k) (hk2 : k ≤ 377 + 2 * n5 - 2) (h : ∀ i, w 398 i = if 377 + 2 * u ≤ i ∧ i < k then v 398 (i + 2) else v 398 i) (e : w1 = fa_u w 398 15 (nI (n5 - 1))) : fb_mRM (v 398) (w1 398) u := by
  refine ⟨fun i a b => by rw [e, fa_u_n _ _ (fun z => a z.2), h i, if_neg (by omega)], fun L hL hul => ?_⟩
  have en : L.length = n5 := fa_nIinj (by have := hL.2.1; omega) (by omega) (hL.1.symm.trans g5)
  have el : (L.eraseIdx u).length = n5 - 1 := by rw [List.length_eraseIdx, if_pos hul, en]
  refine ⟨by rw [e, fa_u_s, el], by rw [el]; omega, fun p y hy => ?_⟩
  have hp : p < n5 - 1 := by rw [← el]; exact (List.getElem?_eq_some_iff.mp hy).1
  rw [List.getElem?_eraseIdx] at hy
  rw [e, fa_u_n _ _ (by omega), fa_u_n _ _ (by omega), h, h]
  by_cases z : p < u
  · rw [if_pos z] at hy
    rw [if_neg (by omega), if_neg (by omega)]
    exact hL.2.2 p y hy
  · rw [if_neg z] at hy
    rw [if_pos (by omega), if_pos (by omega)]
    exact hL.2.2 (p + 1) y hy
