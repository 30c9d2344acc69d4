set_option maxHeartbeats 4000000 in
set_option maxRecDepth 100000 in
theorem r_leaveTrace (l : Launch) (G : fa_G) (n : Nat) (hn : 406 ≤ n) (v : fa_V) (r : fa_R) (hM : fa_RM r) (hS : fa_MS (v 398)) (u : Nat) (hu : u < 24) : fa_MV l G n yX7_leaveTrace cX7_leaveTrace 3 2 [.ref (fa_B G + (397)), .int (nI (u))] v r (fa_vo r (fun v1 => ((fa_MS (v1 398)) ∧ (v1 398 14 = v 398 14) ∧ (v1 398 15 = v 398 15)) ∧ (fa_fr (398) (399) v v1))) := by
  refine fa_startV (by decide +kernel) (Nat.le_of_ble_eq_true rfl) (fun p e s m args below meth c ls Q CX hl HX RET => ?_)
  have hl : lv_has ls 3 [(0, .ref (fa_B G + (397))), (1, .int (nI (u)))] := hl
  have hx := CX.1.1
  have hb := CX.1.2.1
  obtain ⟨n4, en4⟩ : ∃ m, m = fa_N (v 398 14) := ⟨_, rfl⟩
  obtain ⟨hn4, g4⟩ := hS.n4 en4
  obtain ⟨n5, en5⟩ : ∃ m, m = fa_N (v 398 15) := ⟨_, rfl⟩
  obtain ⟨hn5, g5⟩ := hS.n5 en5
  obtain ⟨n6, en6⟩ : ∃ m, m = fa_N (v 398 16) := ⟨_, rfl⟩
  obtain ⟨hn6, g6⟩ := hS.n6 en6
  refine lv_aload_n hx hb dX7_leaveTrace_0 rfl (lv_at hl 0 rfl) ?_
  refine fa_getr (k := 397) (j := 398) CX HX fl_X7_7 (by omega) rfl rfl hM.1 dX7_leaveTrace_1 ?_
  refine lv_bipush (v := nI (16)) hx hb dX7_leaveTrace_4 (by decide) ?_
  refine fa_iald (k := 398) (j := 16) CX HX (by omega) rfl (by omega) (by first | decide | assumption) dX7_leaveTrace_6 ?_
  rw [show v 398 16 = nI (n6) from g6]
  refine lv_bipush (v := nI (12)) hx hb dX7_leaveTrace_7 (by decide) ?_
  refine lv_icmp_ne (tgt := 54) hx hb dX7_leaveTrace_9 (by decide) (fun c_9 => ?_) (fun c_9 => ?_)
  · have hne : ¬ n6 = 12 := fun z => c_9 (by rw [z])
    refine lv_sipush (v := nI (393)) hx hb dX7_leaveTrace_54 (by decide) ?_
    refine lv_iconst (v := nI (5)) hx hb dX7_leaveTrace_57 (by decide) ?_
    refine lv_aload_n hx hb dX7_leaveTrace_58 rfl (lv_at hl 0 rfl) ?_
    refine fa_getr (k := 397) (j := 398) CX HX fl_X7_7 (by omega) rfl rfl hM.1 dX7_leaveTrace_59 ?_
    refine lv_bipush (v := nI (16)) hx hb dX7_leaveTrace_62 (by decide) ?_
    refine fa_iald (k := 398) (j := 16) CX HX (by omega) rfl (by omega) (by first | decide | assumption) dX7_leaveTrace_64 ?_
    rw [show v 398 16 = nI (n6) from g6]
    refine fa_imulN hx hb dX7_leaveTrace_65 ?_
    refine fa_iaddN hx hb dX7_leaveTrace_66 ?_
    refine lv_istore_n (lv' := [(2, .int (nI (393 + (5 * n6)))), (0, .ref (fa_B G + (397))), (1, .int (nI (u)))]) hx hb dX7_leaveTrace_67 rfl hl (by decide) rfl (fun ls hl => ?_)
    refine lv_aload_n hx hb dX7_leaveTrace_68 rfl (lv_at hl 1 rfl) ?_
    refine fa_getr (k := 397) (j := 398) CX HX fl_X7_7 (by omega) rfl rfl hM.1 dX7_leaveTrace_69 ?_
    refine lv_iload_n hx hb dX7_leaveTrace_72 rfl (lv_at hl 0 rfl) ?_
    refine lv_aload_n hx hb dX7_leaveTrace_73 rfl (lv_at hl 1 rfl) ?_
    refine fa_getr (k := 397) (j := 398) CX HX fl_X7_7 (by omega) rfl rfl hM.1 dX7_leaveTrace_74 ?_
    refine lv_iload_n hx hb dX7_leaveTrace_77 rfl (lv_at hl 2 rfl) ?_
    refine fa_callSip (As := [.int (nI (u))]) (rest := [.ref (fa_B G + (398)), .int (nI (393 + (5 * n6))), .ref (fa_B G + (398))]) CX HX (r_f l G n v r (u)) ln_X7_36 rfl rfl (Nat.le_of_ble_eq_true rfl) hl.1 ⟨Nat.le_of_ble_eq_true rfl, Nat.le_of_ble_eq_true rfl⟩ ⟨Nat.le_refl _, Nat.le_refl _⟩ dX7_leaveTrace_78 (fun x1779 H locs h1778 HX1780 => ?_)
    subst h1778
    refine fa_iald (k := 398) (j := 17 + 15 * u) CX HX1780 (by omega) rfl (by omega) (by first | decide | assumption) dX7_leaveTrace_81 ?_
    refine fa_iast (k := 398) (j := 393 + (5 * n6)) CX HX1780 (by omega) rfl (by omega) (by first | decide | assumption) dX7_leaveTrace_82 (fun H locs v1781 e1782 HX1783 => ?_)
    refine lv_aload_n hx hb dX7_leaveTrace_83 rfl (lv_at hl 1 rfl) ?_
    refine fa_getr (k := 397) (j := 398) CX HX1783 fl_X7_7 (by omega) rfl rfl hM.1 dX7_leaveTrace_84 ?_
    refine lv_iload_n hx hb dX7_leaveTrace_87 rfl (lv_at hl 0 rfl) ?_
    refine lv_iconst (v := nI (1)) hx hb dX7_leaveTrace_88 (by decide) ?_
    refine fa_iaddN hx hb dX7_leaveTrace_89 ?_
    refine lv_aload_n hx hb dX7_leaveTrace_90 rfl (lv_at hl 1 rfl) ?_
    refine fa_getr (k := 397) (j := 398) CX HX1783 fl_X7_7 (by omega) rfl rfl hM.1 dX7_leaveTrace_91 ?_
    refine lv_iload_n hx hb dX7_leaveTrace_94 rfl (lv_at hl 2 rfl) ?_
    refine fa_callSip (As := [.int (nI (u))]) (rest := [.ref (fa_B G + (398)), .int (nI (393 + (5 * n6) + 1)), .ref (fa_B G + (398))]) CX HX1783 (r_f l G n v1781 r (u)) ln_X7_36 rfl rfl (Nat.le_of_ble_eq_true rfl) hl.1 ⟨Nat.le_of_ble_eq_true rfl, Nat.le_of_ble_eq_true rfl⟩ ⟨Nat.le_refl _, Nat.le_refl _⟩ dX7_leaveTrace_95 (fun x1785 H locs h1784 HX1786 => ?_)
    subst h1784
    refine lv_iconst (v := nI (1)) hx hb dX7_leaveTrace_98 (by decide) ?_
    refine fa_iaddN hx hb dX7_leaveTrace_99 ?_
    refine fa_iald (k := 398) (j := 17 + 15 * u + 1) CX HX1786 (by omega) rfl (by omega) (by first | decide | assumption) dX7_leaveTrace_100 ?_
    refine fa_iast (k := 398) (j := 393 + (5 * n6) + 1) CX HX1786 (by omega) rfl (by omega) (by first | decide | assumption) dX7_leaveTrace_101 (fun H locs v1787 e1788 HX1789 => ?_)
    refine lv_aload_n hx hb dX7_leaveTrace_102 rfl (lv_at hl 1 rfl) ?_
    refine fa_getr (k := 397) (j := 398) CX HX1789 fl_X7_7 (by omega) rfl rfl hM.1 dX7_leaveTrace_103 ?_
    refine lv_iload_n hx hb dX7_leaveTrace_106 rfl (lv_at hl 0 rfl) ?_
    refine lv_iconst (v := nI (2)) hx hb dX7_leaveTrace_107 (by decide) ?_
    refine fa_iaddN hx hb dX7_leaveTrace_108 ?_
    refine lv_aload_n hx hb dX7_leaveTrace_109 rfl (lv_at hl 1 rfl) ?_
    refine fa_getr (k := 397) (j := 398) CX HX1789 fl_X7_7 (by omega) rfl rfl hM.1 dX7_leaveTrace_110 ?_
    refine lv_iload_n hx hb dX7_leaveTrace_113 rfl (lv_at hl 2 rfl) ?_
    refine fa_callSip (As := [.int (nI (u))]) (rest := [.ref (fa_B G + (398)), .int (nI (393 + (5 * n6) + 2)), .ref (fa_B G + (398))]) CX HX1789 (r_f l G n v1787 r (u)) ln_X7_36 rfl rfl (Nat.le_of_ble_eq_true rfl) hl.1 ⟨Nat.le_of_ble_eq_true rfl, Nat.le_of_ble_eq_true rfl⟩ ⟨Nat.le_refl _, Nat.le_refl _⟩ dX7_leaveTrace_114 (fun x1791 H locs h1790 HX1792 => ?_)
    subst h1790
    refine lv_iconst (v := nI (2)) hx hb dX7_leaveTrace_117 (by decide) ?_
    refine fa_iaddN hx hb dX7_leaveTrace_118 ?_
    refine fa_iald (k := 398) (j := 17 + 15 * u + 2) CX HX1792 (by omega) rfl (by omega) (by first | decide | assumption) dX7_leaveTrace_119 ?_
    refine fa_iast (k := 398) (j := 393 + (5 * n6) + 2) CX HX1792 (by omega) rfl (by omega) (by first | decide | assumption) dX7_leaveTrace_120 (fun H locs v1793 e1794 HX1795 => ?_)
    refine lv_aload_n hx hb dX7_leaveTrace_121 rfl (lv_at hl 1 rfl) ?_
    refine fa_getr (k := 397) (j := 398) CX HX1795 fl_X7_7 (by omega) rfl rfl hM.1 dX7_leaveTrace_122 ?_
    refine lv_iload_n hx hb dX7_leaveTrace_125 rfl (lv_at hl 0 rfl) ?_
    refine lv_iconst (v := nI (3)) hx hb dX7_leaveTrace_126 (by decide) ?_
    refine fa_iaddN hx hb dX7_leaveTrace_127 ?_
    refine lv_aload_n hx hb dX7_leaveTrace_128 rfl (lv_at hl 1 rfl) ?_
    refine fa_getr (k := 397) (j := 398) CX HX1795 fl_X7_7 (by omega) rfl rfl hM.1 dX7_leaveTrace_129 ?_
    refine lv_bipush (v := nI (7)) hx hb dX7_leaveTrace_132 (by decide) ?_
    refine fa_iald (k := 398) (j := 7) CX HX1795 (by omega) rfl (by omega) (by first | decide | assumption) dX7_leaveTrace_134 ?_
    refine fa_iast (k := 398) (j := 393 + (5 * n6) + 3) CX HX1795 (by omega) rfl (by omega) (by first | decide | assumption) dX7_leaveTrace_135 (fun H locs v1796 e1797 HX1798 => ?_)
    refine lv_aload_n hx hb dX7_leaveTrace_136 rfl (lv_at hl 1 rfl) ?_
    refine fa_getr (k := 397) (j := 398) CX HX1798 fl_X7_7 (by omega) rfl rfl hM.1 dX7_leaveTrace_137 ?_
    refine lv_iload_n hx hb dX7_leaveTrace_140 rfl (lv_at hl 0 rfl) ?_
    refine lv_iconst (v := nI (4)) hx hb dX7_leaveTrace_141 (by decide) ?_
    refine fa_iaddN hx hb dX7_leaveTrace_142 ?_
    refine lv_aload_n hx hb dX7_leaveTrace_143 rfl (lv_at hl 1 rfl) ?_
    refine fa_getr (k := 397) (j := 398) CX HX1798 fl_X7_7 (by omega) rfl rfl hM.1 dX7_leaveTrace_144 ?_
    refine lv_iload_n hx hb dX7_leaveTrace_147 rfl (lv_at hl 2 rfl) ?_
    refine fa_callSip (As := [.int (nI (u))]) (rest := [.ref (fa_B G + (398)), .int (nI (393 + (5 * n6) + 4)), .ref (fa_B G + (398))]) CX HX1798 (r_f l G n v1796 r (u)) ln_X7_36 rfl rfl (Nat.le_of_ble_eq_true rfl) hl.1 ⟨Nat.le_of_ble_eq_true rfl, Nat.le_of_ble_eq_true rfl⟩ ⟨Nat.le_refl _, Nat.le_refl _⟩ dX7_leaveTrace_148 (fun x1800 H locs h1799 HX1801 => ?_)
    subst h1799
    refine lv_iconst (v := nI (5)) hx hb dX7_leaveTrace_151 (by decide) ?_
    refine fa_iaddN hx hb dX7_leaveTrace_152 ?_
    refine fa_iald (k := 398) (j := 17 + 15 * u + 5) CX HX1801 (by omega) rfl (by omega) (by first | decide | assumption) dX7_leaveTrace_153 ?_
    refine fa_iast (k := 398) (j := 393 + (5 * n6) + 4) CX HX1801 (by omega) rfl (by omega) (by first | decide | assumption) dX7_leaveTrace_154 (fun H locs v1802 e1803 HX1804 => ?_)
    refine lv_aload_n hx hb dX7_leaveTrace_155 rfl (lv_at hl 1 rfl) ?_
    refine fa_getr (k := 397) (j := 398) CX HX1804 fl_X7_7 (by omega) rfl rfl hM.1 dX7_leaveTrace_156 ?_
    refine lv_bipush (v := nI (16)) hx hb dX7_leaveTrace_159 (by decide) ?_
    refine lv_dup2_11 hx hb dX7_leaveTrace_161 rfl rfl ?_
    refine fa_iald (k := 398) (j := 16) CX HX1804 (by omega) rfl (by omega) (by first | decide | assumption) dX7_leaveTrace_162 ?_
    rw [show v1802 398 16 = nI (n6) from (by rw [e1803, fa_u_n _ _ (by omega)]; exact (by rw [e1797, fa_u_n _ _ (by omega)]; exact (by rw [e1794, fa_u_n _ _ (by omega)]; exact (by rw [e1788, fa_u_n _ _ (by omega)]; exact (by rw [e1782, fa_u_n _ _ (by omega)]; exact g6)))))]
    refine lv_iconst (v := nI (1)) hx hb dX7_leaveTrace_163 (by decide) ?_
    refine fa_iaddN hx hb dX7_leaveTrace_164 ?_
    refine fa_iast (k := 398) (j := 16) CX HX1804 (by omega) rfl (by omega) (by first | decide | assumption) dX7_leaveTrace_165 (fun H locs v1805 e1806 HX1807 => ?_)
    exact RET _ _ _ _ _ _ HX1807 dX7_leaveTrace_166 (⟨rfl, ⟨⟨(show fa_MS (v1805 398) from by rw [e1806]; exact fa_MS.u (show fa_MS (v1802 398) from by rw [e1803]; exact fa_MS.u (show fa_MS (v1796 398) from by rw [e1797]; exact fa_MS.u (show fa_MS (v1793 398) from by rw [e1794]; exact fa_MS.u (show fa_MS (v1787 398) from by rw [e1788]; exact fa_MS.u (show fa_MS (v1781 398) from by rw [e1782]; exact fa_MS.u hS (fa_ok.o (by omega) (by omega) (by omega) (fun p hp => by omega))) (fa_ok.o (by omega) (by omega) (by omega) (fun p hp => by omega))) (fa_ok.o (by omega) (by omega) (by omega) (fun p hp => by omega))) (fa_ok.o (by omega) (by omega) (by omega) (fun p hp => by omega))) (fa_ok.o (by omega) (by omega) (by omega) (fun p hp => by omega))) (fa_ok.n16 (by omega))), (show v1805 398 14 = v 398 14 from ((show v1805 398 14 = nI (n4) from (by rw [e1806, fa_u_n _ _ (by omega)]; exact (by rw [e1803, fa_u_n _ _ (by omega)]; exact (by rw [e1797, fa_u_n _ _ (by omega)]; exact (by rw [e1794, fa_u_n _ _ (by omega)]; exact (by rw [e1788, fa_u_n _ _ (by omega)]; exact (by rw [e1782, fa_u_n _ _ (by omega)]; exact g4))))))).trans g4.symm)), (show v1805 398 15 = v 398 15 from ((show v1805 398 15 = nI (n5) from (by rw [e1806, fa_u_n _ _ (by omega)]; exact (by rw [e1803, fa_u_n _ _ (by omega)]; exact (by rw [e1797, fa_u_n _ _ (by omega)]; exact (by rw [e1794, fa_u_n _ _ (by omega)]; exact (by rw [e1788, fa_u_n _ _ (by omega)]; exact (by rw [e1782, fa_u_n _ _ (by omega)]; exact g5))))))).trans g5.symm))⟩, (by rw [e1806]; exact fa_fr.u (by rw [e1803]; exact fa_fr.u (by rw [e1797]; exact fa_fr.u (by rw [e1794]; exact fa_fr.u (by rw [e1788]; exact fa_fr.u (by rw [e1782]; exact fa_fr.u fa_fr.rf (by omega)) (by omega)) (by omega)) (by omega)) (by omega)) (by omega))⟩⟩)
  · have he : n6 = 12 := fa_nIinj (by omega) (by omega) c_9
    refine lv_sipush (v := nI (393)) hx hb dX7_leaveTrace_12 (by decide) ?_
    refine lv_istore_n (lv' := [(2, .int (nI (393))), (0, .ref (fa_B G + (397))), (1, .int (nI (u)))]) hx hb dX7_leaveTrace_15 rfl hl (by decide) rfl (fun ls hl => ?_)
    have LOOP_16 : ∀ (fu : Nat) (k : Nat) (v1808 : fa_V) (H : Heap) (locs : List Loc) (ls : Array Slot), 448 - k < fu → ((393 ≤ k ∧ k ≤ 448) ∧ fa_MS (v1808 398) ∧ v1808 398 14 = v 398 14 ∧ v1808 398 15 = v 398 15 ∧ v1808 398 16 = v 398 16 ∧ fa_fr 398 399 v v1808) → lv_has ls 3 [(0, .ref (fa_B G + (397))), (1, .int (nI (u))), (2, .int (nI (k)))] → fa_HX G (n) v1808 r s H locs → W p l e (fa_rm 2) s m args below meth c H locs (0) (0) Q (F0 m 16 ls []) := by
      intro fu
      induction fu with
      | zero => intro k v1808 H locs ls hk; exact absurd hk (Nat.not_lt_zero _)
      | succ fu ih_16 =>
        intro k v1808 H locs ls hk_16 hi_16 hl HX1809
        refine lv_iload_n hx hb dX7_leaveTrace_16 rfl (lv_at hl 2 rfl) ?_
        refine lv_sipush (v := nI (448)) hx hb dX7_leaveTrace_17 (by decide) ?_
        refine lv_icmp_ge (tgt := 43) hx hb dX7_leaveTrace_20 (by decide) (fun c_20 => ?_) (fun c_20 => ?_)
        · refine lv_aload_n hx hb dX7_leaveTrace_43 rfl (lv_at hl 0 rfl) ?_
          refine fa_getr (k := 397) (j := 398) CX HX1809 fl_X7_7 (by omega) rfl rfl hM.1 dX7_leaveTrace_44 ?_
          refine lv_bipush (v := nI (16)) hx hb dX7_leaveTrace_47 (by decide) ?_
          refine lv_dup2_11 hx hb dX7_leaveTrace_49 rfl rfl ?_
          refine fa_iald (k := 398) (j := 16) CX HX1809 (by omega) rfl (by omega) (by first | decide | assumption) dX7_leaveTrace_50 ?_
          rw [show v1808 398 16 = nI (n6) from ((hi_16.2.2.2.2.1).trans g6)]
          refine lv_iconst (v := nI (1)) hx hb dX7_leaveTrace_51 (by decide) ?_
          refine fa_isubN hx hb dX7_leaveTrace_52 (by omega) ?_
          refine fa_iast (k := 398) (j := 16) CX HX1809 (by omega) rfl (by omega) (by first | decide | assumption) dX7_leaveTrace_53 (fun H locs v1810 e1811 HX1812 => ?_)
          refine lv_sipush (v := nI (393)) hx hb dX7_leaveTrace_54 (by decide) ?_
          refine lv_iconst (v := nI (5)) hx hb dX7_leaveTrace_57 (by decide) ?_
          refine lv_aload_n hx hb dX7_leaveTrace_58 rfl (lv_at hl 0 rfl) ?_
          refine fa_getr (k := 397) (j := 398) CX HX1812 fl_X7_7 (by omega) rfl rfl hM.1 dX7_leaveTrace_59 ?_
          refine lv_bipush (v := nI (16)) hx hb dX7_leaveTrace_62 (by decide) ?_
          refine fa_iald (k := 398) (j := 16) CX HX1812 (by omega) rfl (by omega) (by first | decide | assumption) dX7_leaveTrace_64 ?_
          rw [show v1810 398 16 = nI (n6 - 1) from (by rw [e1811, fa_u_s])]
          refine fa_imulN hx hb dX7_leaveTrace_65 ?_
          refine fa_iaddN hx hb dX7_leaveTrace_66 ?_
          refine lv_istore_n (lv' := [(2, .int (nI (393 + (5 * (n6 - 1))))), (0, .ref (fa_B G + (397))), (1, .int (nI (u)))]) hx hb dX7_leaveTrace_67 rfl hl (by decide) rfl (fun ls hl => ?_)
          refine lv_aload_n hx hb dX7_leaveTrace_68 rfl (lv_at hl 1 rfl) ?_
          refine fa_getr (k := 397) (j := 398) CX HX1812 fl_X7_7 (by omega) rfl rfl hM.1 dX7_leaveTrace_69 ?_
          refine lv_iload_n hx hb dX7_leaveTrace_72 rfl (lv_at hl 0 rfl) ?_
          refine lv_aload_n hx hb dX7_leaveTrace_73 rfl (lv_at hl 1 rfl) ?_
          refine fa_getr (k := 397) (j := 398) CX HX1812 fl_X7_7 (by omega) rfl rfl hM.1 dX7_leaveTrace_74 ?_
          refine lv_iload_n hx hb dX7_leaveTrace_77 rfl (lv_at hl 2 rfl) ?_
          refine fa_callSip (As := [.int (nI (u))]) (rest := [.ref (fa_B G + (398)), .int (nI (393 + (5 * (n6 - 1)))), .ref (fa_B G + (398))]) CX HX1812 (r_f l G n v1810 r (u)) ln_X7_36 rfl rfl (Nat.le_of_ble_eq_true rfl) hl.1 ⟨Nat.le_of_ble_eq_true rfl, Nat.le_of_ble_eq_true rfl⟩ ⟨Nat.le_refl _, Nat.le_refl _⟩ dX7_leaveTrace_78 (fun x1814 H locs h1813 HX1815 => ?_)
          subst h1813
          refine fa_iald (k := 398) (j := 17 + 15 * u) CX HX1815 (by omega) rfl (by omega) (by first | decide | assumption) dX7_leaveTrace_81 ?_
          refine fa_iast (k := 398) (j := 393 + (5 * (n6 - 1))) CX HX1815 (by omega) rfl (by omega) (by first | decide | assumption) dX7_leaveTrace_82 (fun H locs v1816 e1817 HX1818 => ?_)
          refine lv_aload_n hx hb dX7_leaveTrace_83 rfl (lv_at hl 1 rfl) ?_
          refine fa_getr (k := 397) (j := 398) CX HX1818 fl_X7_7 (by omega) rfl rfl hM.1 dX7_leaveTrace_84 ?_
          refine lv_iload_n hx hb dX7_leaveTrace_87 rfl (lv_at hl 0 rfl) ?_
          refine lv_iconst (v := nI (1)) hx hb dX7_leaveTrace_88 (by decide) ?_
          refine fa_iaddN hx hb dX7_leaveTrace_89 ?_
          refine lv_aload_n hx hb dX7_leaveTrace_90 rfl (lv_at hl 1 rfl) ?_
          refine fa_getr (k := 397) (j := 398) CX HX1818 fl_X7_7 (by omega) rfl rfl hM.1 dX7_leaveTrace_91 ?_
          refine lv_iload_n hx hb dX7_leaveTrace_94 rfl (lv_at hl 2 rfl) ?_
          refine fa_callSip (As := [.int (nI (u))]) (rest := [.ref (fa_B G + (398)), .int (nI (393 + (5 * (n6 - 1)) + 1)), .ref (fa_B G + (398))]) CX HX1818 (r_f l G n v1816 r (u)) ln_X7_36 rfl rfl (Nat.le_of_ble_eq_true rfl) hl.1 ⟨Nat.le_of_ble_eq_true rfl, Nat.le_of_ble_eq_true rfl⟩ ⟨Nat.le_refl _, Nat.le_refl _⟩ dX7_leaveTrace_95 (fun x1820 H locs h1819 HX1821 => ?_)
          subst h1819
          refine lv_iconst (v := nI (1)) hx hb dX7_leaveTrace_98 (by decide) ?_
          refine fa_iaddN hx hb dX7_leaveTrace_99 ?_
          refine fa_iald (k := 398) (j := 17 + 15 * u + 1) CX HX1821 (by omega) rfl (by omega) (by first | decide | assumption) dX7_leaveTrace_100 ?_
          refine fa_iast (k := 398) (j := 393 + (5 * (n6 - 1)) + 1) CX HX1821 (by omega) rfl (by omega) (by first | decide | assumption) dX7_leaveTrace_101 (fun H locs v1822 e1823 HX1824 => ?_)
          refine lv_aload_n hx hb dX7_leaveTrace_102 rfl (lv_at hl 1 rfl) ?_
          refine fa_getr (k := 397) (j := 398) CX HX1824 fl_X7_7 (by omega) rfl rfl hM.1 dX7_leaveTrace_103 ?_
          refine lv_iload_n hx hb dX7_leaveTrace_106 rfl (lv_at hl 0 rfl) ?_
          refine lv_iconst (v := nI (2)) hx hb dX7_leaveTrace_107 (by decide) ?_
          refine fa_iaddN hx hb dX7_leaveTrace_108 ?_
          refine lv_aload_n hx hb dX7_leaveTrace_109 rfl (lv_at hl 1 rfl) ?_
          refine fa_getr (k := 397) (j := 398) CX HX1824 fl_X7_7 (by omega) rfl rfl hM.1 dX7_leaveTrace_110 ?_
          refine lv_iload_n hx hb dX7_leaveTrace_113 rfl (lv_at hl 2 rfl) ?_
          refine fa_callSip (As := [.int (nI (u))]) (rest := [.ref (fa_B G + (398)), .int (nI (393 + (5 * (n6 - 1)) + 2)), .ref (fa_B G + (398))]) CX HX1824 (r_f l G n v1822 r (u)) ln_X7_36 rfl rfl (Nat.le_of_ble_eq_true rfl) hl.1 ⟨Nat.le_of_ble_eq_true rfl, Nat.le_of_ble_eq_true rfl⟩ ⟨Nat.le_refl _, Nat.le_refl _⟩ dX7_leaveTrace_114 (fun x1826 H locs h1825 HX1827 => ?_)
          subst h1825
          refine lv_iconst (v := nI (2)) hx hb dX7_leaveTrace_117 (by decide) ?_
          refine fa_iaddN hx hb dX7_leaveTrace_118 ?_
          refine fa_iald (k := 398) (j := 17 + 15 * u + 2) CX HX1827 (by omega) rfl (by omega) (by first | decide | assumption) dX7_leaveTrace_119 ?_
          refine fa_iast (k := 398) (j := 393 + (5 * (n6 - 1)) + 2) CX HX1827 (by omega) rfl (by omega) (by first | decide | assumption) dX7_leaveTrace_120 (fun H locs v1828 e1829 HX1830 => ?_)
          refine lv_aload_n hx hb dX7_leaveTrace_121 rfl (lv_at hl 1 rfl) ?_
          refine fa_getr (k := 397) (j := 398) CX HX1830 fl_X7_7 (by omega) rfl rfl hM.1 dX7_leaveTrace_122 ?_
          refine lv_iload_n hx hb dX7_leaveTrace_125 rfl (lv_at hl 0 rfl) ?_
          refine lv_iconst (v := nI (3)) hx hb dX7_leaveTrace_126 (by decide) ?_
          refine fa_iaddN hx hb dX7_leaveTrace_127 ?_
          refine lv_aload_n hx hb dX7_leaveTrace_128 rfl (lv_at hl 1 rfl) ?_
          refine fa_getr (k := 397) (j := 398) CX HX1830 fl_X7_7 (by omega) rfl rfl hM.1 dX7_leaveTrace_129 ?_
          refine lv_bipush (v := nI (7)) hx hb dX7_leaveTrace_132 (by decide) ?_
          refine fa_iald (k := 398) (j := 7) CX HX1830 (by omega) rfl (by omega) (by first | decide | assumption) dX7_leaveTrace_134 ?_
          refine fa_iast (k := 398) (j := 393 + (5 * (n6 - 1)) + 3) CX HX1830 (by omega) rfl (by omega) (by first | decide | assumption) dX7_leaveTrace_135 (fun H locs v1831 e1832 HX1833 => ?_)
          refine lv_aload_n hx hb dX7_leaveTrace_136 rfl (lv_at hl 1 rfl) ?_
          refine fa_getr (k := 397) (j := 398) CX HX1833 fl_X7_7 (by omega) rfl rfl hM.1 dX7_leaveTrace_137 ?_
          refine lv_iload_n hx hb dX7_leaveTrace_140 rfl (lv_at hl 0 rfl) ?_
          refine lv_iconst (v := nI (4)) hx hb dX7_leaveTrace_141 (by decide) ?_
          refine fa_iaddN hx hb dX7_leaveTrace_142 ?_
          refine lv_aload_n hx hb dX7_leaveTrace_143 rfl (lv_at hl 1 rfl) ?_
          refine fa_getr (k := 397) (j := 398) CX HX1833 fl_X7_7 (by omega) rfl rfl hM.1 dX7_leaveTrace_144 ?_
          refine lv_iload_n hx hb dX7_leaveTrace_147 rfl (lv_at hl 2 rfl) ?_
          refine fa_callSip (As := [.int (nI (u))]) (rest := [.ref (fa_B G + (398)), .int (nI (393 + (5 * (n6 - 1)) + 4)), .ref (fa_B G + (398))]) CX HX1833 (r_f l G n v1831 r (u)) ln_X7_36 rfl rfl (Nat.le_of_ble_eq_true rfl) hl.1 ⟨Nat.le_of_ble_eq_true rfl, Nat.le_of_ble_eq_true rfl⟩ ⟨Nat.le_refl _, Nat.le_refl _⟩ dX7_leaveTrace_148 (fun x1835 H locs h1834 HX1836 => ?_)
          subst h1834
          refine lv_iconst (v := nI (5)) hx hb dX7_leaveTrace_151 (by decide) ?_
          refine fa_iaddN hx hb dX7_leaveTrace_152 ?_
          refine fa_iald (k := 398) (j := 17 + 15 * u + 5) CX HX1836 (by omega) rfl (by omega) (by first | decide | assumption) dX7_leaveTrace_153 ?_
          refine fa_iast (k := 398) (j := 393 + (5 * (n6 - 1)) + 4) CX HX1836 (by omega) rfl (by omega) (by first | decide | assumption) dX7_leaveTrace_154 (fun H locs v1837 e1838 HX1839 => ?_)
          refine lv_aload_n hx hb dX7_leaveTrace_155 rfl (lv_at hl 1 rfl) ?_
          refine fa_getr (k := 397) (j := 398) CX HX1839 fl_X7_7 (by omega) rfl rfl hM.1 dX7_leaveTrace_156 ?_
          refine lv_bipush (v := nI (16)) hx hb dX7_leaveTrace_159 (by decide) ?_
          refine lv_dup2_11 hx hb dX7_leaveTrace_161 rfl rfl ?_
          refine fa_iald (k := 398) (j := 16) CX HX1839 (by omega) rfl (by omega) (by first | decide | assumption) dX7_leaveTrace_162 ?_
          rw [show v1837 398 16 = nI (n6 - 1) from (by rw [e1838, fa_u_n _ _ (by omega)]; exact (by rw [e1832, fa_u_n _ _ (by omega)]; exact (by rw [e1829, fa_u_n _ _ (by omega)]; exact (by rw [e1823, fa_u_n _ _ (by omega)]; exact (by rw [e1817, fa_u_n _ _ (by omega)]; exact (by rw [e1811, fa_u_s]))))))]
          refine lv_iconst (v := nI (1)) hx hb dX7_leaveTrace_163 (by decide) ?_
          refine fa_iaddN hx hb dX7_leaveTrace_164 ?_
          refine fa_iast (k := 398) (j := 16) CX HX1839 (by omega) rfl (by omega) (by first | decide | assumption) dX7_leaveTrace_165 (fun H locs v1840 e1841 HX1842 => ?_)
          exact RET _ _ _ _ _ _ HX1842 dX7_leaveTrace_166 (⟨rfl, ⟨⟨(show fa_MS (v1840 398) from by rw [e1841]; exact fa_MS.u (show fa_MS (v1837 398) from by rw [e1838]; exact fa_MS.u (show fa_MS (v1831 398) from by rw [e1832]; exact fa_MS.u (show fa_MS (v1828 398) from by rw [e1829]; exact fa_MS.u (show fa_MS (v1822 398) from by rw [e1823]; exact fa_MS.u (show fa_MS (v1816 398) from by rw [e1817]; exact fa_MS.u (show fa_MS (v1810 398) from by rw [e1811]; exact fa_MS.u hi_16.2.1 (fa_ok.n16 (by omega))) (fa_ok.o (by omega) (by omega) (by omega) (fun p hp => by omega))) (fa_ok.o (by omega) (by omega) (by omega) (fun p hp => by omega))) (fa_ok.o (by omega) (by omega) (by omega) (fun p hp => by omega))) (fa_ok.o (by omega) (by omega) (by omega) (fun p hp => by omega))) (fa_ok.o (by omega) (by omega) (by omega) (fun p hp => by omega))) (fa_ok.n16 (by omega))), (show v1840 398 14 = v 398 14 from ((show v1840 398 14 = nI (n4) from (by rw [e1841, fa_u_n _ _ (by omega)]; exact (by rw [e1838, fa_u_n _ _ (by omega)]; exact (by rw [e1832, fa_u_n _ _ (by omega)]; exact (by rw [e1829, fa_u_n _ _ (by omega)]; exact (by rw [e1823, fa_u_n _ _ (by omega)]; exact (by rw [e1817, fa_u_n _ _ (by omega)]; exact (by rw [e1811, fa_u_n _ _ (by omega)]; exact ((hi_16.2.2.1).trans g4))))))))).trans g4.symm)), (show v1840 398 15 = v 398 15 from ((show v1840 398 15 = nI (n5) from (by rw [e1841, fa_u_n _ _ (by omega)]; exact (by rw [e1838, fa_u_n _ _ (by omega)]; exact (by rw [e1832, fa_u_n _ _ (by omega)]; exact (by rw [e1829, fa_u_n _ _ (by omega)]; exact (by rw [e1823, fa_u_n _ _ (by omega)]; exact (by rw [e1817, fa_u_n _ _ (by omega)]; exact (by rw [e1811, fa_u_n _ _ (by omega)]; exact ((hi_16.2.2.2.1).trans g5))))))))).trans g5.symm))⟩, (by rw [e1841]; exact fa_fr.u (by rw [e1838]; exact fa_fr.u (by rw [e1832]; exact fa_fr.u (by rw [e1829]; exact fa_fr.u (by rw [e1823]; exact fa_fr.u (by rw [e1817]; exact fa_fr.u (by rw [e1811]; exact fa_fr.u (fa_fr.tr fa_fr.rf (fa_fr.wide hi_16.2.2.2.2.2 (by omega) (by omega))) (by omega)) (by omega)) (by omega)) (by omega)) (by omega)) (by omega)) (by omega))⟩⟩)
        · have hk : k < 448 := fa_ltN (by omega) (by omega) c_20
          refine lv_aload_n hx hb dX7_leaveTrace_23 rfl (lv_at hl 0 rfl) ?_
          refine fa_getr (k := 397) (j := 398) CX HX1809 fl_X7_7 (by omega) rfl rfl hM.1 dX7_leaveTrace_24 ?_
          refine lv_iload_n hx hb dX7_leaveTrace_27 rfl (lv_at hl 2 rfl) ?_
          refine lv_aload_n hx hb dX7_leaveTrace_28 rfl (lv_at hl 0 rfl) ?_
          refine fa_getr (k := 397) (j := 398) CX HX1809 fl_X7_7 (by omega) rfl rfl hM.1 dX7_leaveTrace_29 ?_
          refine lv_iload_n hx hb dX7_leaveTrace_32 rfl (lv_at hl 2 rfl) ?_
          refine lv_iconst (v := nI (5)) hx hb dX7_leaveTrace_33 (by decide) ?_
          refine fa_iaddN hx hb dX7_leaveTrace_34 ?_
          refine fa_iald (k := 398) (j := k + 5) CX HX1809 (by omega) rfl (by omega) (by first | decide | assumption) dX7_leaveTrace_35 ?_
          refine fa_iast (k := 398) (j := k) CX HX1809 (by omega) rfl (by omega) (by first | decide | assumption) dX7_leaveTrace_36 (fun H locs v1843 e1844 HX1845 => ?_)
          refine lv_iinc (v := nI (k + 1)) (lv' := [(2, .int (nI (k + 1))), (0, .ref (fa_B G + (397))), (1, .int (nI (u)))]) hx hb dX7_leaveTrace_37 hl (k := 2) rfl (nI_add (k) 1) (by decide) rfl (fun ls hl => ?_)
          refine lv_goto (tgt := 16) hx hb dX7_leaveTrace_40 (by decide) ?_
          exact ih_16 (k + 1) v1843 _ _ _ (by omega) (⟨⟨by omega, by omega⟩, (show fa_MS (v1843 398) from by rw [e1844]; exact fa_MS.u hi_16.2.1 (fa_ok.o (by omega) (by omega) (by omega) (fun p hp => by omega))), ((show v1843 398 14 = nI (n4) from (by rw [e1844, fa_u_n _ _ (by omega)]; exact ((hi_16.2.2.1).trans g4))).trans g4.symm), ((show v1843 398 15 = nI (n5) from (by rw [e1844, fa_u_n _ _ (by omega)]; exact ((hi_16.2.2.2.1).trans g5))).trans g5.symm), ((show v1843 398 16 = nI (n6) from (by rw [e1844, fa_u_n _ _ (by omega)]; exact ((hi_16.2.2.2.2.1).trans g6))).trans g6.symm), (by rw [e1844]; exact fa_fr.u (fa_fr.tr fa_fr.rf (fa_fr.wide hi_16.2.2.2.2.2 (by omega) (by omega))) (by omega))⟩) (lv_sub hl [1, 2, 0] rfl) HX1845
    exact LOOP_16 (448 - 393 + 1) (393) v _ _ _ (Nat.lt_succ_self _) (⟨⟨by decide, by decide⟩, hS, rfl, rfl, rfl, fa_fr.rf⟩) (lv_sub hl [1, 2, 0] rfl) HX
set_option maxHeartbeats 4000000 in
set_option maxRecDepth 100000 in
theorem r_burn (l : Launch) (G : fa_G) (n : Nat) (hn : 406 ≤ n) (v : fa_V) (r : fa_R) (hM : fa_RM r) (hS : fa_MS (v 398)) (u : Nat) (hu : u < 24) : fa_MV l G n yX7_burn cX7_burn 4 3 [.ref (fa_B G + (397)), .int (nI (u))] v r (fa_vo r (fun v1 => ((fa_MS (v1 398)) ∧ (v1 398 14 = v 398 14) ∧ (v1 398 15 = v 398 15)) ∧ (fa_fr (398) (399) v v1))) := by
  refine fa_startV (by decide +kernel) (Nat.le_of_ble_eq_true rfl) (fun p e s m args below meth c ls Q CX hl HX RET => ?_)
  have hl : lv_has ls 4 [(0, .ref (fa_B G + (397))), (1, .int (nI (u)))] := hl
  have hx := CX.1.1
  have hb := CX.1.2.1
  obtain ⟨n4, en4⟩ : ∃ m, m = fa_N (v 398 14) := ⟨_, rfl⟩
  obtain ⟨hn4, g4⟩ := hS.n4 en4
  obtain ⟨n5, en5⟩ : ∃ m, m = fa_N (v 398 15) := ⟨_, rfl⟩
  obtain ⟨hn5, g5⟩ := hS.n5 en5
  obtain ⟨n6, en6⟩ : ∃ m, m = fa_N (v 398 16) := ⟨_, rfl⟩
  obtain ⟨hn6, g6⟩ := hS.n6 en6
  refine lv_aload_n hx hb dX7_burn_0 rfl (lv_at hl 0 rfl) ?_
  refine fa_getr (k := 397) (j := 398) CX HX fl_X7_7 (by omega) rfl rfl hM.1 dX7_burn_1 ?_
  refine lv_iload_n hx hb dX7_burn_4 rfl (lv_at hl 1 rfl) ?_
  refine fa_callSip (As := [.int (nI (u))]) (rest := [.ref (fa_B G + (398))]) CX HX (r_f l G n v r (u)) ln_X7_36 rfl rfl (Nat.le_of_ble_eq_true rfl) hl.1 ⟨Nat.le_of_ble_eq_true rfl, Nat.le_of_ble_eq_true rfl⟩ ⟨Nat.le_refl _, Nat.le_refl _⟩ dX7_burn_5 (fun x1847 H locs h1846 HX1848 => ?_)
  subst h1846
  refine fa_iald (k := 398) (j := 17 + 15 * u) CX HX1848 (by omega) rfl (by omega) (by first | decide | assumption) dX7_burn_8 ?_
  refine lv_istore_n (lv' := [(2, .int (v 398 (17 + 15 * u))), (0, .ref (fa_B G + (397))), (1, .int (nI (u)))]) hx hb dX7_burn_9 rfl hl (by decide) rfl (fun ls hl => ?_)
  refine lv_aload_n hx hb dX7_burn_10 rfl (lv_at hl 1 rfl) ?_
  refine lv_iload_n hx hb dX7_burn_11 rfl (lv_at hl 2 rfl) ?_
  refine fa_callVvu (As := [.int (nI (u))]) (rest := []) CX HX1848 (r_leaveTrace l G n hn v r hM hS (u) (by omega)) ln_X7_63 (by omega) rfl rfl rfl rfl (Nat.le_of_ble_eq_true rfl) hl.1 ⟨Nat.le_of_ble_eq_true rfl, Nat.le_of_ble_eq_true rfl⟩ ⟨Nat.le_refl _, Nat.le_refl _⟩ dX7_burn_12 (fun v1850 H locs h1849 HX1851 => ?_)
  have hS_v1850 := h1849.1.1
  refine lv_aload_n hx hb dX7_burn_15 rfl (lv_at hl 1 rfl) ?_
  refine fa_getr (k := 397) (j := 398) CX HX1851 fl_X7_7 (by omega) rfl rfl hM.1 dX7_burn_16 ?_
  refine lv_bipush (v := nI (9)) hx hb dX7_burn_19 (by decide) ?_
  refine lv_dup2_11 hx hb dX7_burn_21 rfl rfl ?_
  refine fa_iald (k := 398) (j := 9) CX HX1851 (by omega) rfl (by omega) (by first | decide | assumption) dX7_burn_22 ?_
  refine lv_iconst (v := nI (1)) hx hb dX7_burn_23 (by decide) ?_
  refine lv_iadd hx hb dX7_burn_24 ?_
  refine fa_iast (k := 398) (j := 9) CX HX1851 (by omega) rfl (by omega) (by first | decide | assumption) dX7_burn_25 (fun H locs v1852 e1853 HX1854 => ?_)
  refine lv_aload_n hx hb dX7_burn_26 rfl (lv_at hl 1 rfl) ?_
  refine fa_getr (k := 397) (j := 398) CX HX1854 fl_X7_7 (by omega) rfl rfl hM.1 dX7_burn_27 ?_
  refine lv_bipush (v := nI (10)) hx hb dX7_burn_30 (by decide) ?_
  refine lv_dup2_11 hx hb dX7_burn_32 rfl rfl ?_
  refine fa_iald (k := 398) (j := 10) CX HX1854 (by omega) rfl (by omega) (by first | decide | assumption) dX7_burn_33 ?_
  refine lv_aload_n hx hb dX7_burn_34 rfl (lv_at hl 1 rfl) ?_
  refine fa_getr (k := 397) (j := 398) CX HX1854 fl_X7_7 (by omega) rfl rfl hM.1 dX7_burn_35 ?_
  refine lv_iload_n hx hb dX7_burn_38 rfl (lv_at hl 2 rfl) ?_
  refine fa_callSip (As := [.int (nI (u))]) (rest := [.ref (fa_B G + (398)), .int (v1852 398 10), .int (nI (10)), .ref (fa_B G + (398))]) CX HX1854 (r_f l G n v1852 r (u)) ln_X7_36 rfl rfl (Nat.le_of_ble_eq_true rfl) hl.1 ⟨Nat.le_of_ble_eq_true rfl, Nat.le_of_ble_eq_true rfl⟩ ⟨Nat.le_refl _, Nat.le_refl _⟩ dX7_burn_39 (fun x1856 H locs h1855 HX1857 => ?_)
  subst h1855
  refine lv_iconst (v := nI (2)) hx hb dX7_burn_42 (by decide) ?_
  refine fa_iaddN hx hb dX7_burn_43 ?_
  refine fa_iald (k := 398) (j := 17 + 15 * u + 2) CX HX1857 (by omega) rfl (by omega) (by first | decide | assumption) dX7_burn_44 ?_
  refine lv_iadd hx hb dX7_burn_45 ?_
  refine fa_iast (k := 398) (j := 10) CX HX1857 (by omega) rfl (by omega) (by first | decide | assumption) dX7_burn_46 (fun H locs v1858 e1859 HX1860 => ?_)
  refine lv_iconst (v := nI (0)) hx hb dX7_burn_47 (by decide) ?_
  refine lv_istore_n (lv' := [(3, .int (nI (0))), (2, .int (v 398 (17 + 15 * u))), (0, .ref (fa_B G + (397))), (1, .int (nI (u)))]) hx hb dX7_burn_48 rfl hl (by decide) rfl (fun ls hl => ?_)
  have LOOP_49 : ∀ (fu : Nat) (j : Nat) (v1861 : fa_V) (H : Heap) (locs : List Loc) (ls : Array Slot), n4 - j < fu → (j ≤ n4 ∧ fa_MS (v1861 398) ∧ v1861 398 14 = v 398 14 ∧ v1861 398 15 = v 398 15 ∧ fa_fr 398 399 v v1861) → lv_has ls 4 [(0, .ref (fa_B G + (397))), (1, .int (nI (u))), (2, .int (v 398 (17 + 15 * u))), (3, .int (nI (j)))] → fa_HX G (n) v1861 r s H locs → W p l e (fa_rm 3) s m args below meth c H locs (0) (0) Q (F0 m 49 ls []) := by
    intro fu
    induction fu with
    | zero => intro j v1861 H locs ls hk; exact absurd hk (Nat.not_lt_zero _)
    | succ fu ih_49 =>
      intro j v1861 H locs ls hk_49 hi_49 hl HX1862
      refine lv_iload_n hx hb dX7_burn_49 rfl (lv_at hl 3 rfl) ?_
      refine lv_aload_n hx hb dX7_burn_50 rfl (lv_at hl 0 rfl) ?_
      refine fa_getr (k := 397) (j := 398) CX HX1862 fl_X7_7 (by omega) rfl rfl hM.1 dX7_burn_51 ?_
      refine lv_bipush (v := nI (14)) hx hb dX7_burn_54 (by decide) ?_
      refine fa_iald (k := 398) (j := 14) CX HX1862 (by omega) rfl (by omega) (by first | decide | assumption) dX7_burn_56 ?_
      rw [show v1861 398 14 = nI (n4) from ((hi_49.2.2.1).trans g4)]
      refine lv_icmp_ge (tgt := 110) hx hb dX7_burn_57 (by decide) (fun c_57 => ?_) (fun c_57 => ?_)
      · exact RET _ _ _ _ _ _ HX1862 dX7_burn_110 (⟨rfl, ⟨⟨hi_49.2.1, (show v1861 398 14 = v 398 14 from ((show v1861 398 14 = nI (n4) from ((hi_49.2.2.1).trans g4)).trans g4.symm)), (show v1861 398 15 = v 398 15 from ((show v1861 398 15 = nI (n5) from ((hi_49.2.2.2.1).trans g5)).trans g5.symm))⟩, (fa_fr.tr fa_fr.rf (fa_fr.wide hi_49.2.2.2.2 (by omega) (by omega)))⟩⟩)
      · have hj := fa_ltN (by omega) (by omega) c_57
        refine lv_aload_n hx hb dX7_burn_60 rfl (lv_at hl 0 rfl) ?_
        refine fa_getr (k := 397) (j := 398) CX HX1862 fl_X7_7 (by omega) rfl rfl hM.1 dX7_burn_61 ?_
        refine lv_iload_n hx hb dX7_burn_64 rfl (lv_at hl 3 rfl) ?_
        refine fa_callSip (As := [.int (nI (j))]) (rest := [.ref (fa_B G + (398))]) CX HX1862 (r_f l G n v1861 r (j)) ln_X7_36 rfl rfl (Nat.le_of_ble_eq_true rfl) hl.1 ⟨Nat.le_of_ble_eq_true rfl, Nat.le_of_ble_eq_true rfl⟩ ⟨Nat.le_refl _, Nat.le_refl _⟩ dX7_burn_65 (fun x1864 H locs h1863 HX1865 => ?_)
        subst h1863
        refine lv_bipush (v := nI (6)) hx hb dX7_burn_68 (by decide) ?_
        refine fa_iaddN hx hb dX7_burn_70 ?_
        refine lv_aload_n hx hb dX7_burn_71 rfl (lv_at hl 0 rfl) ?_
        refine fa_getr (k := 397) (j := 398) CX HX1865 fl_X7_7 (by omega) rfl rfl hM.1 dX7_burn_72 ?_
        refine lv_iload_n hx hb dX7_burn_75 rfl (lv_at hl 3 rfl) ?_
        refine fa_callSip (As := [.int (nI (j))]) (rest := [.ref (fa_B G + (398)), .int (nI (17 + 15 * j + 6)), .ref (fa_B G + (398))]) CX HX1865 (r_f l G n v1861 r (j)) ln_X7_36 rfl rfl (Nat.le_of_ble_eq_true rfl) hl.1 ⟨Nat.le_of_ble_eq_true rfl, Nat.le_of_ble_eq_true rfl⟩ ⟨Nat.le_refl _, Nat.le_refl _⟩ dX7_burn_76 (fun x1867 H locs h1866 HX1868 => ?_)
        subst h1866
        refine lv_bipush (v := nI (6)) hx hb dX7_burn_79 (by decide) ?_
        refine fa_iaddN hx hb dX7_burn_81 ?_
        refine fa_iald (k := 398) (j := 17 + 15 * j + 6) CX HX1868 (by omega) rfl (by omega) (by first | decide | assumption) dX7_burn_82 ?_
        refine lv_iload_n hx hb dX7_burn_83 rfl (lv_at hl 2 rfl) ?_
        refine lv_icmp_ne (tgt := 91) hx hb dX7_burn_84 (by decide) (fun c_84 => ?_) (fun c_84 => ?_)
        · refine lv_aload_n hx hb dX7_burn_91 rfl (lv_at hl 0 rfl) ?_
          refine fa_getr (k := 397) (j := 398) CX HX1868 fl_X7_7 (by omega) rfl rfl hM.1 dX7_burn_92 ?_
          refine lv_iload_n hx hb dX7_burn_95 rfl (lv_at hl 3 rfl) ?_
          refine fa_callSip (As := [.int (nI (j))]) (rest := [.ref (fa_B G + (398)), .int (nI (17 + 15 * j + 6)), .ref (fa_B G + (398))]) CX HX1868 (r_f l G n v1861 r (j)) ln_X7_36 rfl rfl (Nat.le_of_ble_eq_true rfl) hl.1 ⟨Nat.le_of_ble_eq_true rfl, Nat.le_of_ble_eq_true rfl⟩ ⟨Nat.le_refl _, Nat.le_refl _⟩ dX7_burn_96 (fun x1870 H locs h1869 HX1871 => ?_)
          subst h1869
          refine lv_bipush (v := nI (6)) hx hb dX7_burn_99 (by decide) ?_
          refine fa_iaddN hx hb dX7_burn_101 ?_
          refine fa_iald (k := 398) (j := 17 + 15 * j + 6) CX HX1871 (by omega) rfl (by omega) (by first | decide | assumption) dX7_burn_102 ?_
          refine fa_iast (k := 398) (j := 17 + 15 * j + 6) CX HX1871 (by omega) rfl (by omega) (by first | decide | assumption) dX7_burn_103 (fun H locs v1872 e1873 HX1874 => ?_)
          refine lv_iinc (v := nI (j + 1)) (lv' := [(3, .int (nI (j + 1))), (0, .ref (fa_B G + (397))), (1, .int (nI (u))), (2, .int (v 398 (17 + 15 * u)))]) hx hb dX7_burn_104 hl (k := 3) rfl (nI_add (j) 1) (by decide) rfl (fun ls hl => ?_)
          refine lv_goto (tgt := 49) hx hb dX7_burn_107 (by decide) ?_
          exact ih_49 (j + 1) v1872 _ _ _ (by omega) (⟨by omega, (show fa_MS (v1872 398) from by rw [e1873]; exact fa_MS.u hi_49.2.1 (fa_ok.o (by omega) (by omega) (by omega) (fun p hp => by omega))), ((show v1872 398 14 = nI (n4) from (by rw [e1873, fa_u_n _ _ (by omega)]; exact ((hi_49.2.2.1).trans g4))).trans g4.symm), ((show v1872 398 15 = nI (n5) from (by rw [e1873, fa_u_n _ _ (by omega)]; exact ((hi_49.2.2.2.1).trans g5))).trans g5.symm), (by rw [e1873]; exact fa_fr.u (fa_fr.tr fa_fr.rf (fa_fr.wide hi_49.2.2.2.2 (by omega) (by omega))) (by omega))⟩) (lv_sub hl [1, 2, 3, 0] rfl) HX1874
        · refine lv_iconst (v := (-1 : Int32)) hx hb dX7_burn_87 (by decide) ?_
          refine lv_goto (tgt := 103) hx hb dX7_burn_88 (by decide) ?_
          refine fa_iast (k := 398) (j := 17 + 15 * j + 6) CX HX1868 (by omega) rfl (by omega) (by first | decide | assumption) dX7_burn_103 (fun H locs v1875 e1876 HX1877 => ?_)
          refine lv_iinc (v := nI (j + 1)) (lv' := [(3, .int (nI (j + 1))), (0, .ref (fa_B G + (397))), (1, .int (nI (u))), (2, .int (v 398 (17 + 15 * u)))]) hx hb dX7_burn_104 hl (k := 3) rfl (nI_add (j) 1) (by decide) rfl (fun ls hl => ?_)
          refine lv_goto (tgt := 49) hx hb dX7_burn_107 (by decide) ?_
          exact ih_49 (j + 1) v1875 _ _ _ (by omega) (⟨by omega, (show fa_MS (v1875 398) from by rw [e1876]; exact fa_MS.u hi_49.2.1 (fa_ok.o (by omega) (by omega) (by omega) (fun p hp => by omega))), ((show v1875 398 14 = nI (n4) from (by rw [e1876, fa_u_n _ _ (by omega)]; exact ((hi_49.2.2.1).trans g4))).trans g4.symm), ((show v1875 398 15 = nI (n5) from (by rw [e1876, fa_u_n _ _ (by omega)]; exact ((hi_49.2.2.2.1).trans g5))).trans g5.symm), (by rw [e1876]; exact fa_fr.u (fa_fr.tr fa_fr.rf (fa_fr.wide hi_49.2.2.2.2 (by omega) (by omega))) (by omega))⟩) (lv_sub hl [1, 2, 3, 0] rfl) HX1877
  exact LOOP_49 (n4 - 0 + 1) (0) v1858 _ _ _ (Nat.lt_succ_self _) (⟨Nat.zero_le _, (show fa_MS (v1858 398) from by rw [e1859]; exact fa_MS.u (show fa_MS (v1852 398) from by rw [e1853]; exact fa_MS.u hS_v1850 (fa_ok.o (by omega) (by omega) (by omega) (fun p hp => by omega))) (fa_ok.o (by omega) (by omega) (by omega) (fun p hp => by omega))), ((show v1858 398 14 = nI (n4) from (by rw [e1859, fa_u_n _ _ (by omega)]; exact (by rw [e1853, fa_u_n _ _ (by omega)]; exact ((h1849.1.2.1).trans g4)))).trans g4.symm), ((show v1858 398 15 = nI (n5) from (by rw [e1859, fa_u_n _ _ (by omega)]; exact (by rw [e1853, fa_u_n _ _ (by omega)]; exact ((h1849.1.2.2).trans g5)))).trans g5.symm), (by rw [e1859]; exact fa_fr.u (by rw [e1853]; exact fa_fr.u (fa_fr.tr fa_fr.rf (fa_fr.wide h1849.2 (by omega) (by omega))) (by omega)) (by omega))⟩) (lv_sub hl [2, 3, 1, 0] rfl) HX1860
