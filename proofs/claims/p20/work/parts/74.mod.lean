set_option maxHeartbeats 4000000 in
set_option maxRecDepth 100000 in
theorem r_burning (l : Launch) (G : fa_G) (n : Nat) (hn : 406 ≤ n) (v : fa_V) (r : fa_R) (hM : fa_RM r) (hS : fa_MS (v 398)) : fa_MI l G n yX7_burning cX7_burning 5 (some .int) 6 [.ref (fa_B G + (397))] v r (fa_voi r (fun x v1 => ((fa_MS (v1 398)) ∧ (v1 398 15 = v 398 15) ∧ (fa_f2 v v1) ∧ ((∀ A, fb_okA A → fb_mA (v 398) A → x = (fb_burnA A).1 ∧ fb_mA (v1 398) (fb_burnA A).2))) ∧ (fa_fr (398) (403) v v1))) := by
  refine fa_startI (by decide +kernel) (Nat.le_of_ble_eq_true rfl) (fun p e s m args below meth c ls Q CX hl HX RET => ?_)
  have hl : lv_has ls 5 [(0, .ref (fa_B G + (397)))] := hl
  have hx := CX.1.1
  have hb := CX.1.2.1
  obtain ⟨n4, en4⟩ : ∃ m, m = fa_N (v 398 14) := ⟨_, rfl⟩
  obtain ⟨hn4, g4⟩ := hS.n4 en4
  obtain ⟨n5, en5⟩ : ∃ m, m = fa_N (v 398 15) := ⟨_, rfl⟩
  obtain ⟨hn5, g5⟩ := hS.n5 en5
  obtain ⟨n6, en6⟩ : ∃ m, m = fa_N (v 398 16) := ⟨_, rfl⟩
  obtain ⟨hn6, g6⟩ := hS.n6 en6
  refine lv_iconst (v := nI (0)) hx hb dX7_burning_0 (by decide) ?_
  refine lv_istore_n (lv' := [(1, .int (nI (0))), (0, .ref (fa_B G + (397)))]) hx hb dX7_burning_1 rfl hl (by decide) rfl (fun ls hl => ?_)
  refine lv_aload_n hx hb dX7_burning_2 rfl (lv_at hl 1 rfl) ?_
  refine fa_callVvu (As := []) (rest := []) CX HX (r_tellStaying l G n hn v r hM hS ) ln_X7_67 (by omega) rfl rfl rfl rfl (Nat.le_of_ble_eq_true rfl) hl.1 ⟨Nat.le_of_ble_eq_true rfl, Nat.le_of_ble_eq_true rfl⟩ ⟨Nat.le_refl _, Nat.le_refl _⟩ dX7_burning_3 (fun v1874 H locs h1873 HX1875 => ?_)
  have h_tellStaying := h1873.1
  refine lv_iconst (v := nI (0)) hx hb dX7_burning_6 (by decide) ?_
  refine lv_istore_n (lv' := [(2, .int (nI (0))), (1, .int (nI (0))), (0, .ref (fa_B G + (397)))]) hx hb dX7_burning_7 rfl hl (by decide) rfl (fun ls hl => ?_)
  have LOOP_8 : ∀ (fu : Nat) (j : Nat) (mny : Int32) (v1876 : fa_V) (H : Heap) (locs : List Loc) (ls : Array Slot), n4 - j < fu → (j ≤ n4 ∧ fa_MS (v1876 398) ∧ v1876 398 14 = v 398 14 ∧ v1876 398 15 = v 398 15 ∧ fa_f2 v v1876 ∧ (∀ A, fb_okA A → fb_mA (v 398) A → fb_bS A (v1876 402) ∧ fb_b1 A (v1876 398) mny j)) → lv_has ls 5 [(0, .ref (fa_B G + (397))), (1, .int (mny)), (2, .int (nI (j)))] → fa_HX G (n) v1876 r s H locs → W p l e (fa_rm 6) s m args below meth c H locs (0) (0) Q (F0 m 8 ls []) := by
    intro fu
    induction fu with
    | zero => intro j mny v1876 H locs ls hk; exact absurd hk (Nat.not_lt_zero _)
    | succ fu ih_8 =>
      intro j mny v1876 H locs ls hk_8 hi_8 hl HX1877
      refine lv_iload_n hx hb dX7_burning_8 rfl (lv_at hl 2 rfl) ?_
      refine lv_aload_n hx hb dX7_burning_9 rfl (lv_at hl 0 rfl) ?_
      refine fa_getr (k := 397) (j := 398) CX HX1877 fl_X7_7 (by omega) rfl rfl hM.1 dX7_burning_10 ?_
      refine lv_bipush (v := nI (14)) hx hb dX7_burning_13 (by decide) ?_
      refine fa_iald (k := 398) (j := 14) CX HX1877 (by omega) rfl (by omega) (by first | decide | assumption) dX7_burning_15 ?_
      rw [show v1876 398 14 = nI (n4) from ((hi_8.2.2.1).trans g4)]
      refine lv_icmp_ge (tgt := 42) hx hb dX7_burning_16 (by decide) (fun c_16 => ?_) (fun c_16 => ?_)
      · have hjn : j = n4 := by
          have := fa_leN (by omega) (by omega) c_16
          omega
        refine lv_iconst (v := nI (0)) hx hb dX7_burning_42 (by decide) ?_
        refine lv_istore_n (lv' := [(2, .int (nI (0))), (0, .ref (fa_B G + (397))), (1, .int (mny))]) hx hb dX7_burning_43 rfl hl (by decide) rfl (fun ls hl => ?_)
        refine lv_iconst (v := nI (0)) hx hb dX7_burning_44 (by decide) ?_
        refine lv_istore_n (lv' := [(3, .int (nI (0))), (2, .int (nI (0))), (0, .ref (fa_B G + (397))), (1, .int (mny))]) hx hb dX7_burning_45 rfl hl (by decide) rfl (fun ls hl => ?_)
        have LOOP_46 : ∀ (fu : Nat) (lf : Nat) (pl : Nat) (mny : Int32) (v1878 : fa_V) (H : Heap) (locs : List Loc) (ls : Array Slot), n4 - pl < fu → (lf ≤ pl ∧ pl ≤ n4 ∧ fa_MS (v1878 398) ∧ v1878 398 14 = v 398 14 ∧ v1878 398 15 = v 398 15 ∧ fa_f2 v v1878 ∧ (∀ A, fb_okA A → fb_mA (v 398) A → fb_bS A (v1878 402) ∧ mny = (fb_burnA A).1 ∧ fb_b2 A (v1878 398) lf pl)) → lv_has ls 5 [(0, .ref (fa_B G + (397))), (1, .int (mny)), (2, .int (nI (lf))), (3, .int (nI (pl)))] → fa_HX G (n) v1878 r s H locs → W p l e (fa_rm 6) s m args below meth c H locs (0) (0) Q (F0 m 46 ls []) := by
          intro fu
          induction fu with
          | zero => intro lf pl mny v1878 H locs ls hk; exact absurd hk (Nat.not_lt_zero _)
          | succ fu ih_46 =>
            intro lf pl mny v1878 H locs ls hk_46 hi_46 hl HX1879
            refine lv_iload_n hx hb dX7_burning_46 rfl (lv_at hl 3 rfl) ?_
            refine lv_aload_n hx hb dX7_burning_47 rfl (lv_at hl 0 rfl) ?_
            refine fa_getr (k := 397) (j := 398) CX HX1879 fl_X7_7 (by omega) rfl rfl hM.1 dX7_burning_48 ?_
            refine lv_bipush (v := nI (14)) hx hb dX7_burning_51 (by decide) ?_
            refine fa_iald (k := 398) (j := 14) CX HX1879 (by omega) rfl (by omega) (by first | decide | assumption) dX7_burning_53 ?_
            rw [show v1878 398 14 = nI (n4) from ((hi_46.2.2.2.1).trans g4)]
            refine lv_icmp_ge (tgt := 115) hx hb dX7_burning_54 (by decide) (fun c_54 => ?_) (fun c_54 => ?_)
            · have hjp : pl = n4 := by
                have := fa_leN (by omega) (by omega) c_54
                omega
              refine lv_aload_n hx hb dX7_burning_115 rfl (lv_at hl 0 rfl) ?_
              refine fa_getr (k := 397) (j := 398) CX HX1879 fl_X7_7 (by omega) rfl rfl hM.1 dX7_burning_116 ?_
              refine lv_bipush (v := nI (14)) hx hb dX7_burning_119 (by decide) ?_
              refine lv_iload_n hx hb dX7_burning_121 rfl (lv_at hl 2 rfl) ?_
              refine fa_iast (k := 398) (j := 14) CX HX1879 (by omega) rfl (by omega) (by first | decide | assumption) dX7_burning_122 (fun H locs v1880 e1881 HX1882 => ?_)
              refine lv_aload_n hx hb dX7_burning_123 rfl (lv_at hl 0 rfl) ?_
              refine fa_getr (k := 397) (j := 398) CX HX1882 fl_X7_7 (by omega) rfl rfl hM.1 dX7_burning_124 ?_
              refine lv_bipush (v := nI (13)) hx hb dX7_burning_127 (by decide) ?_
              refine lv_dup2_11 hx hb dX7_burning_129 rfl rfl ?_
              refine fa_iald (k := 398) (j := 13) CX HX1882 (by omega) rfl (by omega) (by first | decide | assumption) dX7_burning_130 ?_
              refine lv_iconst (v := nI (1)) hx hb dX7_burning_131 (by decide) ?_
              refine lv_iadd hx hb dX7_burning_132 ?_
              refine fa_iast (k := 398) (j := 13) CX HX1882 (by omega) rfl (by omega) (by first | decide | assumption) dX7_burning_133 (fun H locs v1883 e1884 HX1885 => ?_)
              refine lv_iload_n hx hb dX7_burning_134 rfl (lv_at hl 1 rfl) ?_
              exact RET _ _ _ _ _ _ _ HX1885 dX7_burning_135 (⟨rfl, ⟨⟨(show fa_MS (v1883 398) from by rw [e1884]; exact fa_MS.u (show fa_MS (v1880 398) from by rw [e1881]; exact fa_MS.u hi_46.2.2.1 (fa_ok.n14 (by omega))) (fa_ok.o (by omega) (by omega) (by omega) (fun p hp => by omega))), (show v1883 398 15 = v 398 15 from ((show v1883 398 15 = nI (n5) from (by rw [e1884, fa_u_n _ _ (by omega)]; exact (by rw [e1881, fa_u_n _ _ (by omega)]; exact ((hi_46.2.2.2.2.1).trans g5)))).trans g5.symm)), (by rw [e1884]; exact fa_f2.u (by rw [e1881]; exact fa_f2.u (fa_f2.tr fa_f2.rf hi_46.2.2.2.2.2.1) (by decide)) (by decide)), (fun A hok hc => ⟨(hi_46.2.2.2.2.2.2 A hok hc).2.1, fb_b2.e hok.1.1 (by have z := (hi_46.2.2.2.2.2.2 A hok hc).2.2; rw [show pl = A.n by rw [← hc.n, ← en4]; exact hjp] at z; exact z) e1881 e1884⟩)⟩, (by rw [e1884]; exact fa_fr.u (by rw [e1881]; exact fa_fr.u (fa_fr.tr fa_fr.rf (fa_fr.wide (fa_f2.fr hi_46.2.2.2.2.2.1) (by omega) (by omega))) (by omega)) (by omega))⟩⟩)
            · have hj := fa_ltN (by omega) (by omega) c_54
              refine lv_aload_n hx hb dX7_burning_57 rfl (lv_at hl 0 rfl) ?_
              refine fa_getr (k := 397) (j := 402) CX HX1879 fl_X7_22 (by omega) rfl rfl hM.2.2.2.2.1 dX7_burning_58 ?_
              refine lv_iload_n hx hb dX7_burning_61 rfl (lv_at hl 3 rfl) ?_
              refine fa_zald (k := 402) (j := pl) CX HX1879 (by omega) rfl (by omega) (by first | decide | assumption) dX7_burning_62 ?_
              refine lv_if_eq (tgt := 109) hx hb dX7_burning_63 (by decide) (fun c_63 => ?_) (fun c_63 => ?_)
              · refine lv_iinc (v := nI (pl + 1)) (lv' := [(3, .int (nI (pl + 1))), (0, .ref (fa_B G + (397))), (1, .int (mny)), (2, .int (nI (lf)))]) hx hb dX7_burning_109 hl (k := 3) rfl (nI_add (pl) 1) (by decide) rfl (fun ls hl => ?_)
                refine lv_goto (tgt := 46) hx hb dX7_burning_112 (by decide) ?_
                exact ih_46 (lf) (pl + 1) (mny) v1878 _ _ _ (by omega) (⟨by omega, by omega, hi_46.2.2.1, ((show v1878 398 14 = nI (n4) from ((hi_46.2.2.2.1).trans g4)).trans g4.symm), ((show v1878 398 15 = nI (n5) from ((hi_46.2.2.2.2.1).trans g5)).trans g5.symm), (fa_f2.tr fa_f2.rf hi_46.2.2.2.2.2.1), fun A hok hc => ⟨(hi_46.2.2.2.2.2.2 A hok hc).1, (hi_46.2.2.2.2.2.2 A hok hc).2.1, (hi_46.2.2.2.2.2.2 A hok hc).2.2.skip ((hi_46.2.2.2.2.2.2 A hok hc).1.f (by rw [← hc.n, ← en4]; exact hj) c_63)⟩⟩) (lv_sub hl [1, 2, 3, 0] rfl) HX1879
              · refine lv_iconst (v := nI (0)) hx hb dX7_burning_66 (by decide) ?_
                refine lv_istore (lv' := [(4, .int (nI (0))), (0, .ref (fa_B G + (397))), (1, .int (mny)), (2, .int (nI (lf))), (3, .int (nI (pl)))]) hx hb dX7_burning_67 hl (by decide) rfl (fun ls hl => ?_)
                have LOOP_69 : ∀ (fu : Nat) (k : Nat) (v1886 : fa_V) (H : Heap) (locs : List Loc) (ls : Array Slot), 15 - k < fu → (k ≤ 15 ∧ fa_MS (v1886 398) ∧ v1886 398 14 = v 398 14 ∧ v1886 398 15 = v 398 15 ∧ fa_f2 v v1886 ∧ (∀ A, fb_okA A → fb_mA (v 398) A → fb_bS A (v1886 402) ∧ mny = (fb_burnA A).1 ∧ fb_b3 A (v1886 398) lf pl k)) → lv_has ls 5 [(0, .ref (fa_B G + (397))), (1, .int (mny)), (2, .int (nI (lf))), (3, .int (nI (pl))), (4, .int (nI (k)))] → fa_HX G (n) v1886 r s H locs → W p l e (fa_rm 6) s m args below meth c H locs (0) (0) Q (F0 m 69 ls []) := by
                  intro fu
                  induction fu with
                  | zero => intro k v1886 H locs ls hk; exact absurd hk (Nat.not_lt_zero _)
                  | succ fu ih_69 =>
                    intro k v1886 H locs ls hk_69 hi_69 hl HX1887
                    refine lv_iload hx hb dX7_burning_69 (lv_at hl 4 rfl) ?_
                    refine lv_bipush (v := nI (15)) hx hb dX7_burning_71 (by decide) ?_
                    refine lv_icmp_ge (tgt := 106) hx hb dX7_burning_73 (by decide) (fun c_73 => ?_) (fun c_73 => ?_)
                    · have hk := fa_leN (by omega) (by omega) c_73
                      refine lv_iinc (v := nI (lf + 1)) (lv' := [(2, .int (nI (lf + 1))), (0, .ref (fa_B G + (397))), (1, .int (mny)), (3, .int (nI (pl))), (4, .int (nI (k)))]) hx hb dX7_burning_106 hl (k := 2) rfl (nI_add (lf) 1) (by decide) rfl (fun ls hl => ?_)
                      refine lv_iinc (v := nI (pl + 1)) (lv' := [(3, .int (nI (pl + 1))), (2, .int (nI (lf + 1))), (0, .ref (fa_B G + (397))), (1, .int (mny)), (4, .int (nI (k)))]) hx hb dX7_burning_109 hl (k := 3) rfl (nI_add (pl) 1) (by decide) rfl (fun ls hl => ?_)
                      refine lv_goto (tgt := 46) hx hb dX7_burning_112 (by decide) ?_
                      exact ih_46 (lf + 1) (pl + 1) (mny) v1886 _ _ _ (by omega) (⟨by omega, by omega, hi_69.2.1, ((show v1886 398 14 = nI (n4) from ((hi_69.2.2.1).trans g4)).trans g4.symm), ((show v1886 398 15 = nI (n5) from ((hi_69.2.2.2.1).trans g5)).trans g5.symm), (fa_f2.tr fa_f2.rf hi_69.2.2.2.2.1), fun A hok hc => ⟨(hi_69.2.2.2.2.2 A hok hc).1, (hi_69.2.2.2.2.2 A hok hc).2.1, fb_b3.e (by have z := (hi_69.2.2.2.2.2 A hok hc).2.2; rw [show k = 15 by omega] at z; exact z) ((hi_46.2.2.2.2.2.2 A hok hc).1.t (by rw [← hc.n, ← en4]; exact hj) c_63)⟩⟩) (lv_sub hl [2, 3, 1, 0] rfl) HX1887
                    · have hk := fa_ltN (by omega) (by omega) c_73
                      refine lv_aload_n hx hb dX7_burning_76 rfl (lv_at hl 0 rfl) ?_
                      refine fa_getr (k := 397) (j := 398) CX HX1887 fl_X7_7 (by omega) rfl rfl hM.1 dX7_burning_77 ?_
                      refine lv_iload_n hx hb dX7_burning_80 rfl (lv_at hl 2 rfl) ?_
                      refine fa_callSip (As := [.int (nI (lf))]) (rest := [.ref (fa_B G + (398))]) CX HX1887 (r_f l G n v1886 r (lf)) ln_X7_36 rfl rfl (Nat.le_of_ble_eq_true rfl) hl.1 ⟨Nat.le_of_ble_eq_true rfl, Nat.le_of_ble_eq_true rfl⟩ ⟨Nat.le_refl _, Nat.le_refl _⟩ dX7_burning_81 (fun x1889 H locs h1888 HX1890 => ?_)
                      subst h1888
                      refine lv_iload hx hb dX7_burning_84 (lv_at hl 4 rfl) ?_
                      refine fa_iaddN hx hb dX7_burning_86 ?_
                      refine lv_aload_n hx hb dX7_burning_87 rfl (lv_at hl 0 rfl) ?_
                      refine fa_getr (k := 397) (j := 398) CX HX1890 fl_X7_7 (by omega) rfl rfl hM.1 dX7_burning_88 ?_
                      refine lv_iload_n hx hb dX7_burning_91 rfl (lv_at hl 3 rfl) ?_
                      refine fa_callSip (As := [.int (nI (pl))]) (rest := [.ref (fa_B G + (398)), .int (nI (17 + 15 * lf + k)), .ref (fa_B G + (398))]) CX HX1890 (r_f l G n v1886 r (pl)) ln_X7_36 rfl rfl (Nat.le_of_ble_eq_true rfl) hl.1 ⟨Nat.le_of_ble_eq_true rfl, Nat.le_of_ble_eq_true rfl⟩ ⟨Nat.le_refl _, Nat.le_refl _⟩ dX7_burning_92 (fun x1892 H locs h1891 HX1893 => ?_)
                      subst h1891
                      refine lv_iload hx hb dX7_burning_95 (lv_at hl 4 rfl) ?_
                      refine fa_iaddN hx hb dX7_burning_97 ?_
                      refine fa_iald (k := 398) (j := 17 + 15 * pl + k) CX HX1893 (by omega) rfl (by omega) (by first | decide | assumption) dX7_burning_98 ?_
                      refine fa_iast (k := 398) (j := 17 + 15 * lf + k) CX HX1893 (by omega) rfl (by omega) (by first | decide | assumption) dX7_burning_99 (fun H locs v1894 e1895 HX1896 => ?_)
                      refine lv_iinc (v := nI (k + 1)) (lv' := [(4, .int (nI (k + 1))), (0, .ref (fa_B G + (397))), (1, .int (mny)), (2, .int (nI (lf))), (3, .int (nI (pl)))]) hx hb dX7_burning_100 hl (k := 4) rfl (nI_add (k) 1) (by decide) rfl (fun ls hl => ?_)
                      refine lv_goto (tgt := 69) hx hb dX7_burning_103 (by decide) ?_
                      exact ih_69 (k + 1) v1894 _ _ _ (by omega) (⟨by omega, (show fa_MS (v1894 398) from by rw [e1895]; exact fa_MS.u hi_69.2.1 (fa_ok.cp (by omega) (by omega) (by omega) (hi_69.2.1 (17 + 15 * pl + k) (by omega)))), ((show v1894 398 14 = nI (n4) from (by rw [e1895, fa_u_n _ _ (by omega)]; exact ((hi_69.2.2.1).trans g4))).trans g4.symm), ((show v1894 398 15 = nI (n5) from (by rw [e1895, fa_u_n _ _ (by omega)]; exact ((hi_69.2.2.2.1).trans g5))).trans g5.symm), (by rw [e1895]; exact fa_f2.u (fa_f2.tr fa_f2.rf hi_69.2.2.2.2.1) (by decide)), fun A hok hc => ⟨by (rw [e1895, fa_u_k _ _ (by decide)]; exact (hi_69.2.2.2.2.2 A hok hc).1), (hi_69.2.2.2.2.2 A hok hc).2.1, fb_b3.s hok.1.1 hi_46.1 (by rw [← hc.n, ← en4]; exact hj) ((hi_46.2.2.2.2.2.2 A hok hc).1.t (by rw [← hc.n, ← en4]; exact hj) c_63) hk (hi_69.2.2.2.2.2 A hok hc).2.2 e1895⟩⟩) (lv_sub hl [1, 2, 3, 4, 0] rfl) HX1896
                exact LOOP_69 (15 - 0 + 1) (0) v1878 _ _ _ (Nat.lt_succ_self _) (⟨Nat.zero_le _, hi_46.2.2.1, ((show v1878 398 14 = nI (n4) from ((hi_46.2.2.2.1).trans g4)).trans g4.symm), ((show v1878 398 15 = nI (n5) from ((hi_46.2.2.2.2.1).trans g5)).trans g5.symm), (fa_f2.tr fa_f2.rf hi_46.2.2.2.2.2.1), fun A hok hc => ⟨(hi_46.2.2.2.2.2.2 A hok hc).1, (hi_46.2.2.2.2.2.2 A hok hc).2.1, (hi_46.2.2.2.2.2.2 A hok hc).2.2.three⟩⟩) (lv_sub hl [1, 2, 3, 4, 0] rfl) HX1879
        exact LOOP_46 (n4 - 0 + 1) (0) (0) (mny) v1876 _ _ _ (Nat.lt_succ_self _) (⟨Nat.le_refl _, Nat.zero_le _, hi_8.2.1, ((show v1876 398 14 = nI (n4) from ((hi_8.2.2.1).trans g4)).trans g4.symm), ((show v1876 398 15 = nI (n5) from ((hi_8.2.2.2.1).trans g5)).trans g5.symm), (fa_f2.tr fa_f2.rf hi_8.2.2.2.2.1), fun A hok hc => (by have z := hi_8.2.2.2.2.2 A hok hc; rw [show j = A.n by rw [← hc.n, ← en4]; exact hjn] at z; exact ⟨z.1, z.2.1, z.2.two⟩)⟩) (lv_sub hl [2, 3, 1, 0] rfl) HX1877
      · have hj := fa_ltN (by omega) (by omega) c_16
        refine lv_aload_n hx hb dX7_burning_19 rfl (lv_at hl 0 rfl) ?_
        refine fa_getr (k := 397) (j := 402) CX HX1877 fl_X7_22 (by omega) rfl rfl hM.2.2.2.2.1 dX7_burning_20 ?_
        refine lv_iload_n hx hb dX7_burning_23 rfl (lv_at hl 2 rfl) ?_
        refine fa_zald (k := 402) (j := j) CX HX1877 (by omega) rfl (by omega) (by first | decide | assumption) dX7_burning_24 ?_
        refine lv_if_ne (tgt := 36) hx hb dX7_burning_25 (by decide) (fun c_25 => ?_) (fun c_25 => ?_)
        · refine lv_iinc (v := nI (j + 1)) (lv' := [(2, .int (nI (j + 1))), (0, .ref (fa_B G + (397))), (1, .int (mny))]) hx hb dX7_burning_36 hl (k := 2) rfl (nI_add (j) 1) (by decide) rfl (fun ls hl => ?_)
          refine lv_goto (tgt := 8) hx hb dX7_burning_39 (by decide) ?_
          exact ih_8 (j + 1) (mny) v1876 _ _ _ (by omega) (⟨by omega, hi_8.2.1, ((show v1876 398 14 = nI (n4) from ((hi_8.2.2.1).trans g4)).trans g4.symm), ((show v1876 398 15 = nI (n5) from ((hi_8.2.2.2.1).trans g5)).trans g5.symm), (fa_f2.tr fa_f2.rf hi_8.2.2.2.2.1), fun A hok hc => ⟨(hi_8.2.2.2.2.2 A hok hc).1, (hi_8.2.2.2.2.2 A hok hc).2.skip ((hi_8.2.2.2.2.2 A hok hc).1.t (by rw [← hc.n, ← en4]; exact hj) c_25)⟩⟩) (lv_sub hl [1, 2, 0] rfl) HX1877
        · refine lv_aload_n hx hb dX7_burning_28 rfl (lv_at hl 0 rfl) ?_
          refine lv_iload_n hx hb dX7_burning_29 rfl (lv_at hl 2 rfl) ?_
          refine fa_callVvu (As := [.int (nI (j))]) (rest := []) CX HX1877 (r_burn l G n hn v1876 r hM hi_8.2.1 (j) (by omega)) ln_X7_70 (by omega) rfl rfl rfl rfl (Nat.le_of_ble_eq_true rfl) hl.1 ⟨Nat.le_of_ble_eq_true rfl, Nat.le_of_ble_eq_true rfl⟩ ⟨Nat.le_refl _, Nat.le_refl _⟩ dX7_burning_30 (fun v1898 H locs h1897 HX1899 => ?_)
          have hS_v1898 := h1897.1.1
          have h_burn := h1897.1.2.2.2
          refine lv_iinc (v := mny + (1)) (lv' := [(1, .int (mny + (1))), (0, .ref (fa_B G + (397))), (2, .int (nI (j)))]) hx hb dX7_burning_33 hl (k := 1) rfl rfl (by decide) rfl (fun ls hl => ?_)
          refine lv_iinc (v := nI (j + 1)) (lv' := [(2, .int (nI (j + 1))), (1, .int (mny + (1))), (0, .ref (fa_B G + (397)))]) hx hb dX7_burning_36 hl (k := 2) rfl (nI_add (j) 1) (by decide) rfl (fun ls hl => ?_)
          refine lv_goto (tgt := 8) hx hb dX7_burning_39 (by decide) ?_
          exact ih_8 (j + 1) (mny + (1)) v1898 _ _ _ (by omega) (⟨by omega, hS_v1898, ((show v1898 398 14 = nI (n4) from ((h1897.1.2.1).trans ((hi_8.2.2.1).trans g4))).trans g4.symm), ((show v1898 398 15 = nI (n5) from ((h1897.1.2.2.1).trans ((hi_8.2.2.2.1).trans g5))).trans g5.symm), (fa_f2.tr (fa_f2.tr fa_f2.rf hi_8.2.2.2.2.1) (fa_f2.of398 h1897.2)), fun A hok hc => ⟨by (rw [h1897.2 402 (by omega)]; exact (hi_8.2.2.2.2.2 A hok hc).1), (hi_8.2.2.2.2.2 A hok hc).2.burn hok.1.1 (by rw [← hc.n, ← en4]; exact hj) ((hi_8.2.2.2.2.2 A hok hc).1.f (by rw [← hc.n, ← en4]; exact hj) c_25) (show v1898 398 15 = v1876 398 15 from h1897.1.2.2.1) h_burn⟩⟩) (lv_sub hl [2, 1, 0] rfl) HX1899
  exact LOOP_8 (n4 - 0 + 1) (0) (nI (0)) v1874 _ _ _ (Nat.lt_succ_self _) (⟨Nat.zero_le _, (show fa_MS (v1874 398) from by rw [h1873.2 398 (by omega)]; exact hS), ((show v1874 398 14 = nI (n4) from (by rw [h1873.2 _ (by omega)]; exact g4)).trans g4.symm), ((show v1874 398 15 = nI (n5) from (by rw [h1873.2 _ (by omega)]; exact g5)).trans g5.symm), (fa_f2.tr fa_f2.rf (fa_f2.of402 h1873.2)), fun A hok hc => ⟨h_tellStaying A hok hc, fb_b1.start (by rw [h1873.2 398 (by omega)]; exact hc)⟩⟩) (lv_sub hl [2, 1, 0] rfl) HX1875
