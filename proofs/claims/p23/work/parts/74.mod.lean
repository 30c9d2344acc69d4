set_option maxHeartbeats 4000000 in
set_option maxRecDepth 100000 in
theorem r_burning (l : Launch) (G : fa_G) (n : Nat) (hn : 406 ≤ n) (v : fa_V) (r : fa_R) (hM : fa_RM r) (hS : fa_MS (v 398)) : fa_MI l G n yX7_burning cX7_burning 5 (some .int) 6 [.ref (fa_B G + (397))] v r (fa_voi r (fun x v1 => ((fa_MS (v1 398)) ∧ (v1 398 15 = v 398 15) ∧ (fa_f2 v v1) ∧ ((∀ A, fb_okA A → fb_mA (v 398) A → x = (fb_burnA A).1 ∧ fb_mA (v1 398) (fb_burnA A).2))) ∧ (fa_fr (398) (403) v v1))) := by
  refine fa_startI (by decide +kernel) (Nat.le_of_ble_eq_true rfl) (fun p e s m args below meth c ls Q CX hl HX RET => ?_)
  have hl : lv_has ls 5 [(0, .ref (fa_B G + (397)))] := hl
  have hx := CX.1.1
  have hb := CX.1.2.1
  obtain ⟨n4, en4⟩ : ∃ m, m = fa_N (v 398 14) := ⟨_, rfl⟩
  obtain ⟨hn4, g4⟩ := hS.n4 en4
  obtain ⟨n5, en5⟩ : ∃ m, m = fa_N (v 398 15) := ⟨_, rfl⟩
  obtain ⟨hn5, g5⟩ := hS.n5 en5
  obtain ⟨n6, en6⟩ : ∃ m, m = fa_N (v 398 16) := ⟨_, rfl⟩
  obtain ⟨hn6, g6⟩ := hS.n6 en6
  refine lv_iconst (v := nI (0)) hx hb dX7_burning_0 (by decide) ?_
  refine lv_istore_n (lv' := [(1, .int (nI (0))), (0, .ref (fa_B G + (397)))]) hx hb dX7_burning_1 rfl hl (by decide) rfl (fun ls hl => ?_)
  refine lv_aload_n hx hb dX7_burning_2 rfl (lv_at hl 1 rfl) ?_
  refine fa_callVvu (As := []) (rest := []) CX HX (r_tellStaying l G n hn v r hM hS ) ln_X7_67 (by omega) rfl rfl rfl rfl (Nat.le_of_ble_eq_true rfl) hl.1 ⟨Nat.le_of_ble_eq_true rfl, Nat.le_of_ble_eq_true rfl⟩ ⟨Nat.le_refl _, Nat.le_refl _⟩ dX7_burning_3 (fun v1874 H locs h1873 HX1875 => ?_)
  have h_tellStaying := h1873.1
  refine lv_iconst (v := nI (0)) hx hb dX7_burning_6 (by decide) ?_
  refine lv_istore_n (lv' := [(2, .int (nI (0))), (1, .int (nI (0))), (0, .ref (fa_B G + (397)))]) hx hb dX7_burning_7 rfl hl (by decide) rfl (fun ls hl => ?_)
  have LOOP_8 : ∀ (fu : Nat) (j : Nat) (mny : Int32) (v1876 : fa_V) (H : Heap) (locs : List Loc) (ls : Array Slot), n4 - j < fu → (j ≤ n4 ∧ fa_MS (v1876 398) ∧ v1876 398 14 = v 398 14 ∧ v1876 398 15 = v 398 15 ∧ fa_f2 v v1876 ∧ (∀ A, fb_okA A → fb_mA (v 398) A → fb_bS A (v1876 402) ∧ fb_b1 A (v1876 398) mny j)) → lv_has ls 5 [(0, .ref (fa_B G + (397))), (1, .int (mny)), (2, .int (nI (j)))] → fa_HX G (n) v1876 r s H locs → W p l e (fa_rm 6) s m args below meth c H locs (0) (0) Q (F0 m 8 ls []) := by
    intro fu
    induction fu with
    | zero => intro j mny v1876 H locs ls hk; exact absurd hk (Nat.not_lt_zero _)
    | succ fu ih_8 =>
      intro j mny v1876 H locs ls hk_8 hi_8 hl HX1877
      refine lv_iload_n hx hb dX7_burning_8 rfl (lv_at hl 2 rfl) ?_
      refine lv_aload_n hx hb dX7_burning_9 rfl (lv_at hl 0 rfl) ?_
      refine fa_getr (k := 397) (j := 398) CX HX1877 fl_X7_7 (by omega) rfl rfl hM.1 dX7_burning_10 ?_
      refine lv_bipush (v := nI (14)) hx hb dX7_burning_13 (by decide) ?_
      refine fa_iald (k := 398) (j := 14) CX HX1877 (by omega) rfl (by omega) (by first | decide | assumption) dX7_burning_15 ?_
      rw [show v1876 398 14 = nI (n4) from ((hi_8.2.2.1).trans g4)]
      refine lv_icmp_ge (tgt := 42) hx hb dX7_burning_16 (by decide) (fun c_16 => ?_) (fun c_16 => ?_)
      · have hjn : j = n4 := by
          have := fa_leN (by omega) (by omega) c_16
          omega
        refine lv_iconst (v := nI (0)) hx hb dX7_burning_42 (by decide) ?_
        refine lv_istore_n (lv' := [(2, .int (nI (0))), (0, .ref (fa_B G + (397))), (1, .int (mny))]) hx hb dX7_burning_43 rfl hl (by decide) rfl (fun ls hl => ?_)
        refine lv_iconst (v := nI (0)) hx hb dX7_burning_44 (by decide) ?_
        refine lv_istore_n (lv' := [(3, .int (nI (0))), (2, .int (nI (0))), (0, .ref (fa_B G + (397))), (1, .int (mny))]) hx hb dX7_burning_45 rfl hl (by decide) rfl (fun ls hl => ?_)
        have LOOP_46 : ∀ (fu : Nat) (lf : Nat) (pl : Nat) (mny : Int32) (v1878 : fa_V) (H : Heap) (locs : List Loc) (ls : Array Slot), n4 - pl < fu → (lf ≤ pl ∧ pl ≤ n4 ∧ fa_MS (v1878 398) ∧ v1878 398 14 = v 398 14 ∧ v1878 398 15 = v 398 15 ∧ fa_f2 v v1878 ∧ (∀ A, fb_okA A → fb_mA (v 398) A → fb_bS A (v1878 402) ∧ mny = (fb_burnA A).1 ∧ fb_b2 A (v1878 398) lf pl)) → lv_has ls 5 [(0, .ref (fa_B G + (397))), (1, .int (mny)), (2, .int (nI (lf))), (3, .int (nI (pl)))] → fa_HX G (n) v1878 r s H locs → W p l e (fa_rm 6) s m args below meth c H locs (0) (0) Q (F0 m 46 ls []) := by
          intro fu
          induction fu with
          | zero => intro lf pl mny v1878 H locs ls hk; exact absurd hk (Nat.not_lt_zero _)
          | succ fu ih_46 =>
            intro lf pl mny v1878 H locs ls hk_46 hi_46 hl HX1879
            refine lv_iload_n hx hb dX7_burning_46 rfl (lv_at hl 3 rfl) ?_
            refine lv_aload_n hx hb dX7_burning_47 rfl (lv_at hl 0 rfl) ?_
            refine fa_getr (k := 397) (j := 398) CX HX1879 fl_X7_7 (by omega) rfl rfl hM.1 dX7_burning_48 ?_
            refine lv_bipush (v := nI (14)) hx hb dX7_burning_51 (by decide) ?_
            refine fa_iald (k := 398) (j := 14) CX HX1879 (by omega) rfl (by omega) (by first | decide | assumption) dX7_burning_53 ?_
            rw [show v1878 398 14 = nI (n4) from ((hi_46.2.2.2.1).trans g4)]
            refine lv_icmp_ge (tgt := 115) hx hb dX7_burning_54 (by decide) (fun c_54 => ?_) (fun c_54 => ?_)
            · have hjp : pl = n4 := by
                have := fa_leN (by omega) (by omega) c_54
                omega
              refine lv_aload_n hx hb dX7_burning_115 rfl (lv_at hl 0 rfl) ?_
              refine fa_getr (k := 397) (j := 398) CX HX1879 fl_X7_7 (by omega) rfl rfl hM.1 dX7_burning_116 ?_
              refine lv_bipush (v := nI (14)) hx hb dX7_burning_119 (by decide) ?_
              refine lv_iload_n hx hb dX7_burning_121 rfl (lv_at hl 2 rfl) ?_
              refine fa_iast (k := 398) (j := 14) CX HX1879 (by omega) rfl (by omega) (by first | decide | assumption) dX7_burning_122 (fun H locs v1880 e1881 HX1882 => ?_)
              refine lv_aload_n hx hb dX7_burning_123 rfl (lv_at hl 0 rfl) ?_
              refine fa_getr (k := 397) (j := 398) CX HX1882 fl_X7_7 (by omega) rfl rfl hM.1 dX7_burning_124 ?_
              refine lv_bipush (v := nI (13)) hx hb dX7_burning_127 (by decide) ?_
              refine lv_dup2_11 hx hb dX7_burning_129 rfl rfl ?_
              refine fa_iald (k := 398) (j := 13) CX HX1882 (by omega) rfl (by omega) (by first | decide | assumption) dX7_burning_130 ?_
              refine lv_iconst (v := nI (1)) hx hb dX7_burning_131 (by decide) ?_
              refine lv_iadd hx hb dX7_burning_132 ?_
              refine fa_iast (k := 398) (j := 13) CX HX1882 (by omega) rfl (by omega) (by first | decide | assumption) dX7_burning_133 (fun H locs v1883 e1884 HX1885 => ?_)
              refine lv_iload_n hx hb dX7_burning_134 rfl (lv_at hl 1 rfl) ?_
              exact RET _ _ _ _ _ _ _ HX1885 dX7_burning_135 (⟨rfl, ⟨⟨(show fa_MS (v1883 398) from by rw [e1884]; exact fa_MS.u (show fa_MS (v1880 398) from by rw [e1881]; exact fa_MS.u hi_46.2.2.1 (fa_ok.n14 (by omega))) (fa_ok.o (by omega) (by omega) (by omega) (fun p hp => by omega))), (show v1883 398 15 = v 398 15 from ((show v1883 398 15 = nI (n5) from (by rw [e1884, fa_u_n _ _ (by omega)]; exact (by rw [e1881, fa_u_n _ _ (by omega)]; exact ((hi_46.2.2.2.2.1).trans g5)))).trans g5.symm)), (by rw [e1884]; exact fa_f2.u (by rw [e1881]; exact fa_f2.u (fa_f2.tr fa_f2.rf hi_46.2.2.2.2.2.1) (by decide)) (by decide)), (fun A hok hc => ⟨(hi_46.2.2.2.2.2.2 A hok hc).2.1, fb_b2.e hok.1.1 (by have z := (hi_46.2.2.2.2.2.2 A hok hc).2.2; rw [show pl = A.n by rw [← hc.n, ← en4]; exact hjp] at z; exact z) e1881 e1884⟩)⟩, (by rw [e1884]; exact fa_fr.u (by rw [e1881]; exact fa_fr.u (fa_fr.tr fa_fr.rf (fa_fr.wide (fa_f2.fr hi_46.2.2.2.2.2.1) (by omega) (by omega))) (by omega)) (by omega))⟩⟩)
            · have hj := fa_ltN (by omega) (by omega) c_54
              refine lv_aload_n hx hb dX7_burning_57 rfl (lv_at hl 0 rfl) ?_
              refine fa_getr (k := 397) (j := 402) CX HX1879 fl_X7_22 (by omega) rfl rfl hM.2.2.2.2.1 dX7_burning_58 ?_
              refine lv_iload_n hx hb dX7_burning_61 rfl (lv_at hl 3 rfl) ?_
              refine fa_zald (k := 402) (j := pl) CX HX1879 (by omega) rfl (by omega) (by first | decide | assumption) dX7_burning_62 ?_
              refine lv_if_eq (tgt := 109) hx hb dX7_burning_63 (by decide) (fun c_63 => ?_) (fun c_63 => ?_)
              · refine lv_iinc (v := nI (pl + 1)) (lv' := [(3, .int (nI (pl + 1))), (0, .ref (fa_B G + (397))), (1, .int (mny)), (2, .int (nI (lf)))]) hx hb dX7_burning_109 hl (k := 3) rfl (nI_add (pl) 1) (by decide) rfl (fun ls hl => ?_)
                refine lv_goto (tgt := 46) hx hb dX7_burning_112 (by decide) ?_
                exact ih_46 (lf) (pl + 1) (mny) v1878 _ _ _ (by omega) (⟨by omega, by omega, hi_46.2.2.1, ((show v1878 398 14 = nI (n4) from ((hi_46.2.2.2.1).trans g4)).trans g4.symm), ((show v1878 398 15 = nI (n5) from ((hi_46.2.2.2.2.1).trans g5)).trans g5.symm), (fa_f2.tr fa_f2.rf hi_46.2.2.2.2.2.1), fun A hok hc => ⟨(hi_46.2.2.2.2.2.2 A hok hc).1, (hi_46.2.2.2.2.2.2 A hok hc).2.1, (hi_46.2.2.2.2.2.2 A hok hc).2.2.skip ((hi_46.2.2.2.2.2.2 A hok hc).1.f (by rw [← hc.n, ← en4]; exact hj) c_63)⟩⟩) (lv_sub hl [1, 2, 3, 0] rfl) HX1879
              · refine lv_iconst (v := nI (0)) hx hb dX7_burning_66 (by decide) ?_
                refine lv_istore (lv' := [(4, .int (nI (0))), (0, .ref (fa_B G + (397))), (1, .int (mny)), (2, .int (nI (lf))), (3, .int (nI (pl)))]) hx hb dX7_burning_67 hl (by decide) rfl (fun ls hl => ?_)
                have LOOP_69 : ∀ (fu : Nat) (k : Nat) (v1886 : fa_V) (H : Heap) (locs : List Loc) (ls : Array Slot), 15 - k < fu → (k ≤ 15 ∧ fa_MS (v1886 398) ∧ v1886 398 14 = v 398 14 ∧ v1886 398 15 = v 398 15 ∧ fa_f2 v v1886 ∧ (∀ A, fb_okA A → fb_mA (v 398) A → fb_bS A (v1886 402) ∧ mny = (fb_burnA A).1 ∧ fb_b3 A (v1886 398) lf pl k)) → lv_has ls 5 [(0, .ref (fa_B G + (397))), (1, .int (mny)), (2, .int (nI (lf))), (3, .int (nI (pl))), (4, .int (nI (k)))] → fa_HX G (n) v1886 r s H locs → W p l e (fa_rm 6) s m args below meth c H locs (0) (0) Q (F0 m 69 ls []) := by
                  intro fu
                  induction fu with
                  | zero => intro k v1886 H locs ls hk; exact absurd hk (Nat.not_lt_zero _)
                  | succ fu ih_69 =>
                    intro k v1886 H locs ls hk_69 hi_69 hl HX1887
                    refine lv_iload hx hb dX7_burning_69 (lv_at hl 4 rfl) ?_
                    refine lv_bipush (v := nI (15)) hx hb dX7_burning_71 (by decide) ?_
                    refine lv_icmp_ge (tgt := 106) hx hb dX7_burning_73 (by decide) (fun c_73 => ?_) (fun c_73 => ?_)
                    · have hk := fa_leN (by omega) (by omega) c_73
                      refine lv_iinc (v := nI (lf + 1)) (lv' := [(2, .int (nI (lf + 1))), (0, .ref (fa_B G + (397))), (1, .int (mny)), (3, .int (nI (pl))), (4, .int (nI (k)))]) hx hb dX7_burning_106 hl (k := 2) rfl (nI_add (lf) 1) (by decide) rfl (fun ls hl => ?_)
                      refine lv_iinc (v := nI (pl + 1)) (lv' := [(3, .int (nI (pl + 1))), (2, .int (nI (lf + 1))), (0, .ref (fa_B G + (397))), (1, .int (mny)), (4, .int (nI (k)))]) hx hb dX7_burning_109 hl (k := 3) rfl (nI_add (pl) 1) (by decide) rfl (fun ls hl => ?_)
                      refine lv_goto (tgt := 46) hx hb dX7_burning_112 (by decide) ?_
                      exact ih_46 (lf + 1) (pl + 1) (mny) v1886 _ _ _ (by omega) (⟨by omega, by omega, hi_69.2.1, ((show v1886 398 14 = nI (n4) from ((hi_69.2.2.1).trans g4)).trans g4.symm), ((show v1886 398 15 = nI (n5) from ((hi_69.2.2.2.1).trans g5)).trans g5.symm), (fa_f2.tr fa_f2.rf hi_69.2.2.2.2.1), fun A hok hc => ⟨(hi_69.2.2.2.2.2 A hok hc).1, (hi_69.2.2.2.2.2 A hok hc).2.1, fb_b3.e (by have z := (hi_69.2.2.2.2.2 A hok hc).2.2; rw [show k = 15 by omega] at z; exact z) ((hi_46.2.2.2.2.2.2 A hok hc).1.t (by rw [← hc.n, ← en4]; exact hj) c_63)⟩⟩) (lv_sub hl [2, 3, 1, 0] rfl) HX1887
                    · have hk := fa_ltN (by omega) (by omega) c_73
                      refine lv_aload_n hx hb dX7_burning_76 rfl (lv_at hl 0 rfl) ?_
                      refine fa_getr (k := 397) (j := 398) CX HX1887 fl_X7_7 (by omega) rfl rfl hM.1 dX7_burning_77 ?_
                      refine lv_iload_n hx hb dX7_burning_80 rfl (lv_at hl 2 rfl) ?_
                      refine fa_callSip (As := [.int (nI (lf))]) (rest := [.ref (fa_B G + (398))]) CX HX1887 (r_f l G n v1886 r (lf)) ln_X7_36 rfl rfl (Nat.le_of_ble_eq_true rfl) hl.1 ⟨Nat.le_of_ble_eq_true rfl, Nat.le_of_ble_eq_true rfl⟩ ⟨Nat.le_refl _, Nat.le_refl _⟩ dX7_burning_81 (fun x1889 H locs h1888 HX1890 => ?_)
                      subst h1888
                      refine lv_iload hx hb dX7_burning_84 (lv_at hl 4 rfl) ?_
                      refine fa_iaddN hx hb dX7_burning_86 ?_
                      refine lv_aload_n hx hb dX7_burning_87 rfl (lv_at hl 0 rfl) ?_
                      refine fa_getr (k := 397) (j := 398) CX HX1890 fl_X7_7 (by omega) rfl rfl hM.1 dX7_burning_88 ?_
                      refine lv_iload_n hx hb dX7_burning_91 rfl (lv_at hl 3 rfl) ?_
                      refine fa_callSip (As := [.int (nI (pl))]) (rest := [.ref (fa_B G + (398)), .int (nI (17 + 15 * lf + k)), .ref (fa_B G + (398))]) CX HX1890 (r_f l G n v1886 r (pl)) ln_X7_36 rfl rfl (Nat.le_of_ble_eq_true rfl) hl.1 ⟨Nat.le_of_ble_eq_true rfl, Nat.le_of_ble_eq_true rfl⟩ ⟨Nat.le_refl _, Nat.le_refl _⟩ dX7_burning_92 (fun x1892 H locs h1891 HX1893 => ?_)
                      subst h1891
                      refine lv_iload hx hb dX7_burning_95 (lv_at hl 4 rfl) ?_
                      refine fa_iaddN hx hb dX7_burning_97 ?_
                      refine fa_iald (k := 398) (j := 17 + 15 * pl + k) CX HX1893 (by omega) rfl (by omega) (by first | decide | assumption) dX7_burning_98 ?_
                      refine fa_iast (k := 398) (j := 17 + 15 * lf + k) CX HX1893 (by omega) rfl (by omega) (by first | decide | assumption) dX7_burning_99 (fun H locs v1894 e1895 HX1896 => ?_)
                      refine lv_iinc (v := nI (k + 1)) (lv' := [(4, .int (nI (k + 1))), (0, .ref (fa_B G + (397))), (1, .int (mny)), (2, .int (nI (lf))), (3, .int (nI (pl)))]) hx hb dX7_burning_100 hl (k := 4) rfl (nI_add (k) 1) (by decide) rfl (fun ls hl => ?_)
                      refine lv_goto (tgt := 69) hx hb dX7_burning_103 (by decide) ?_
                      exact ih_69 (k + 1) v1894 _ _ _ (by omega) (⟨by omega, (show fa_MS (v1894 398) from by rw [e1895]; exact fa_MS.u hi_69.2.1 (fa_ok.cp (by omega) (by omega) (by omega) (hi_69.2.1 (17 + 15 * pl + k) (by omega)))), ((show v1894 398 14 = nI (n4) from (by rw [e1895, fa_u_n _ _ (by omega)]; exact ((hi_69.2.2.1).trans g4))).trans g4.symm), ((show v1894 398 15 = nI (n5) from (by rw [e1895, fa_u_n _ _ (by omega)]; exact ((hi_69.2.2.2.1).trans g5))).trans g5.symm), (by rw [e1895]; exact fa_f2.u (fa_f2.tr fa_f2.rf hi_69.2.2.2.2.1) (by decide)), fun A hok hc => ⟨by (rw [e1895, fa_u_k _ _ (by decide)]; exact (hi_69.2.2.2.2.2 A hok hc).1), (hi_69.2.2.2.2.2 A hok hc).2.1, fb_b3.s hok.1.1 hi_46.1 (by rw [← hc.n, ← en4]; exact hj) ((hi_46.2.2.2.2.2.2 A hok hc).1.t (by rw [← hc.n, ← en4]; exact hj) c_63) hk (hi_69.2.2.2.2.2 A hok hc).2.2 e1895⟩⟩) (lv_sub hl [1, 2, 3, 4, 0] rfl) HX1896
                exact LOOP_69 (15 - 0 + 1) (0) v1878 _ _ _ (Nat.lt_succ_self _) (⟨Nat.zero_le _, hi_46.2.2.1, ((show v1878 398 14 = nI (n4) from ((hi_46.2.2.2.1).trans g4)).trans g4.symm), ((show v1878 398 15 = nI (n5) from ((hi_46.2.2.2.2.1).trans g5)).trans g5.symm), (fa_f2.tr fa_f2.rf hi_46.2.2.2.2.2.1), fun A hok hc => ⟨(hi_46.2.2.2.2.2.2 A hok hc).1, (hi_46.2.2.2.2.2.2 A hok hc).2.1, (hi_46.2.2.2.2.2.2 A hok hc).2.2.three⟩⟩) (lv_sub hl [1, 2, 3, 4, 0] rfl) HX1879
        exact LOOP_46 (n4 - 0 + 1) (0) (0) (mny) v1876 _ _ _ (Nat.lt_succ_self _) (⟨Nat.le_refl _, Nat.zero_le _, hi_8.2.1, ((show v1876 398 14 = nI (n4) from ((hi_8.2.2.1).trans g4)).trans g4.symm), ((show v1876 398 15 = nI (n5) from ((hi_8.2.2.2.1).trans g5)).trans g5.symm), (fa_f2.tr fa_f2.rf hi_8.2.2.2.2.1), fun A hok hc => (by have z := hi_8.2.2.2.2.2 A hok hc; rw [show j = A.n by rw [← hc.n, ← en4]; exact hjn] at z; exact ⟨z.1, z.2.1, z.2.two⟩)⟩) (lv_sub hl [2, 3, 1, 0] rfl) HX1877
      · have hj := fa_ltN (by omega) (by omega) c_16
        refine lv_aload_n hx hb dX7_burning_19 rfl (lv_at hl 0 rfl) ?_
        refine fa_getr (k := 397) (j := 402) CX HX1877 fl_X7_22 (by omega) rfl rfl hM.2.2.2.2.1 dX7_burning_20 ?_
        refine lv_iload_n hx hb dX7_burning_23 rfl (lv_at hl 2 rfl) ?_
        refine fa_zald (k := 402) (j := j) CX HX1877 (by omega) rfl (by omega) (by first | decide | assumption) dX7_burning_24 ?_
        refine lv_if_ne (tgt := 36) hx hb dX7_burning_25 (by decide) (fun c_25 => ?_) (fun c_25 => ?_)
        · refine lv_iinc (v := nI (j + 1)) (lv' := [(2, .int (nI (j + 1))), (0, .ref (fa_B G + (397))), (1, .int (mny))]) hx hb dX7_burning_36 hl (k := 2) rfl (nI_add (j) 1) (by decide) rfl (fun ls hl => ?_)
          refine lv_goto (tgt := 8) hx hb dX7_burning_39 (by decide) ?_
          exact ih_8 (j + 1) (mny) v1876 _ _ _ (by omega) (⟨by omega, hi_8.2.1, ((show v1876 398 14 = nI (n4) from ((hi_8.2.2.1).trans g4)).trans g4.symm), ((show v1876 398 15 = nI (n5) from ((hi_8.2.2.2.1).trans g5)).trans g5.symm), (fa_f2.tr fa_f2.rf hi_8.2.2.2.2.1), fun A hok hc => ⟨(hi_8.2.2.2.2.2 A hok hc).1, (hi_8.2.2.2.2.2 A hok hc).2.skip ((hi_8.2.2.2.2.2 A hok hc).1.t (by rw [← hc.n, ← en4]; exact hj) c_25)⟩⟩) (lv_sub hl [1, 2, 0] rfl) HX1877
        · refine lv_aload_n hx hb dX7_burning_28 rfl (lv_at hl 0 rfl) ?_
          refine lv_iload_n hx hb dX7_burning_29 rfl (lv_at hl 2 rfl) ?_
          refine fa_callVvu (As := [.int (nI (j))]) (rest := []) CX HX1877 (r_burn l G n hn v1876 r hM hi_8.2.1 (j) (by omega)) ln_X7_70 (by omega) rfl rfl rfl rfl (Nat.le_of_ble_eq_true rfl) hl.1 ⟨Nat.le_of_ble_eq_true rfl, Nat.le_of_ble_eq_true rfl⟩ ⟨Nat.le_refl _, Nat.le_refl _⟩ dX7_burning_30 (fun v1898 H locs h1897 HX1899 => ?_)
          have hS_v1898 := h1897.1.1
          have h_burn := h1897.1.2.2.2
          refine lv_iinc (v := mny + (1)) (lv' := [(1, .int (mny + (1))), (0, .ref (fa_B G + (397))), (2, .int (nI (j)))]) hx hb dX7_burning_33 hl (k := 1) rfl rfl (by decide) rfl (fun ls hl => ?_)
          refine lv_iinc (v := nI (j + 1)) (lv' := [(2, .int (nI (j + 1))), (1, .int (mny + (1))), (0, .ref (fa_B G + (397)))]) hx hb dX7_burning_36 hl (k := 2) rfl (nI_add (j) 1) (by decide) rfl (fun ls hl => ?_)
          refine lv_goto (tgt := 8) hx hb dX7_burning_39 (by decide) ?_
          exact ih_8 (j + 1) (mny + (1)) v1898 _ _ _ (by omega) (⟨by omega, hS_v1898, ((show v1898 398 14 = nI (n4) from ((h1897.1.2.1).trans ((hi_8.2.2.1).trans g4))).trans g4.symm), ((show v1898 398 15 = nI (n5) from ((h1897.1.2.2.1).trans ((hi_8.2.2.2.1).trans g5))).trans g5.symm), (fa_f2.tr (fa_f2.tr fa_f2.rf hi_8.2.2.2.2.1) (fa_f2.of398 h1897.2)), fun A hok hc => ⟨by (rw [h1897.2 402 (by omega)]; exact (hi_8.2.2.2.2.2 A hok hc).1), (hi_8.2.2.2.2.2 A hok hc).2.burn hok.1.1 (by rw [← hc.n, ← en4]; exact hj) ((hi_8.2.2.2.2.2 A hok hc).1.f (by rw [← hc.n, ← en4]; exact hj) c_25) (show v1898 398 15 = v1876 398 15 from h1897.1.2.2.1) h_burn⟩⟩) (lv_sub hl [2, 1, 0] rfl) HX1899
  exact LOOP_8 (n4 - 0 + 1) (0) (nI (0)) v1874 _ _ _ (Nat.lt_succ_self _) (⟨Nat.zero_le _, (show fa_MS (v1874 398) from by rw [h1873.2 398 (by omega)]; exact hS), ((show v1874 398 14 = nI (n4) from (by rw [h1873.2 _ (by omega)]; exact g4)).trans g4.symm), ((show v1874 398 15 = nI (n5) from (by rw [h1873.2 _ (by omega)]; exact g5)).trans g5.symm), (fa_f2.tr fa_f2.rf (fa_f2.of402 h1873.2)), fun A hok hc => ⟨h_tellStaying A hok hc, fb_b1.start (by rw [h1873.2 398 (by omega)]; exact hc)⟩⟩) (lv_sub hl [2, 1, 0] rfl) HX1875
set_option maxHeartbeats 4000000 in
set_option maxRecDepth 100000 in
theorem r_asks (l : Launch) (G : fa_G) (n : Nat) (hn : 406 ≤ n) (v : fa_V) (r : fa_R) (hM : fa_RM r) (hS : fa_MS (v 398)) (a1 : Int32) (h1 : fa_pl 24 a1) : fa_MI l G n yX7_asks cX7_asks 2 (some .int) 2 [.ref (fa_B G + (397)), .int (a1)] v r (fa_voi r (fun x v1 => ((fa_MS (v1 398)) ∧ (v1 398 14 = v 398 14) ∧ (v1 398 15 = v 398 15) ∧ (v1 398 16 = v 398 16) ∧ (∀ A, fb_okF A.g A.n A.F → fb_mA (v 398) A → ∀ p, p < A.n → a1 = nI p → x = A.F p 5 + nI 1 ∧ fb_mA (v1 398) (fb_askp A p) ∧ ∀ i, i = 15 ∨ 377 ≤ i → v1 398 i = v 398 i)) ∧ (fa_fr (398) (399) v v1))) := by
  refine fa_startI (by decide +kernel) (Nat.le_of_ble_eq_true rfl) (fun p e s m args below meth c ls Q CX hl HX RET => ?_)
  have hl : lv_has ls 2 [(0, .ref (fa_B G + (397))), (1, .int (a1))] := hl
  have hx := CX.1.1
  have hb := CX.1.2.1
  obtain ⟨n4, en4⟩ : ∃ m, m = fa_N (v 398 14) := ⟨_, rfl⟩
  obtain ⟨hn4, g4⟩ := hS.n4 en4
  obtain ⟨n5, en5⟩ : ∃ m, m = fa_N (v 398 15) := ⟨_, rfl⟩
  obtain ⟨hn5, g5⟩ := hS.n5 en5
  obtain ⟨n6, en6⟩ : ∃ m, m = fa_N (v 398 16) := ⟨_, rfl⟩
  obtain ⟨hn6, g6⟩ := hS.n6 en6
  rcases h1 with h1 | ⟨tp, htp, etp⟩
  · subst h1
    refine lv_aload_n hx hb dX7_asks_0 rfl (lv_at hl 0 rfl) ?_
    refine fa_getr (k := 397) (j := 398) CX HX fl_X7_7 (by omega) rfl rfl hM.1 dX7_asks_1 ?_
    refine lv_iload_n hx hb dX7_asks_4 rfl (lv_at hl 1 rfl) ?_
    refine fa_callSip (As := [.int ((-1 : Int32))]) (rest := [.ref (fa_B G + (398))]) CX HX (r_fneg l G n v r) ln_X7_36 rfl rfl (Nat.le_of_ble_eq_true rfl) hl.1 ⟨Nat.le_of_ble_eq_true rfl, Nat.le_of_ble_eq_true rfl⟩ ⟨Nat.le_refl _, Nat.le_refl _⟩ dX7_asks_5 (fun x1901 H locs h1900 HX1902 => ?_)
    subst h1900
    refine lv_iconst (v := nI (4)) hx hb dX7_asks_8 (by decide) ?_
    refine fa_iaddN hx hb dX7_asks_9 ?_
    refine lv_aload_n hx hb dX7_asks_10 rfl (lv_at hl 0 rfl) ?_
    refine fa_getr (k := 397) (j := 398) CX HX1902 fl_X7_7 (by omega) rfl rfl hM.1 dX7_asks_11 ?_
    refine lv_bipush (v := nI (7)) hx hb dX7_asks_14 (by decide) ?_
    refine fa_iald (k := 398) (j := 7) CX HX1902 (by omega) rfl (by omega) (by first | decide | assumption) dX7_asks_16 ?_
    refine fa_iast (k := 398) (j := 2 + 4) CX HX1902 (by omega) rfl (by omega) (by first | decide | assumption) dX7_asks_17 (fun H locs v1903 e1904 HX1905 => ?_)
    refine lv_aload_n hx hb dX7_asks_18 rfl (lv_at hl 0 rfl) ?_
    refine fa_getr (k := 397) (j := 398) CX HX1905 fl_X7_7 (by omega) rfl rfl hM.1 dX7_asks_19 ?_
    refine lv_iload_n hx hb dX7_asks_22 rfl (lv_at hl 1 rfl) ?_
    refine fa_callSip (As := [.int ((-1 : Int32))]) (rest := [.ref (fa_B G + (398))]) CX HX1905 (r_fneg l G n v1903 r) ln_X7_36 rfl rfl (Nat.le_of_ble_eq_true rfl) hl.1 ⟨Nat.le_of_ble_eq_true rfl, Nat.le_of_ble_eq_true rfl⟩ ⟨Nat.le_refl _, Nat.le_refl _⟩ dX7_asks_23 (fun x1907 H locs h1906 HX1908 => ?_)
    subst h1906
    refine lv_iconst (v := nI (5)) hx hb dX7_asks_26 (by decide) ?_
    refine fa_iaddN hx hb dX7_asks_27 ?_
    refine lv_dup2_11 hx hb dX7_asks_28 rfl rfl ?_
    refine fa_iald (k := 398) (j := 2 + 5) CX HX1908 (by omega) rfl (by omega) (by first | decide | assumption) dX7_asks_29 ?_
    refine lv_iconst (v := nI (1)) hx hb dX7_asks_30 (by decide) ?_
    refine lv_iadd hx hb dX7_asks_31 ?_
    refine fa_iast (k := 398) (j := 2 + 5) CX HX1908 (by omega) rfl (by omega) (by first | decide | assumption) dX7_asks_32 (fun H locs v1909 e1910 HX1911 => ?_)
    refine lv_aload_n hx hb dX7_asks_33 rfl (lv_at hl 0 rfl) ?_
    refine fa_getr (k := 397) (j := 398) CX HX1911 fl_X7_7 (by omega) rfl rfl hM.1 dX7_asks_34 ?_
    refine lv_bipush (v := nI (11)) hx hb dX7_asks_37 (by decide) ?_
    refine lv_dup2_11 hx hb dX7_asks_39 rfl rfl ?_
    refine fa_iald (k := 398) (j := 11) CX HX1911 (by omega) rfl (by omega) (by first | decide | assumption) dX7_asks_40 ?_
    refine lv_iconst (v := nI (1)) hx hb dX7_asks_41 (by decide) ?_
    refine lv_iadd hx hb dX7_asks_42 ?_
    refine fa_iast (k := 398) (j := 11) CX HX1911 (by omega) rfl (by omega) (by first | decide | assumption) dX7_asks_43 (fun H locs v1912 e1913 HX1914 => ?_)
    refine lv_aload_n hx hb dX7_asks_44 rfl (lv_at hl 0 rfl) ?_
    refine fa_getr (k := 397) (j := 398) CX HX1914 fl_X7_7 (by omega) rfl rfl hM.1 dX7_asks_45 ?_
    refine lv_iload_n hx hb dX7_asks_48 rfl (lv_at hl 1 rfl) ?_
    refine fa_callSip (As := [.int ((-1 : Int32))]) (rest := [.ref (fa_B G + (398))]) CX HX1914 (r_fneg l G n v1912 r) ln_X7_36 rfl rfl (Nat.le_of_ble_eq_true rfl) hl.1 ⟨Nat.le_of_ble_eq_true rfl, Nat.le_of_ble_eq_true rfl⟩ ⟨Nat.le_refl _, Nat.le_refl _⟩ dX7_asks_49 (fun x1916 H locs h1915 HX1917 => ?_)
    subst h1915
    refine lv_iconst (v := nI (5)) hx hb dX7_asks_52 (by decide) ?_
    refine fa_iaddN hx hb dX7_asks_53 ?_
    refine fa_iald (k := 398) (j := 2 + 5) CX HX1917 (by omega) rfl (by omega) (by first | decide | assumption) dX7_asks_54 ?_
    exact RET _ _ _ _ _ _ _ HX1917 dX7_asks_55 (⟨rfl, ⟨⟨(show fa_MS (v1912 398) from by rw [e1913]; exact fa_MS.u (show fa_MS (v1909 398) from by rw [e1910]; exact fa_MS.u (show fa_MS (v1903 398) from by rw [e1904]; exact fa_MS.u hS (fa_ok.o (by omega) (by omega) (by omega) (fun p hp => by omega))) (fa_ok.o (by omega) (by omega) (by omega) (fun p hp => by omega))) (fa_ok.o (by omega) (by omega) (by omega) (fun p hp => by omega))), (show v1912 398 14 = v 398 14 from ((show v1912 398 14 = nI (n4) from (by rw [e1913, fa_u_n _ _ (by omega)]; exact (by rw [e1910, fa_u_n _ _ (by omega)]; exact (by rw [e1904, fa_u_n _ _ (by omega)]; exact g4)))).trans g4.symm)), (show v1912 398 15 = v 398 15 from ((show v1912 398 15 = nI (n5) from (by rw [e1913, fa_u_n _ _ (by omega)]; exact (by rw [e1910, fa_u_n _ _ (by omega)]; exact (by rw [e1904, fa_u_n _ _ (by omega)]; exact g5)))).trans g5.symm)), (show v1912 398 16 = v 398 16 from ((show v1912 398 16 = nI (n6) from (by rw [e1913, fa_u_n _ _ (by omega)]; exact (by rw [e1910, fa_u_n _ _ (by omega)]; exact (by rw [e1904, fa_u_n _ _ (by omega)]; exact g6)))).trans g6.symm)), (fun A hok hc p hp e => absurd e.symm (fb_nI_ne1 (by have := hok.1; omega)))⟩, (by rw [e1913]; exact fa_fr.u (by rw [e1910]; exact fa_fr.u (by rw [e1904]; exact fa_fr.u fa_fr.rf (by omega)) (by omega)) (by omega))⟩⟩)
  · subst etp
    refine lv_aload_n hx hb dX7_asks_0 rfl (lv_at hl 0 rfl) ?_
    refine fa_getr (k := 397) (j := 398) CX HX fl_X7_7 (by omega) rfl rfl hM.1 dX7_asks_1 ?_
    refine lv_iload_n hx hb dX7_asks_4 rfl (lv_at hl 1 rfl) ?_
    refine fa_callSip (As := [.int (nI (tp))]) (rest := [.ref (fa_B G + (398))]) CX HX (r_f l G n v r (tp)) ln_X7_36 rfl rfl (Nat.le_of_ble_eq_true rfl) hl.1 ⟨Nat.le_of_ble_eq_true rfl, Nat.le_of_ble_eq_true rfl⟩ ⟨Nat.le_refl _, Nat.le_refl _⟩ dX7_asks_5 (fun x1919 H locs h1918 HX1920 => ?_)
    subst h1918
    refine lv_iconst (v := nI (4)) hx hb dX7_asks_8 (by decide) ?_
    refine fa_iaddN hx hb dX7_asks_9 ?_
    refine lv_aload_n hx hb dX7_asks_10 rfl (lv_at hl 0 rfl) ?_
    refine fa_getr (k := 397) (j := 398) CX HX1920 fl_X7_7 (by omega) rfl rfl hM.1 dX7_asks_11 ?_
    refine lv_bipush (v := nI (7)) hx hb dX7_asks_14 (by decide) ?_
    refine fa_iald (k := 398) (j := 7) CX HX1920 (by omega) rfl (by omega) (by first | decide | assumption) dX7_asks_16 ?_
    refine fa_iast (k := 398) (j := 17 + 15 * tp + 4) CX HX1920 (by omega) rfl (by omega) (by first | decide | assumption) dX7_asks_17 (fun H locs v1921 e1922 HX1923 => ?_)
    refine lv_aload_n hx hb dX7_asks_18 rfl (lv_at hl 0 rfl) ?_
    refine fa_getr (k := 397) (j := 398) CX HX1923 fl_X7_7 (by omega) rfl rfl hM.1 dX7_asks_19 ?_
    refine lv_iload_n hx hb dX7_asks_22 rfl (lv_at hl 1 rfl) ?_
    refine fa_callSip (As := [.int (nI (tp))]) (rest := [.ref (fa_B G + (398))]) CX HX1923 (r_f l G n v1921 r (tp)) ln_X7_36 rfl rfl (Nat.le_of_ble_eq_true rfl) hl.1 ⟨Nat.le_of_ble_eq_true rfl, Nat.le_of_ble_eq_true rfl⟩ ⟨Nat.le_refl _, Nat.le_refl _⟩ dX7_asks_23 (fun x1925 H locs h1924 HX1926 => ?_)
    subst h1924
    refine lv_iconst (v := nI (5)) hx hb dX7_asks_26 (by decide) ?_
    refine fa_iaddN hx hb dX7_asks_27 ?_
    refine lv_dup2_11 hx hb dX7_asks_28 rfl rfl ?_
    refine fa_iald (k := 398) (j := 17 + 15 * tp + 5) CX HX1926 (by omega) rfl (by omega) (by first | decide | assumption) dX7_asks_29 ?_
    refine lv_iconst (v := nI (1)) hx hb dX7_asks_30 (by decide) ?_
    refine lv_iadd hx hb dX7_asks_31 ?_
    refine fa_iast (k := 398) (j := 17 + 15 * tp + 5) CX HX1926 (by omega) rfl (by omega) (by first | decide | assumption) dX7_asks_32 (fun H locs v1927 e1928 HX1929 => ?_)
    refine lv_aload_n hx hb dX7_asks_33 rfl (lv_at hl 0 rfl) ?_
    refine fa_getr (k := 397) (j := 398) CX HX1929 fl_X7_7 (by omega) rfl rfl hM.1 dX7_asks_34 ?_
    refine lv_bipush (v := nI (11)) hx hb dX7_asks_37 (by decide) ?_
    refine lv_dup2_11 hx hb dX7_asks_39 rfl rfl ?_
    refine fa_iald (k := 398) (j := 11) CX HX1929 (by omega) rfl (by omega) (by first | decide | assumption) dX7_asks_40 ?_
    refine lv_iconst (v := nI (1)) hx hb dX7_asks_41 (by decide) ?_
    refine lv_iadd hx hb dX7_asks_42 ?_
    refine fa_iast (k := 398) (j := 11) CX HX1929 (by omega) rfl (by omega) (by first | decide | assumption) dX7_asks_43 (fun H locs v1930 e1931 HX1932 => ?_)
    refine lv_aload_n hx hb dX7_asks_44 rfl (lv_at hl 0 rfl) ?_
    refine fa_getr (k := 397) (j := 398) CX HX1932 fl_X7_7 (by omega) rfl rfl hM.1 dX7_asks_45 ?_
    refine lv_iload_n hx hb dX7_asks_48 rfl (lv_at hl 1 rfl) ?_
    refine fa_callSip (As := [.int (nI (tp))]) (rest := [.ref (fa_B G + (398))]) CX HX1932 (r_f l G n v1930 r (tp)) ln_X7_36 rfl rfl (Nat.le_of_ble_eq_true rfl) hl.1 ⟨Nat.le_of_ble_eq_true rfl, Nat.le_of_ble_eq_true rfl⟩ ⟨Nat.le_refl _, Nat.le_refl _⟩ dX7_asks_49 (fun x1934 H locs h1933 HX1935 => ?_)
    subst h1933
    refine lv_iconst (v := nI (5)) hx hb dX7_asks_52 (by decide) ?_
    refine fa_iaddN hx hb dX7_asks_53 ?_
    refine fa_iald (k := 398) (j := 17 + 15 * tp + 5) CX HX1935 (by omega) rfl (by omega) (by first | decide | assumption) dX7_asks_54 ?_
    exact RET _ _ _ _ _ _ _ HX1935 dX7_asks_55 (⟨rfl, ⟨⟨(show fa_MS (v1930 398) from by rw [e1931]; exact fa_MS.u (show fa_MS (v1927 398) from by rw [e1928]; exact fa_MS.u (show fa_MS (v1921 398) from by rw [e1922]; exact fa_MS.u hS (fa_ok.o (by omega) (by omega) (by omega) (fun p hp => by omega))) (fa_ok.o (by omega) (by omega) (by omega) (fun p hp => by omega))) (fa_ok.o (by omega) (by omega) (by omega) (fun p hp => by omega))), (show v1930 398 14 = v 398 14 from ((show v1930 398 14 = nI (n4) from (by rw [e1931, fa_u_n _ _ (by omega)]; exact (by rw [e1928, fa_u_n _ _ (by omega)]; exact (by rw [e1922, fa_u_n _ _ (by omega)]; exact g4)))).trans g4.symm)), (show v1930 398 15 = v 398 15 from ((show v1930 398 15 = nI (n5) from (by rw [e1931, fa_u_n _ _ (by omega)]; exact (by rw [e1928, fa_u_n _ _ (by omega)]; exact (by rw [e1922, fa_u_n _ _ (by omega)]; exact g5)))).trans g5.symm)), (show v1930 398 16 = v 398 16 from ((show v1930 398 16 = nI (n6) from (by rw [e1931, fa_u_n _ _ (by omega)]; exact (by rw [e1928, fa_u_n _ _ (by omega)]; exact (by rw [e1922, fa_u_n _ _ (by omega)]; exact g6)))).trans g6.symm)), (fun A hok hc p hp e => by (have ep : tp = p := fa_nIinj (by omega) (by have := hok.1; omega) e; subst ep; exact fb_m_ask hc hp e1922 e1928 e1931))⟩, (by rw [e1931]; exact fa_fr.u (by rw [e1928]; exact fa_fr.u (by rw [e1922]; exact fa_fr.u fa_fr.rf (by omega)) (by omega)) (by omega))⟩⟩)
/-! THE RESERVATIONS OF TODAY, in the reference's row -/
/-- the archive when all but the first kk of the row L are treated -/
def fb_rvB (A : fb_At) (L : List (Int32 × Int32)) (kk : Nat) : fb_At :=
  (fb_s1 A.g 11 (A.g 11 + nI ((L.drop kk).countP (fun y => decide (y.2 = A.g 7)))), (A.n, fun p i => if (A.F p 0, A.g 7) ∈ L.drop kk then (if i = 4 then A.g 7 else if i = 5 then A.F p 5 + nI 1 else A.F p i) else A.F p i), L.take kk ++ (L.drop kk).filter (fun y => decide (¬ y.2 = A.g 7)), (A.m, A.T))
theorem fb_rv_o {A : fb_At} {L : List (Int32 × Int32)} {kk p i : Nat} (h4 : ¬ i = 4) (h5 : ¬ i = 5) : (fb_rvB A L kk).F p i = A.F p i := by
  show (if (A.F p 0, A.g 7) ∈ L.drop kk then (if i = 4 then A.g 7 else if i = 5 then A.F p 5 + nI 1 else A.F p i) else A.F p i) = _
  rw [if_neg h4, if_neg h5]
  split <;> rfl
theorem fb_rv_g {A : fb_At} {L : List (Int32 × Int32)} {kk k : Nat} (h : ¬ k = 11) : (fb_rvB A L kk).g k = A.g k := fb_s1_n h
theorem fb_rv_ok {A : fb_At} {L : List (Int32 × Int32)} {kk : Nat} (hok : fb_okF A.g A.n A.F) : fb_okF (fb_rvB A L kk).g (fb_rvB A L kk).n (fb_rvB A L kk).F := by
  obtain ⟨h1, h2, h3, h4, h5, h6⟩ := hok
  refine ⟨h1, by rw [fb_rv_g (by decide)]; exact h2, by rw [fb_rv_g (by decide)]; exact h3, fun p k hp hk => by rw [fb_rv_o (by decide) (by decide), fb_rv_o (by decide) (by decide)]; exact h4 p k hp hk, fun p hp => by rw [fb_rv_o (by decide) (by decide), fb_rv_g (by decide)]; exact h5 p hp, fun p hp => ?_⟩
  obtain ⟨a1, a2, a3, a4⟩ := h6 p hp
  refine ⟨by rw [fb_rv_o (by decide) (by decide)]; exact a1, ?_, ?_, fun h hh => by rw [fb_rv_o (by omega) (by omega)]; exact a4 h hh⟩
  · obtain ⟨d, hd, ed⟩ := h2
    show (if (A.F p 0, A.g 7) ∈ L.drop kk then (if (4 : Nat) = 4 then A.g 7 else if (4 : Nat) = 5 then A.F p 5 + nI 1 else A.F p 4) else A.F p 4) = _ ∨ 0 ≤ (if (A.F p 0, A.g 7) ∈ L.drop kk then (if (4 : Nat) = 4 then A.g 7 else if (4 : Nat) = 5 then A.F p 5 + nI 1 else A.F p 4) else A.F p 4)
    split
    · rw [if_pos rfl, ed]; exact Or.inr (Int32.not_lt.mp (nI_pos (by omega)))
    · exact a2
  · rw [fb_rv_o (by decide) (by decide)]
    rcases a3 with z | ⟨k, hk, e⟩
    · exact Or.inl z
    · exact Or.inr ⟨k, hk, by rw [fb_rv_o (by decide) (by decide)]; exact e⟩
def fb_rvI (A : fb_At) (w : Nat → Int32) (kk : Nat) : Prop := ∃ L, L.Perm A.q ∧ kk ≤ L.length ∧ fb_mL w (fb_rvB A L kk).q ∧ fb_mA w (fb_rvB A L kk)
theorem fb_mA.ext {f : Nat → Int32} {A B : fb_At} (h : fb_mA f A) (hn : B.n = A.n) (hg : ∀ k, k < 14 → B.g k = A.g k) (hF : ∀ p i, p < A.n → i < 15 → B.F p i = A.F p i) (hq : A.q.Perm B.q) (hm : B.m = A.m) (hT : B.T = A.T) : fb_mA f B := by
  obtain ⟨h1, ⟨h2, h3, h4⟩, ⟨L, h5, h6⟩, h7, h8, h9⟩ := h
  exact ⟨fun k hk => by rw [hg k hk]; exact h1 k hk, ⟨by rw [hn]; exact h2, by rw [hn]; exact h3, fun p i hp hi => by rw [hn] at hp; rw [hF p i hp hi]; exact h4 p i hp hi⟩, ⟨L, h5, h6.trans hq⟩, by rw [hm]; exact h7, by rw [hm]; exact h8, fun p i hp hi => by rw [hm] at hp; rw [hT]; exact h9 p i hp hi⟩
theorem fb_rvI.start {A : fb_At} {w : Nat → Int32} {n5 : Nat} (h : fb_mA w A) (g5 : w 15 = nI n5) (hn : n5 ≤ 8) : fb_rvI A w n5 := by
  obtain ⟨L, hL, hP⟩ := h.2.2.1
  have en : L.length = n5 := fa_nIinj (by have := hL.2.1; omega) (by omega) (hL.1.symm.trans g5)
  have eq : (fb_rvB A L n5).q = L := by
    show L.take n5 ++ (L.drop n5).filter _ = L
    rw [← en, List.take_length, List.drop_length]
    exact List.append_nil _
  refine ⟨L, hP, by omega, by rw [eq]; exact hL, h.ext rfl (fun k _ => ?_) (fun p i _ _ => ?_) (by rw [eq]; exact hP.symm) rfl rfl⟩
  · by_cases z : k = 11
    · rw [z]
      show fb_s1 A.g 11 (A.g 11 + nI ((L.drop n5).countP _)) 11 = _
      rw [fb_s1_s, ← en, List.drop_length]
      exact Int32.add_zero _
    · exact fb_rv_g z
  · show (if (A.F p 0, A.g 7) ∈ L.drop n5 then _ else _) = _
    rw [← en, List.drop_length]
    exact if_neg (fun z => absurd z (by simp))
theorem fb_rvI.e {A : fb_At} {w : Nat → Int32} (h : fb_rvI A w 0) : fb_mA w (fb_rsvA A (A.g 7)) := by
  obtain ⟨L, hP, -, -, h⟩ := h
  refine h.ext rfl (fun k _ => ?_) (fun p i _ _ => ?_) ?_ rfl rfl
  · show fb_s1 A.g 11 (A.g 11 + nI (A.q.countP _)) k = fb_s1 A.g 11 (A.g 11 + nI (L.countP _)) k
    rw [hP.countP_eq]
  · show (if (A.F p 0, A.g 7) ∈ A.q then _ else _) = if (A.F p 0, A.g 7) ∈ L then _ else _
    by_cases z : (A.F p 0, A.g 7) ∈ L
    · rw [if_pos z, if_pos (hP.mem_iff.mp z)]
    · rw [if_neg z, if_neg (fun y => z (hP.mem_iff.mpr y))]
  · show (([] : List (Int32 × Int32)) ++ L.filter _).Perm (A.q.filter _)
    exact hP.filter _
theorem fb_rv_eq {A : fb_At} {L : List (Int32 × Int32)} {kk : Nat} (hk : kk < L.length) (h : ¬ (L[kk]).2 = A.g 7) : fb_rvB A L kk = fb_rvB A L (kk + 1) := by
  have ed : L.drop kk = L[kk] :: L.drop (kk + 1) := List.drop_eq_getElem_cons hk
  unfold fb_rvB
  rw [ed, List.countP_cons_of_neg (by rw [decide_eq_true_eq]; exact h), List.filter_cons_of_pos (p := fun (y : Int32 × Int32) => decide (¬ y.2 = A.g 7)) (decide_eq_true h), List.take_succ_eq_append_getElem hk, List.append_assoc]
  refine Prod.ext rfl (Prod.ext (Prod.ext rfl ?_) rfl)
  funext p i
  show (if (A.F p 0, A.g 7) ∈ L[kk] :: L.drop (kk + 1) then _ else _) = if (A.F p 0, A.g 7) ∈ L.drop (kk + 1) then _ else _
  by_cases z : (A.F p 0, A.g 7) ∈ L.drop (kk + 1)
  · rw [if_pos z, if_pos (List.mem_cons_of_mem _ z)]
  · rw [if_neg z, if_neg (fun y => by
      rcases List.mem_cons.mp y with y | y
      · exact h (by rw [← y])
      · exact z y)]
theorem fb_rv_at {A : fb_At} {w : Nat → Int32} {L : List (Int32 × Int32)} {kk : Nat} (hk : kk < L.length) (h : fb_mL w (fb_rvB A L (kk + 1)).q) : w (377 + 2 * kk) = (L[kk]).1 ∧ w (377 + 2 * kk + 1) = (L[kk]).2 := by
  refine h.2.2 kk L[kk] ?_
  show (L.take (kk + 1) ++ _)[kk]? = _
  rw [List.getElem?_append_left (by rw [List.length_take]; omega), List.getElem?_take_of_lt (by omega), List.getElem?_eq_getElem hk]
theorem fb_rvI.no {A : fb_At} {w : Nat → Int32} {kk : Nat} (h : fb_rvI A w (kk + 1)) (c : ¬ w (377 + 2 * kk + 1) = w 7) : fb_rvI A w kk := by
  obtain ⟨L, hP, hk, hL, hm⟩ := h
  have a := fb_rv_at (by omega) hL
  have e := fb_rv_eq (A := A) (L := L) (kk := kk) (by omega) (fun z => c (by rw [a.2, z, hm.g (k := 7) (by decide), fb_rv_g (by decide)]))
  exact ⟨L, hP, by omega, by rw [e]; exact hL, by rw [e]; exact hm⟩
theorem fb_mA.plF {f : Nat → Int32} {A : fb_At} (h : fb_mA f A) (hok : fb_okF A.g A.n A.F) {p : Nat} (hp : p < A.n) : fb_plm f (A.F p 0) = nI p := by
  obtain ⟨-, -, -, hinc, hnum, -⟩ := hok
  unfold fb_plm
  rw [h.n, if_neg (Int32.not_lt.mpr (hnum p hp).1)]
  rcases fb_las_elim A.n (f := fun p => f (17 + 15 * p)) (a := A.F p 0) with ⟨h1, h2⟩ | ⟨k, h1, h2, h3⟩
  · exact absurd (h.F0 hp) (h2 p hp)
  · have e : A.F k 0 = A.F p 0 := by rw [← h.F0 h1]; exact h3
    rw [h2]
    rcases Nat.lt_trichotomy p k with z | z | z
    · have := hinc p k z h1
      rw [e] at this
      exact absurd this Int32.lt_irrefl
    · rw [z]
    · have := hinc k p z hp
      rw [e] at this
      exact absurd this Int32.lt_irrefl
theorem fb_rvI.yes {A : fb_At} {w w1 w2 : Nat → Int32} {kk : Nat} {x : Int32} (hok : fb_okR A) (h : fb_rvI A w (kk + 1)) (c : w (377 + 2 * kk + 1) = w 7) (hx : x = fb_plm w (w (377 + 2 * kk)))
    (ha : ∀ B, fb_okF B.g B.n B.F → fb_mA w B → ∀ p, p < B.n → x = nI p → fb_mA w1 (fb_askp B p) ∧ ∀ i, i = 15 ∨ 377 ≤ i → w1 i = w i) (hr : fb_mRM w1 w2 kk) : fb_rvI A w2 kk := by
  obtain ⟨L, hP, hk, hL, hm⟩ := h
  have hk' : kk < L.length := by omega
  have a := fb_rv_at hk' hL
  have yd : (L[kk]).2 = A.g 7 := by rw [← a.2, c, hm.g (k := 7) (by decide), fb_rv_g (by decide)]
  have ym : L[kk] ∈ A.q := hP.mem_iff.mp (List.getElem_mem hk')
  obtain ⟨p, hp, ep⟩ := (hok.2.2.2.2 _ ym).2.2
  have ed : L.drop kk = L[kk] :: L.drop (kk + 1) := List.drop_eq_getElem_cons hk'
  have nd : (L[kk] :: L.drop (kk + 1)).Nodup := by
    rw [← ed]
    exact (hP.nodup_iff.mpr hok.2.2.2.1).sublist (List.drop_sublist _ _)
  have yn : L[kk] ∉ L.drop (kk + 1) := (List.nodup_cons.mp nd).1
  have ye : L[kk] = (A.F p 0, A.g 7) := Prod.ext ep.symm yd
  have bok := fb_rv_ok (L := L) (kk := kk + 1) hok.1
  have x1 : x = nI p := by
    rw [hx, a.1, ← ep, ← fb_rv_o (A := A) (L := L) (kk := kk + 1) (p := p) (i := 0) (by decide) (by decide)]
    exact hm.plF bok hp
  obtain ⟨m1, fr⟩ := ha _ bok hm p hp x1
  have l1 : fb_mL w1 (fb_rvB A L (kk + 1)).q := hL.congr (fun i hi => fr i (by omega))
  have ql : kk < (fb_rvB A L (kk + 1)).q.length := by
    show kk < (L.take (kk + 1) ++ _).length
    rw [List.length_append, List.length_take]
    omega
  have l2 := hr.2 _ l1 ql
  have qe : (fb_rvB A L (kk + 1)).q.eraseIdx kk = (fb_rvB A L kk).q := by
    show (L.take (kk + 1) ++ (L.drop (kk + 1)).filter _).eraseIdx kk = L.take kk ++ (L.drop kk).filter _
    rw [ed, List.filter_cons_of_neg (p := fun (y : Int32 × Int32) => decide (¬ y.2 = A.g 7)) (by rw [decide_eq_true_eq]; exact fun z => z yd), List.take_succ_eq_append_getElem hk', List.append_assoc, List.eraseIdx_append_of_length_le (by rw [List.length_take]; omega), List.length_take, show kk - min kk L.length = 0 by omega]
    rfl
  rw [qe] at l2
  have ro : ∀ i, ¬ i = 15 → ¬ (377 ≤ i ∧ i < 393) → w2 i = w1 i := hr.1
  obtain ⟨h1, ⟨h2, h3, h4⟩, -, h7, h8, h9⟩ := m1
  have hn24 := hok.1.1
  refine ⟨L, hP, by omega, l2, ⟨fun k hk => ?_, ⟨h2, by rw [ro 14 (by decide) (by decide)]; exact h3, fun q i hq hi => ?_⟩, ⟨_, l2, List.Perm.refl _⟩, h7, by rw [ro 16 (by decide) (by decide)]; exact h8, fun q i hq hi => by rw [ro _ (by omega) (by omega)]; exact h9 q i hq hi⟩⟩
  · rw [ro k (by omega) (by omega), h1 k hk]
    by_cases z : k = 11
    · rw [z]
      show fb_s1 (fb_rvB A L (kk + 1)).g 11 ((fb_s1 A.g 11 (A.g 11 + nI ((L.drop (kk + 1)).countP (fun y => decide (y.2 = A.g 7))))) 11 + nI 1) 11 = fb_s1 A.g 11 (A.g 11 + nI ((L.drop kk).countP (fun y => decide (y.2 = A.g 7)))) 11
      rw [fb_s1_s, fb_s1_s, fb_s1_s, ed, List.countP_cons_of_pos (p := fun (y : Int32 × Int32) => decide (y.2 = A.g 7)) (decide_eq_true yd), Int32.add_assoc]
      exact congrArg (A.g 11 + ·) (nI_1 _)
    · show fb_s1 (fb_rvB A L (kk + 1)).g 11 ((fb_rvB A L (kk + 1)).g 11 + nI 1) k = _
      rw [fb_s1_n z, fb_rv_g z]
      exact (fb_rv_g z).symm
  · have hq' : q < A.n := hq
    rw [ro _ (by omega) (by omega), h4 q i hq hi]
    show fa_u (fa_u (fb_rvB A L (kk + 1)).F p 4 ((fb_rvB A L (kk + 1)).g 7)) p 5 ((fb_rvB A L (kk + 1)).F p 5 + nI 1) q i = if (A.F q 0, A.g 7) ∈ L.drop kk then (if i = 4 then A.g 7 else if i = 5 then A.F q 5 + nI 1 else A.F q i) else A.F q i
    have b5 : (fb_rvB A L (kk + 1)).F p 5 = A.F p 5 := by
      show (if (A.F p 0, A.g 7) ∈ L.drop (kk + 1) then _ else _) = _
      rw [← ye]
      exact if_neg yn
    by_cases z : q = p
    · rw [z, if_pos (by rw [ed, ye]; exact List.mem_cons_self), b5, fb_rv_g (by decide)]
      by_cases z4 : i = 4
      · rw [z4, if_pos rfl, fa_u_n _ _ (by omega), fa_u_s]
      · by_cases z5 : i = 5
        · rw [z5, if_neg (by decide), if_pos rfl, fa_u_s]
        · rw [if_neg z4, if_neg z5, fa_u_n _ _ (by omega), fa_u_n _ _ (by omega), fb_rv_o z4 z5]
    · rw [fa_u_n _ _ (by omega), fa_u_n _ _ (by omega)]
      show (if (A.F q 0, A.g 7) ∈ L.drop (kk + 1) then _ else _) = _
      have ne : ¬ (A.F q 0, A.g 7) = L[kk] := fun y => z (hok.num hq' hp (by rw [ye] at y; exact congrArg Prod.fst y))
      rw [ed]
      by_cases y : (A.F q 0, A.g 7) ∈ L.drop (kk + 1)
      · rw [if_pos y, if_pos (List.mem_cons_of_mem _ y)]
      · rw [if_neg y, if_neg (fun u => (List.mem_cons.mp u).elim ne y)]
theorem fb_kk0 {k : Nat} {x : Int32} (hk : k < 2 ^ 31) (e : x = nI k - nI 1) (c : x < 0) : k = 0 := by
  cases k with
  | zero => rfl
  | succ j => exact absurd c (by rw [e, pk_sub (by omega)]; exact nI_pos (by omega))
set_option maxHeartbeats 4000000 in
set_option maxRecDepth 100000 in
theorem r_removeReservation (l : Launch) (G : fa_G) (n : Nat) (hn : 406 ≤ n) (v : fa_V) (r : fa_R) (hM : fa_RM r) (hS : fa_MS (v 398)) (u : Nat) (hu : u < 24) (hu5 : u < fa_N (v 398 15)) : fa_MV l G n yX7_removeReservation cX7_removeReservation 3 1 [.ref (fa_B G + (397)), .int (nI (u))] v r (fa_vo r (fun v1 => ((fa_MS (v1 398)) ∧ (v1 398 14 = v 398 14) ∧ (v1 398 16 = v 398 16) ∧ ((v1 398 15 = nI (fa_N (v 398 15) - 1)) ∧ fb_mRM (v 398) (v1 398) u)) ∧ (fa_fr (398) (399) v v1))) := by
  refine fa_startV (by decide +kernel) (Nat.le_of_ble_eq_true rfl) (fun p e s m args below meth c ls Q CX hl HX RET => ?_)
  have hl : lv_has ls 3 [(0, .ref (fa_B G + (397))), (1, .int (nI (u)))] := hl
  have hx := CX.1.1
  have hb := CX.1.2.1
  obtain ⟨n4, en4⟩ : ∃ m, m = fa_N (v 398 14) := ⟨_, rfl⟩
  obtain ⟨hn4, g4⟩ := hS.n4 en4
  obtain ⟨n5, en5⟩ : ∃ m, m = fa_N (v 398 15) := ⟨_, rfl⟩
  obtain ⟨hn5, g5⟩ := hS.n5 en5
  obtain ⟨n6, en6⟩ : ∃ m, m = fa_N (v 398 16) := ⟨_, rfl⟩
  obtain ⟨hn6, g6⟩ := hS.n6 en6
  rw [← en5] at hu5
  refine lv_sipush (v := nI (377)) hx hb dX7_removeReservation_0 (by decide) ?_
  refine lv_iconst (v := nI (2)) hx hb dX7_removeReservation_3 (by decide) ?_
  refine lv_iload_n hx hb dX7_removeReservation_4 rfl (lv_at hl 1 rfl) ?_
  refine fa_imulN hx hb dX7_removeReservation_5 ?_
  refine fa_iaddN hx hb dX7_removeReservation_6 ?_
  refine lv_istore_n (lv' := [(2, .int (nI (377 + (2 * u)))), (0, .ref (fa_B G + (397))), (1, .int (nI (u)))]) hx hb dX7_removeReservation_7 rfl hl (by decide) rfl (fun ls hl => ?_)
  have LOOP_8 : ∀ (fu : Nat) (k : Nat) (v1936 : fa_V) (H : Heap) (locs : List Loc) (ls : Array Slot), 500 - k < fu → ((377 + 2 * u ≤ k ∧ k ≤ 377 + 2 * n5 - 2) ∧ fa_MS (v1936 398) ∧ v1936 398 14 = v 398 14 ∧ v1936 398 15 = v 398 15 ∧ v1936 398 16 = v 398 16 ∧ fa_fr 398 399 v v1936 ∧ ∀ i, v1936 398 i = if 377 + 2 * u ≤ i ∧ i < k then v 398 (i + 2) else v 398 i) → lv_has ls 3 [(0, .ref (fa_B G + (397))), (1, .int (nI (u))), (2, .int (nI (k)))] → fa_HX G (n) v1936 r s H locs → W p l e (fa_rm 1) s m args below meth c H locs (0) (0) Q (F0 m 8 ls []) := by
    intro fu
    induction fu with
    | zero => intro k v1936 H locs ls hk; exact absurd hk (Nat.not_lt_zero _)
    | succ fu ih_8 =>
      intro k v1936 H locs ls hk_8 hi_8 hl HX1937
      refine lv_iload_n hx hb dX7_removeReservation_8 rfl (lv_at hl 2 rfl) ?_
      refine lv_sipush (v := nI (377)) hx hb dX7_removeReservation_9 (by decide) ?_
      refine lv_iconst (v := nI (2)) hx hb dX7_removeReservation_12 (by decide) ?_
      refine lv_aload_n hx hb dX7_removeReservation_13 rfl (lv_at hl 0 rfl) ?_
      refine fa_getr (k := 397) (j := 398) CX HX1937 fl_X7_7 (by omega) rfl rfl hM.1 dX7_removeReservation_14 ?_
      refine lv_bipush (v := nI (15)) hx hb dX7_removeReservation_17 (by decide) ?_
      refine fa_iald (k := 398) (j := 15) CX HX1937 (by omega) rfl (by omega) (by first | decide | assumption) dX7_removeReservation_19 ?_
      rw [show v1936 398 15 = nI (n5) from ((hi_8.2.2.2.1).trans g5)]
      refine fa_imulN hx hb dX7_removeReservation_20 ?_
      refine fa_iaddN hx hb dX7_removeReservation_21 ?_
      refine lv_iconst (v := nI (2)) hx hb dX7_removeReservation_22 (by decide) ?_
      refine fa_isubN hx hb dX7_removeReservation_23 (by omega) ?_
      refine lv_icmp_ge (tgt := 47) hx hb dX7_removeReservation_24 (by decide) (fun c_24 => ?_) (fun c_24 => ?_)
      · have hk := fa_leN (by omega) (by omega) c_24
        refine lv_aload_n hx hb dX7_removeReservation_47 rfl (lv_at hl 0 rfl) ?_
        refine fa_getr (k := 397) (j := 398) CX HX1937 fl_X7_7 (by omega) rfl rfl hM.1 dX7_removeReservation_48 ?_
        refine lv_bipush (v := nI (15)) hx hb dX7_removeReservation_51 (by decide) ?_
        refine lv_dup2_11 hx hb dX7_removeReservation_53 rfl rfl ?_
        refine fa_iald (k := 398) (j := 15) CX HX1937 (by omega) rfl (by omega) (by first | decide | assumption) dX7_removeReservation_54 ?_
        rw [show v1936 398 15 = nI (n5) from ((hi_8.2.2.2.1).trans g5)]
        refine lv_iconst (v := nI (1)) hx hb dX7_removeReservation_55 (by decide) ?_
        refine fa_isubN hx hb dX7_removeReservation_56 (by omega) ?_
        refine fa_iast (k := 398) (j := 15) CX HX1937 (by omega) rfl (by omega) (by first | decide | assumption) dX7_removeReservation_57 (fun H locs v1938 e1939 HX1940 => ?_)
        exact RET _ _ _ _ _ _ HX1940 dX7_removeReservation_58 (⟨rfl, ⟨⟨(show fa_MS (v1938 398) from by rw [e1939]; exact fa_MS.u hi_8.2.1 (fa_ok.n15 (by omega))), (show v1938 398 14 = v 398 14 from ((show v1938 398 14 = nI (n4) from (by rw [e1939, fa_u_n _ _ (by omega)]; exact ((hi_8.2.2.1).trans g4))).trans g4.symm)), (show v1938 398 16 = v 398 16 from ((show v1938 398 16 = nI (n6) from (by rw [e1939, fa_u_n _ _ (by omega)]; exact ((hi_8.2.2.2.2.1).trans g6))).trans g6.symm)), ⟨(show v1938 398 15 = nI (fa_N (v 398 15) - 1) from by rw [← en5]; exact (by rw [e1939, fa_u_s])), fb_m_rem hn5 g5 hu5 hi_8.1.1 (by omega) hi_8.1.2 hi_8.2.2.2.2.2.2 e1939⟩⟩, (by rw [e1939]; exact fa_fr.u (fa_fr.tr fa_fr.rf (fa_fr.wide hi_8.2.2.2.2.2.1 (by omega) (by omega))) (by omega))⟩⟩)
      · have hk := fa_ltN (by omega) (by omega) c_24
        refine lv_aload_n hx hb dX7_removeReservation_27 rfl (lv_at hl 0 rfl) ?_
        refine fa_getr (k := 397) (j := 398) CX HX1937 fl_X7_7 (by omega) rfl rfl hM.1 dX7_removeReservation_28 ?_
        refine lv_iload_n hx hb dX7_removeReservation_31 rfl (lv_at hl 2 rfl) ?_
        refine lv_aload_n hx hb dX7_removeReservation_32 rfl (lv_at hl 0 rfl) ?_
        refine fa_getr (k := 397) (j := 398) CX HX1937 fl_X7_7 (by omega) rfl rfl hM.1 dX7_removeReservation_33 ?_
        refine lv_iload_n hx hb dX7_removeReservation_36 rfl (lv_at hl 2 rfl) ?_
        refine lv_iconst (v := nI (2)) hx hb dX7_removeReservation_37 (by decide) ?_
        refine fa_iaddN hx hb dX7_removeReservation_38 ?_
        refine fa_iald (k := 398) (j := k + 2) CX HX1937 (by omega) rfl (by omega) (by first | decide | assumption) dX7_removeReservation_39 ?_
        refine fa_iast (k := 398) (j := k) CX HX1937 (by omega) rfl (by omega) (by first | decide | assumption) dX7_removeReservation_40 (fun H locs v1941 e1942 HX1943 => ?_)
        refine lv_iinc (v := nI (k + 1)) (lv' := [(2, .int (nI (k + 1))), (0, .ref (fa_B G + (397))), (1, .int (nI (u)))]) hx hb dX7_removeReservation_41 hl (k := 2) rfl (nI_add (k) 1) (by decide) rfl (fun ls hl => ?_)
        refine lv_goto (tgt := 8) hx hb dX7_removeReservation_44 (by decide) ?_
        exact ih_8 (k + 1) v1941 _ _ _ (by omega) (⟨⟨by omega, by omega⟩, (show fa_MS (v1941 398) from by rw [e1942]; exact fa_MS.u hi_8.2.1 (fa_ok.o (by omega) (by omega) (by omega) (fun p hp => by omega))), ((show v1941 398 14 = nI (n4) from (by rw [e1942, fa_u_n _ _ (by omega)]; exact ((hi_8.2.2.1).trans g4))).trans g4.symm), ((show v1941 398 15 = nI (n5) from (by rw [e1942, fa_u_n _ _ (by omega)]; exact ((hi_8.2.2.2.1).trans g5))).trans g5.symm), ((show v1941 398 16 = nI (n6) from (by rw [e1942, fa_u_n _ _ (by omega)]; exact ((hi_8.2.2.2.2.1).trans g6))).trans g6.symm), (by rw [e1942]; exact fa_fr.u (fa_fr.tr fa_fr.rf (fa_fr.wide hi_8.2.2.2.2.2.1 (by omega) (by omega))) (by omega)), fb_m_rsh hi_8.1.1 hi_8.2.2.2.2.2.2 e1942⟩) (lv_sub hl [1, 2, 0] rfl) HX1943
  exact LOOP_8 (500 - (377 + (2 * u)) + 1) (377 + (2 * u)) v _ _ _ (Nat.lt_succ_self _) (⟨⟨by omega, by omega⟩, hS, rfl, rfl, rfl, fa_fr.rf, fun i => (if_neg (by omega)).symm⟩) (lv_sub hl [1, 2, 0] rfl) HX
set_option maxHeartbeats 4000000 in
set_option maxRecDepth 100000 in
theorem r_reserved (l : Launch) (G : fa_G) (n : Nat) (hn : 406 ≤ n) (v : fa_V) (r : fa_R) (hM : fa_RM r) (hS : fa_MS (v 398)) : fa_MI l G n yX7_reserved cX7_reserved 4 (some .int) 4 [.ref (fa_B G + (397))] v r (fa_voi r (fun x v1 => ((fa_MS (v1 398)) ∧ (v1 398 14 = v 398 14) ∧ (∀ A, fb_okR A → fb_mA (v 398) A → fb_mA (v1 398) (fb_rsvA A (A.g 7)))) ∧ (fa_fr (398) (399) v v1))) := by
  refine fa_startI (by decide +kernel) (Nat.le_of_ble_eq_true rfl) (fun p e s m args below meth c ls Q CX hl HX RET => ?_)
  have hl : lv_has ls 4 [(0, .ref (fa_B G + (397)))] := hl
  have hx := CX.1.1
  have hb := CX.1.2.1
  obtain ⟨n4, en4⟩ : ∃ m, m = fa_N (v 398 14) := ⟨_, rfl⟩
  obtain ⟨hn4, g4⟩ := hS.n4 en4
  obtain ⟨n5, en5⟩ : ∃ m, m = fa_N (v 398 15) := ⟨_, rfl⟩
  obtain ⟨hn5, g5⟩ := hS.n5 en5
  obtain ⟨n6, en6⟩ : ∃ m, m = fa_N (v 398 16) := ⟨_, rfl⟩
  obtain ⟨hn6, g6⟩ := hS.n6 en6
  refine lv_iconst (v := nI (0)) hx hb dX7_reserved_0 (by decide) ?_
  refine lv_istore_n (lv' := [(1, .int (nI (0))), (0, .ref (fa_B G + (397)))]) hx hb dX7_reserved_1 rfl hl (by decide) rfl (fun ls hl => ?_)
  refine lv_aload_n hx hb dX7_reserved_2 rfl (lv_at hl 1 rfl) ?_
  refine fa_getr (k := 397) (j := 398) CX HX fl_X7_7 (by omega) rfl rfl hM.1 dX7_reserved_3 ?_
  refine lv_bipush (v := nI (15)) hx hb dX7_reserved_6 (by decide) ?_
  refine fa_iald (k := 398) (j := 15) CX HX (by omega) rfl (by omega) (by first | decide | assumption) dX7_reserved_8 ?_
  rw [show v 398 15 = nI (n5) from g5]
  refine lv_iconst (v := nI (1)) hx hb dX7_reserved_9 (by decide) ?_
  refine lv_isub hx hb dX7_reserved_10 ?_
  refine lv_istore_n (lv' := [(2, .int ((nI (n5)) - (nI (1)))), (1, .int (nI (0))), (0, .ref (fa_B G + (397)))]) hx hb dX7_reserved_11 rfl hl (by decide) rfl (fun ls hl => ?_)
  have LOOP_12 : ∀ (fu : Nat) (kv : Int32) (kk : Nat) (mm : Nat) (mny : Int32) (v1944 : fa_V) (H : Heap) (locs : List Loc) (ls : Array Slot), kk < fu → (kv = nI kk - nI 1 ∧ (kk ≤ mm ∧ mm ≤ 8) ∧ fa_MS (v1944 398) ∧ v1944 398 14 = v 398 14 ∧ v1944 398 15 = nI mm ∧ fa_fr 398 399 v v1944 ∧ ∀ A, fb_okR A → fb_mA (v 398) A → fb_rvI A (v1944 398) kk) → lv_has ls 4 [(0, .ref (fa_B G + (397))), (1, .int (mny)), (2, .int (kv))] → fa_HX G (n) v1944 r s H locs → W p l e (fa_rm 4) s m args below meth c H locs (0) (0) Q (F0 m 12 ls []) := by
    intro fu
    induction fu with
    | zero => intro kv kk mm mny v1944 H locs ls hk; exact absurd hk (Nat.not_lt_zero _)
    | succ fu ih_12 =>
      intro kv kk mm mny v1944 H locs ls hk_12 hi_12 hl HX1945
      refine lv_iload_n hx hb dX7_reserved_12 rfl (lv_at hl 2 rfl) ?_
      refine lv_if_lt (tgt := 75) hx hb dX7_reserved_13 (by decide) (fun c_13 => ?_) (fun c_13 => ?_)
      · refine lv_iload_n hx hb dX7_reserved_75 rfl (lv_at hl 1 rfl) ?_
        exact RET _ _ _ _ _ _ _ HX1945 dX7_reserved_76 (⟨rfl, ⟨⟨hi_12.2.2.1, (show v1944 398 14 = v 398 14 from ((show v1944 398 14 = nI (n4) from ((hi_12.2.2.2.1).trans g4)).trans g4.symm)), (fun A hok hc => fb_rvI.e (by have z := hi_12.2.2.2.2.2.2 A hok hc; rw [fb_kk0 (by omega) hi_12.1 c_13] at z; exact z))⟩, (fa_fr.tr fa_fr.rf (fa_fr.wide hi_12.2.2.2.2.2.1 (by omega) (by omega)))⟩⟩)
      · obtain ⟨jj, ejj, ejk⟩ := fa_pred (by omega) (show ¬ (nI kk - nI 1 : Int32) < 0 from by rw [← hi_12.1]; exact c_13)
        have ejk := hi_12.1.trans ejk
        refine lv_aload_n hx hb dX7_reserved_16 rfl (lv_at hl 0 rfl) ?_
        refine fa_getr (k := 397) (j := 398) CX HX1945 fl_X7_7 (by omega) rfl rfl hM.1 dX7_reserved_17 ?_
        refine lv_sipush (v := nI (377)) hx hb dX7_reserved_20 (by decide) ?_
        refine lv_iconst (v := nI (2)) hx hb dX7_reserved_23 (by decide) ?_
        refine lv_iload_n hx hb dX7_reserved_24 rfl (lv_at hl 2 rfl) ?_
        rw [show kv = nI (jj) from ejk]
        refine fa_imulN hx hb dX7_reserved_25 ?_
        refine fa_iaddN hx hb dX7_reserved_26 ?_
        refine lv_iconst (v := nI (1)) hx hb dX7_reserved_27 (by decide) ?_
        refine fa_iaddN hx hb dX7_reserved_28 ?_
        refine fa_iald (k := 398) (j := 377 + (2 * jj) + 1) CX HX1945 (by omega) rfl (by omega) (by first | decide | assumption) dX7_reserved_29 ?_
        refine lv_aload_n hx hb dX7_reserved_30 rfl (lv_at hl 0 rfl) ?_
        refine fa_getr (k := 397) (j := 398) CX HX1945 fl_X7_7 (by omega) rfl rfl hM.1 dX7_reserved_31 ?_
        refine lv_bipush (v := nI (7)) hx hb dX7_reserved_34 (by decide) ?_
        refine fa_iald (k := 398) (j := 7) CX HX1945 (by omega) rfl (by omega) (by first | decide | assumption) dX7_reserved_36 ?_
        refine lv_icmp_ne (tgt := 69) hx hb dX7_reserved_37 (by decide) (fun c_37 => ?_) (fun c_37 => ?_)
        · refine lv_iinc (v := kv + (-1)) (lv' := [(2, .int (kv + (-1))), (0, .ref (fa_B G + (397))), (1, .int (mny))]) hx hb dX7_reserved_69 hl (k := 2) rfl rfl (by decide) rfl (fun ls hl => ?_)
          refine lv_goto (tgt := 12) hx hb dX7_reserved_72 (by decide) ?_
          exact ih_12 (kv + (-1)) (jj) (mm) (mny) v1944 _ _ _ (by omega) (⟨(by rw [ejk]; exact fa_predS jj), ⟨by omega, by omega⟩, hi_12.2.2.1, ((show v1944 398 14 = nI (n4) from ((hi_12.2.2.2.1).trans g4)).trans g4.symm), (show v1944 398 15 = nI (mm) from hi_12.2.2.2.2.1), (fa_fr.tr fa_fr.rf (fa_fr.wide hi_12.2.2.2.2.2.1 (by omega) (by omega))), fun A hok hc => by (have z := hi_12.2.2.2.2.2.2 A hok hc; rw [ejj] at z; exact z.no c_37)⟩) (lv_sub hl [1, 2, 0] rfl) HX1945
        · refine lv_aload_n hx hb dX7_reserved_40 rfl (lv_at hl 0 rfl) ?_
          refine lv_aload_n hx hb dX7_reserved_41 rfl (lv_at hl 0 rfl) ?_
          refine lv_aload_n hx hb dX7_reserved_42 rfl (lv_at hl 0 rfl) ?_
          refine fa_getr (k := 397) (j := 398) CX HX1945 fl_X7_7 (by omega) rfl rfl hM.1 dX7_reserved_43 ?_
          refine lv_sipush (v := nI (377)) hx hb dX7_reserved_46 (by decide) ?_
          refine lv_iconst (v := nI (2)) hx hb dX7_reserved_49 (by decide) ?_
          refine lv_iload_n hx hb dX7_reserved_50 rfl (lv_at hl 2 rfl) ?_
          rw [show kv = nI (jj) from ejk]
          refine fa_imulN hx hb dX7_reserved_51 ?_
          refine fa_iaddN hx hb dX7_reserved_52 ?_
          refine fa_iald (k := 398) (j := 377 + (2 * jj)) CX HX1945 (by omega) rfl (by omega) (by first | decide | assumption) dX7_reserved_53 ?_
          refine fa_callVip (As := [.int (v1944 398 (377 + (2 * jj)))]) (rest := [.ref (fa_B G + (397))]) CX HX1945 (r_placeOf l G n hn v1944 r hM hi_12.2.2.1 (v1944 398 (377 + (2 * jj)))) ln_X7_60 (by omega) rfl rfl rfl rfl (Nat.le_of_ble_eq_true rfl) hl.1 ⟨Nat.le_of_ble_eq_true rfl, Nat.le_of_ble_eq_true rfl⟩ ⟨Nat.le_refl _, Nat.le_refl _⟩ dX7_reserved_54 (fun x1947 H locs h1946 HX1948 => ?_)
          have h_pl54 := h1946.1
          have h_plm54 := h1946.2
          refine fa_callViu (As := [.int (x1947)]) (rest := []) CX HX1948 (r_asks l G n hn v1944 r hM hi_12.2.2.1 (x1947) h_pl54) ln_X7_73 (by omega) rfl rfl rfl rfl (Nat.le_of_ble_eq_true rfl) hl.1 ⟨Nat.le_of_ble_eq_true rfl, Nat.le_of_ble_eq_true rfl⟩ ⟨Nat.le_refl _, Nat.le_refl _⟩ dX7_reserved_57 (fun x1950 v1951 H locs h1949 HX1952 => ?_)
          have hS_v1951 := h1949.1.1
          have h_asks := h1949.1.2.2.2.2
          refine lv_istore_n (lv' := [(3, .int (x1950)), (0, .ref (fa_B G + (397))), (1, .int (mny)), (2, .int (kv))]) hx hb dX7_reserved_60 rfl hl (by decide) rfl (fun ls hl => ?_)
          refine lv_aload_n hx hb dX7_reserved_61 rfl (lv_at hl 1 rfl) ?_
          refine lv_iload_n hx hb dX7_reserved_62 rfl (lv_at hl 3 rfl) ?_
          rw [show kv = nI (jj) from ejk]
          refine fa_callVvu (As := [.int (nI (jj))]) (rest := []) CX HX1952 (r_removeReservation l G n hn v1951 r hM hS_v1951 (jj) (by omega) (by rw [(show v1951 398 15 = nI (mm) from ((h1949.1.2.2.1).trans hi_12.2.2.2.2.1)), fa_N_nI (by omega)]; omega)) ln_X7_76 (by omega) rfl rfl rfl rfl (Nat.le_of_ble_eq_true rfl) hl.1 ⟨Nat.le_of_ble_eq_true rfl, Nat.le_of_ble_eq_true rfl⟩ ⟨Nat.le_refl _, Nat.le_refl _⟩ dX7_reserved_63 (fun v1954 H locs h1953 HX1955 => ?_)
          have hS_v1954 := h1953.1.1
          have h_removeReservation := h1953.1.2.2.2
          refine lv_iinc (v := mny + (1)) (lv' := [(1, .int (mny + (1))), (3, .int (x1950)), (0, .ref (fa_B G + (397))), (2, .int (kv))]) hx hb dX7_reserved_66 hl (k := 2) rfl rfl (by decide) rfl (fun ls hl => ?_)
          refine lv_iinc (v := kv + (-1)) (lv' := [(2, .int (kv + (-1))), (1, .int (mny + (1))), (3, .int (x1950)), (0, .ref (fa_B G + (397)))]) hx hb dX7_reserved_69 hl (k := 3) rfl rfl (by decide) rfl (fun ls hl => ?_)
          refine lv_goto (tgt := 12) hx hb dX7_reserved_72 (by decide) ?_
          exact ih_12 (kv + (-1)) (jj) (mm - 1) (mny + (1)) v1954 _ _ _ (by omega) (⟨(by rw [ejk]; exact fa_predS jj), ⟨by omega, by omega⟩, hS_v1954, ((show v1954 398 14 = nI (n4) from ((h1953.1.2.1).trans ((h1949.1.2.1).trans ((hi_12.2.2.2.1).trans g4)))).trans g4.symm), (show v1954 398 15 = nI (mm - 1) from (by rw [h_removeReservation.1, (show v1951 398 15 = nI (mm) from ((h1949.1.2.2.1).trans hi_12.2.2.2.2.1)), fa_N_nI (by omega)])), (fa_fr.tr (fa_fr.tr (fa_fr.tr fa_fr.rf (fa_fr.wide hi_12.2.2.2.2.2.1 (by omega) (by omega))) (fa_fr.wide h1949.2 (by omega) (by omega))) (fa_fr.wide h1953.2 (by omega) (by omega))), fun A hok hc => by (have z := hi_12.2.2.2.2.2.2 A hok hc; rw [ejj] at z; exact z.yes hok (by first | exact c_37 | exact Decidable.not_not.mp c_37) h_plm54 (fun B hB hm p hp e => (h_asks B hB hm p hp e).2) h_removeReservation.2)⟩) (lv_sub hl [3, 1, 0] rfl) HX1955
  exact LOOP_12 (n5 + 1) ((nI (n5)) - (nI (1))) (n5) (n5) (nI (0)) v _ _ _ (Nat.lt_succ_self _) (⟨rfl, ⟨Nat.le_refl _, hn5⟩, hS, rfl, g5, fa_fr.rf, fun A hok hc => fb_rvI.start hc g5 hn5⟩) (lv_sub hl [2, 1, 0] rfl) HX
/-! A DAY in the reference's row -/
theorem fb_m_morn {v v1 : fa_V} {w2 : Nat → Int32} {A : fb_At} (hok : fb_okA A) (hl : A.g 7 < nI 9999) (hc : fb_mA (v 398) A) (e : v1 = fa_u v 398 7 (v 398 7 + nI 1)) (ha : ∀ B, fb_okR B → fb_mA (v1 398) B → fb_mA w2 (fb_rsvA B (B.g 7))) : fb_mA w2 (fb_morn A) ∧ fb_okA (fb_morn A) ∧ w2 7 = A.g 7 + nI 1 := by
  have h1 : fb_mA (v1 398) (A.sg 7 (A.g 7 + nI 1)) := by rw [e, hc.g (k := 7) (by decide)]; exact hc.ug (by decide)
  have h2 := ha _ (hok.next hl) h1
  rw [← fb_morn_eq] at h2
  exact ⟨h2, hok.morn hl, (h2.g (k := 7) (by decide)).trans fb_morn7⟩
