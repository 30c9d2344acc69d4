set_option maxHeartbeats 4000000 in
set_option maxRecDepth 100000 in
theorem r_asks (l : Launch) (G : fa_G) (n : Nat) (hn : 406 ≤ n) (v : fa_V) (r : fa_R) (hM : fa_RM r) (hS : fa_MS (v 398)) (a1 : Int32) (h1 : fa_pl 24 a1) : fa_MI l G n yX7_asks cX7_asks 2 (some .int) 2 [.ref (fa_B G + (397)), .int (a1)] v r (fa_voi r (fun x v1 => ((fa_MS (v1 398)) ∧ (v1 398 14 = v 398 14) ∧ (v1 398 15 = v 398 15) ∧ (v1 398 16 = v 398 16) ∧ (∀ A, fb_okF A.g A.n A.F → fb_mA (v 398) A → ∀ p, p < A.n → a1 = nI p → x = A.F p 5 + nI 1 ∧ fb_mA (v1 398) (fb_askp A p) ∧ ∀ i, i = 15 ∨ 377 ≤ i → v1 398 i = v 398 i)) ∧ (fa_fr (398) (399) v v1))) := by
  refine fa_startI (by decide +kernel) (Nat.le_of_ble_eq_true rfl) (fun p e s m args below meth c ls Q CX hl HX RET => ?_)
  have hl : lv_has ls 2 [(0, .ref (fa_B G + (397))), (1, .int (a1))] := hl
  have hx := CX.1.1
  have hb := CX.1.2.1
  obtain ⟨n4, en4⟩ : ∃ m, m = fa_N (v 398 14) := ⟨_, rfl⟩
  obtain ⟨hn4, g4⟩ := hS.n4 en4
  obtain ⟨n5, en5⟩ : ∃ m, m = fa_N (v 398 15) := ⟨_, rfl⟩
  obtain ⟨hn5, g5⟩ := hS.n5 en5
  obtain ⟨n6, en6⟩ : ∃ m, m = fa_N (v 398 16) := ⟨_, rfl⟩
  obtain ⟨hn6, g6⟩ := hS.n6 en6
  rcases h1 with h1 | ⟨tp, htp, etp⟩
  · subst h1
    refine lv_aload_n hx hb dX7_asks_0 rfl (lv_at hl 0 rfl) ?_
    refine fa_getr (k := 397) (j := 398) CX HX fl_X7_7 (by omega) rfl rfl hM.1 dX7_asks_1 ?_
    refine lv_iload_n hx hb dX7_asks_4 rfl (lv_at hl 1 rfl) ?_
    refine fa_callSip (As := [.int ((-1 : Int32))]) (rest := [.ref (fa_B G + (398))]) CX HX (r_fneg l G n v r) ln_X7_36 rfl rfl (Nat.le_of_ble_eq_true rfl) hl.1 ⟨Nat.le_of_ble_eq_true rfl, Nat.le_of_ble_eq_true rfl⟩ ⟨Nat.le_refl _, Nat.le_refl _⟩ dX7_asks_5 (fun x1901 H locs h1900 HX1902 => ?_)
    subst h1900
    refine lv_iconst (v := nI (4)) hx hb dX7_asks_8 (by decide) ?_
    refine fa_iaddN hx hb dX7_asks_9 ?_
    refine lv_aload_n hx hb dX7_asks_10 rfl (lv_at hl 0 rfl) ?_
    refine fa_getr (k := 397) (j := 398) CX HX1902 fl_X7_7 (by omega) rfl rfl hM.1 dX7_asks_11 ?_
    refine lv_bipush (v := nI (7)) hx hb dX7_asks_14 (by decide) ?_
    refine fa_iald (k := 398) (j := 7) CX HX1902 (by omega) rfl (by omega) (by first | decide | assumption) dX7_asks_16 ?_
    refine fa_iast (k := 398) (j := 2 + 4) CX HX1902 (by omega) rfl (by omega) (by first | decide | assumption) dX7_asks_17 (fun H locs v1903 e1904 HX1905 => ?_)
    refine lv_aload_n hx hb dX7_asks_18 rfl (lv_at hl 0 rfl) ?_
    refine fa_getr (k := 397) (j := 398) CX HX1905 fl_X7_7 (by omega) rfl rfl hM.1 dX7_asks_19 ?_
    refine lv_iload_n hx hb dX7_asks_22 rfl (lv_at hl 1 rfl) ?_
    refine fa_callSip (As := [.int ((-1 : Int32))]) (rest := [.ref (fa_B G + (398))]) CX HX1905 (r_fneg l G n v1903 r) ln_X7_36 rfl rfl (Nat.le_of_ble_eq_true rfl) hl.1 ⟨Nat.le_of_ble_eq_true rfl, Nat.le_of_ble_eq_true rfl⟩ ⟨Nat.le_refl _, Nat.le_refl _⟩ dX7_asks_23 (fun x1907 H locs h1906 HX1908 => ?_)
    subst h1906
    refine lv_iconst (v := nI (5)) hx hb dX7_asks_26 (by decide) ?_
    refine fa_iaddN hx hb dX7_asks_27 ?_
    refine lv_dup2_11 hx hb dX7_asks_28 rfl rfl ?_
    refine fa_iald (k := 398) (j := 2 + 5) CX HX1908 (by omega) rfl (by omega) (by first | decide | assumption) dX7_asks_29 ?_
    refine lv_iconst (v := nI (1)) hx hb dX7_asks_30 (by decide) ?_
    refine lv_iadd hx hb dX7_asks_31 ?_
    refine fa_iast (k := 398) (j := 2 + 5) CX HX1908 (by omega) rfl (by omega) (by first | decide | assumption) dX7_asks_32 (fun H locs v1909 e1910 HX1911 => ?_)
    refine lv_aload_n hx hb dX7_asks_33 rfl (lv_at hl 0 rfl) ?_
    refine fa_getr (k := 397) (j := 398) CX HX1911 fl_X7_7 (by omega) rfl rfl hM.1 dX7_asks_34 ?_
    refine lv_bipush (v := nI (11)) hx hb dX7_asks_37 (by decide) ?_
    refine lv_dup2_11 hx hb dX7_asks_39 rfl rfl ?_
    refine fa_iald (k := 398) (j := 11) CX HX1911 (by omega) rfl (by omega) (by first | decide | assumption) dX7_asks_40 ?_
    refine lv_iconst (v := nI (1)) hx hb dX7_asks_41 (by decide) ?_
    refine lv_iadd hx hb dX7_asks_42 ?_
    refine fa_iast (k := 398) (j := 11) CX HX1911 (by omega) rfl (by omega) (by first | decide | assumption) dX7_asks_43 (fun H locs v1912 e1913 HX1914 => ?_)
    refine lv_aload_n hx hb dX7_asks_44 rfl (lv_at hl 0 rfl) ?_
    refine fa_getr (k := 397) (j := 398) CX HX1914 fl_X7_7 (by omega) rfl rfl hM.1 dX7_asks_45 ?_
    refine lv_iload_n hx hb dX7_asks_48 rfl (lv_at hl 1 rfl) ?_
    refine fa_callSip (As := [.int ((-1 : Int32))]) (rest := [.ref (fa_B G + (398))]) CX HX1914 (r_fneg l G n v1912 r) ln_X7_36 rfl rfl (Nat.le_of_ble_eq_true rfl) hl.1 ⟨Nat.le_of_ble_eq_true rfl, Nat.le_of_ble_eq_true rfl⟩ ⟨Nat.le_refl _, Nat.le_refl _⟩ dX7_asks_49 (fun x1916 H locs h1915 HX1917 => ?_)
    subst h1915
    refine lv_iconst (v := nI (5)) hx hb dX7_asks_52 (by decide) ?_
    refine fa_iaddN hx hb dX7_asks_53 ?_
    refine fa_iald (k := 398) (j := 2 + 5) CX HX1917 (by omega) rfl (by omega) (by first | decide | assumption) dX7_asks_54 ?_
    exact RET _ _ _ _ _ _ _ HX1917 dX7_asks_55 (⟨rfl, ⟨⟨(show fa_MS (v1912 398) from by rw [e1913]; exact fa_MS.u (show fa_MS (v1909 398) from by rw [e1910]; exact fa_MS.u (show fa_MS (v1903 398) from by rw [e1904]; exact fa_MS.u hS (fa_ok.o (by omega) (by omega) (by omega) (fun p hp => by omega))) (fa_ok.o (by omega) (by omega) (by omega) (fun p hp => by omega))) (fa_ok.o (by omega) (by omega) (by omega) (fun p hp => by omega))), (show v1912 398 14 = v 398 14 from ((show v1912 398 14 = nI (n4) from (by rw [e1913, fa_u_n _ _ (by omega)]; exact (by rw [e1910, fa_u_n _ _ (by omega)]; exact (by rw [e1904, fa_u_n _ _ (by omega)]; exact g4)))).trans g4.symm)), (show v1912 398 15 = v 398 15 from ((show v1912 398 15 = nI (n5) from (by rw [e1913, fa_u_n _ _ (by omega)]; exact (by rw [e1910, fa_u_n _ _ (by omega)]; exact (by rw [e1904, fa_u_n _ _ (by omega)]; exact g5)))).trans g5.symm)), (show v1912 398 16 = v 398 16 from ((show v1912 398 16 = nI (n6) from (by rw [e1913, fa_u_n _ _ (by omega)]; exact (by rw [e1910, fa_u_n _ _ (by omega)]; exact (by rw [e1904, fa_u_n _ _ (by omega)]; exact g6)))).trans g6.symm)), (fun A hok hc p hp e => absurd e.symm (fb_nI_ne1 (by have := hok.1; omega)))⟩, (by rw [e1913]; exact fa_fr.u (by rw [e1910]; exact fa_fr.u (by rw [e1904]; exact fa_fr.u fa_fr.rf (by omega)) (by omega)) (by omega))⟩⟩)
  · subst etp
    refine lv_aload_n hx hb dX7_asks_0 rfl (lv_at hl 0 rfl) ?_
    refine fa_getr (k := 397) (j := 398) CX HX fl_X7_7 (by omega) rfl rfl hM.1 dX7_asks_1 ?_
    refine lv_iload_n hx hb dX7_asks_4 rfl (lv_at hl 1 rfl) ?_
    refine fa_callSip (As := [.int (nI (tp))]) (rest := [.ref (fa_B G + (398))]) CX HX (r_f l G n v r (tp)) ln_X7_36 rfl rfl (Nat.le_of_ble_eq_true rfl) hl.1 ⟨Nat.le_of_ble_eq_true rfl, Nat.le_of_ble_eq_true rfl⟩ ⟨Nat.le_refl _, Nat.le_refl _⟩ dX7_asks_5 (fun x1919 H locs h1918 HX1920 => ?_)
    subst h1918
    refine lv_iconst (v := nI (4)) hx hb dX7_asks_8 (by decide) ?_
    refine fa_iaddN hx hb dX7_asks_9 ?_
    refine lv_aload_n hx hb dX7_asks_10 rfl (lv_at hl 0 rfl) ?_
    refine fa_getr (k := 397) (j := 398) CX HX1920 fl_X7_7 (by omega) rfl rfl hM.1 dX7_asks_11 ?_
    refine lv_bipush (v := nI (7)) hx hb dX7_asks_14 (by decide) ?_
    refine fa_iald (k := 398) (j := 7) CX HX1920 (by omega) rfl (by omega) (by first | decide | assumption) dX7_asks_16 ?_
    refine fa_iast (k := 398) (j := 17 + 15 * tp + 4) CX HX1920 (by omega) rfl (by omega) (by first | decide | assumption) dX7_asks_17 (fun H locs v1921 e1922 HX1923 => ?_)
    refine lv_aload_n hx hb dX7_asks_18 rfl (lv_at hl 0 rfl) ?_
    refine fa_getr (k := 397) (j := 398) CX HX1923 fl_X7_7 (by omega) rfl rfl hM.1 dX7_asks_19 ?_
    refine lv_iload_n hx hb dX7_asks_22 rfl (lv_at hl 1 rfl) ?_
    refine fa_callSip (As := [.int (nI (tp))]) (rest := [.ref (fa_B G + (398))]) CX HX1923 (r_f l G n v1921 r (tp)) ln_X7_36 rfl rfl (Nat.le_of_ble_eq_true rfl) hl.1 ⟨Nat.le_of_ble_eq_true rfl, Nat.le_of_ble_eq_true rfl⟩ ⟨Nat.le_refl _, Nat.le_refl _⟩ dX7_asks_23 (fun x1925 H locs h1924 HX1926 => ?_)
    subst h1924
    refine lv_iconst (v := nI (5)) hx hb dX7_asks_26 (by decide) ?_
    refine fa_iaddN hx hb dX7_asks_27 ?_
    refine lv_dup2_11 hx hb dX7_asks_28 rfl rfl ?_
    refine fa_iald (k := 398) (j := 17 + 15 * tp + 5) CX HX1926 (by omega) rfl (by omega) (by first | decide | assumption) dX7_asks_29 ?_
    refine lv_iconst (v := nI (1)) hx hb dX7_asks_30 (by decide) ?_
    refine lv_iadd hx hb dX7_asks_31 ?_
    refine fa_iast (k := 398) (j := 17 + 15 * tp + 5) CX HX1926 (by omega) rfl (by omega) (by first | decide | assumption) dX7_asks_32 (fun H locs v1927 e1928 HX1929 => ?_)
    refine lv_aload_n hx hb dX7_asks_33 rfl (lv_at hl 0 rfl) ?_
    refine fa_getr (k := 397) (j := 398) CX HX1929 fl_X7_7 (by omega) rfl rfl hM.1 dX7_asks_34 ?_
    refine lv_bipush (v := nI (11)) hx hb dX7_asks_37 (by decide) ?_
    refine lv_dup2_11 hx hb dX7_asks_39 rfl rfl ?_
    refine fa_iald (k := 398) (j := 11) CX HX1929 (by omega) rfl (by omega) (by first | decide | assumption) dX7_asks_40 ?_
    refine lv_iconst (v := nI (1)) hx hb dX7_asks_41 (by decide) ?_
    refine lv_iadd hx hb dX7_asks_42 ?_
    refine fa_iast (k := 398) (j := 11) CX HX1929 (by omega) rfl (by omega) (by first | decide | assumption) dX7_asks_43 (fun H locs v1930 e1931 HX1932 => ?_)
    refine lv_aload_n hx hb dX7_asks_44 rfl (lv_at hl 0 rfl) ?_
    refine fa_getr (k := 397) (j := 398) CX HX1932 fl_X7_7 (by omega) rfl rfl hM.1 dX7_asks_45 ?_
    refine lv_iload_n hx hb dX7_asks_48 rfl (lv_at hl 1 rfl) ?_
    refine fa_callSip (As := [.int (nI (tp))]) (rest := [.ref (fa_B G + (398))]) CX HX1932 (r_f l G n v1930 r (tp)) ln_X7_36 rfl rfl (Nat.le_of_ble_eq_true rfl) hl.1 ⟨Nat.le_of_ble_eq_true rfl, Nat.le_of_ble_eq_true rfl⟩ ⟨Nat.le_refl _, Nat.le_refl _⟩ dX7_asks_49 (fun x1934 H locs h1933 HX1935 => ?_)
    subst h1933
    refine lv_iconst (v := nI (5)) hx hb dX7_asks_52 (by decide) ?_
    refine fa_iaddN hx hb dX7_asks_53 ?_
    refine fa_iald (k := 398) (j := 17 + 15 * tp + 5) CX HX1935 (by omega) rfl (by omega) (by first | decide | assumption) dX7_asks_54 ?_
    exact RET _ _ _ _ _ _ _ HX1935 dX7_asks_55 (⟨rfl, ⟨⟨(show fa_MS (v1930 398) from by rw [e1931]; exact fa_MS.u (show fa_MS (v1927 398) from by rw [e1928]; exact fa_MS.u (show fa_MS (v1921 398) from by rw [e1922]; exact fa_MS.u hS (fa_ok.o (by omega) (by omega) (by omega) (fun p hp => by omega))) (fa_ok.o (by omega) (by omega) (by omega) (fun p hp => by omega))) (fa_ok.o (by omega) (by omega) (by omega) (fun p hp => by omega))), (show v1930 398 14 = v 398 14 from ((show v1930 398 14 = nI (n4) from (by rw [e1931, fa_u_n _ _ (by omega)]; exact (by rw [e1928, fa_u_n _ _ (by omega)]; exact (by rw [e1922, fa_u_n _ _ (by omega)]; exact g4)))).trans g4.symm)), (show v1930 398 15 = v 398 15 from ((show v1930 398 15 = nI (n5) from (by rw [e1931, fa_u_n _ _ (by omega)]; exact (by rw [e1928, fa_u_n _ _ (by omega)]; exact (by rw [e1922, fa_u_n _ _ (by omega)]; exact g5)))).trans g5.symm)), (show v1930 398 16 = v 398 16 from ((show v1930 398 16 = nI (n6) from (by rw [e1931, fa_u_n _ _ (by omega)]; exact (by rw [e1928, fa_u_n _ _ (by omega)]; exact (by rw [e1922, fa_u_n _ _ (by omega)]; exact g6)))).trans g6.symm)), (fun A hok hc p hp e => by (have ep : tp = p := fa_nIinj (by omega) (by have := hok.1; omega) e; subst ep; exact fb_m_ask hc hp e1922 e1928 e1931))⟩, (by rw [e1931]; exact fa_fr.u (by rw [e1928]; exact fa_fr.u (by rw [e1922]; exact fa_fr.u fa_fr.rf (by omega)) (by omega)) (by omega))⟩⟩)
