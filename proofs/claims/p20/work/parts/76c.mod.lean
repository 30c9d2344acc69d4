set_option maxHeartbeats 4000000 in
set_option maxRecDepth 100000 in
theorem r_adds (l : Launch) (G : fa_G) (n : Nat) (hn : 406 ≤ n) (v : fa_V) (r : fa_R) (hM : fa_RM r) (hS : fa_MS (v 398)) (a1 : Int32) (a2 : Int32) : fa_MI l G n yX7_adds cX7_adds 5 (some .int) 3 [.ref (fa_B G + (397)), .int (a1), .int (a2)] v r (fa_voi r (fun x v1 => ((fa_MS (v1 398)) ∧ (v1 398 15 = v 398 15) ∧ (v1 398 16 = v 398 16) ∧ (∀ A, fb_okA A → fb_mA (v 398) A → x = (fb_addA A a1 a2).1 ∧ fb_mA (v1 398) (fb_addA A a1 a2).2)) ∧ (fa_fr (398) (399) v v1))) := by
  refine fa_startI (by decide +kernel) (Nat.le_of_ble_eq_true rfl) (fun p e s m args below meth c ls Q CX hl HX RET => ?_)
  have hl : lv_has ls 5 [(0, .ref (fa_B G + (397))), (1, .int (a1)), (2, .int (a2))] := hl
  have hx := CX.1.1
  have hb := CX.1.2.1
  obtain ⟨n4, en4⟩ : ∃ m, m = fa_N (v 398 14) := ⟨_, rfl⟩
  obtain ⟨hn4, g4⟩ := hS.n4 en4
  obtain ⟨n5, en5⟩ : ∃ m, m = fa_N (v 398 15) := ⟨_, rfl⟩
  obtain ⟨hn5, g5⟩ := hS.n5 en5
  obtain ⟨n6, en6⟩ : ∃ m, m = fa_N (v 398 16) := ⟨_, rfl⟩
  obtain ⟨hn6, g6⟩ := hS.n6 en6
  refine lv_iload_n hx hb dX7_adds_0 rfl (lv_at hl 1 rfl) ?_
  refine lv_iconst (v := nI (0)) hx hb dX7_adds_1 (by decide) ?_
  refine lv_iconst (v := nI (4)) hx hb dX7_adds_2 (by decide) ?_
  refine fa_callSip (As := [.int (a1), .int (nI (0)), .int (nI (4))]) (rest := []) CX HX (r_in l G n v r (a1) (nI (0)) (nI (4))) ln_X7_86 rfl rfl (Nat.le_of_ble_eq_true rfl) hl.1 ⟨Nat.le_of_ble_eq_true rfl, Nat.le_of_ble_eq_true rfl⟩ ⟨Nat.le_refl _, Nat.le_refl _⟩ dX7_adds_3 (fun x1977 H locs h1976 HX1978 => ?_)
  have h_in_3 := h1976
  refine lv_if_eq (tgt := 19) hx hb dX7_adds_6 (by decide) (fun c_6 => ?_) (fun c_6 => ?_)
  · refine lv_bipush (v := (-2 : Int32)) hx hb dX7_adds_19 (by decide) ?_
    exact RET _ _ _ _ _ _ _ HX1978 dX7_adds_21 (⟨rfl, ⟨⟨hS, (show v 398 15 = v 398 15 from rfl), (show v 398 16 = v 398 16 from rfl), (fun A hok hc => by (rw [fb_addA_1 ((fa_in0 h_in_3 c_6).elim Or.inl (fun z => Or.inr (Or.inl z)))]; exact ⟨rfl, hc⟩))⟩, fa_fr.rf⟩⟩)
  · obtain ⟨ka, hka, eka⟩ := fa_inN (by decide) (fa_in1 h_in_3 c_6)
    refine lv_iload_n hx hb dX7_adds_9 rfl (lv_at hl 2 rfl) ?_
    refine lv_iconst (v := nI (1)) hx hb dX7_adds_10 (by decide) ?_
    refine lv_bipush (v := nI (50)) hx hb dX7_adds_11 (by decide) ?_
    refine fa_callSip (As := [.int (a2), .int (nI (1)), .int (nI (50))]) (rest := []) CX HX1978 (r_in l G n v r (a2) (nI (1)) (nI (50))) ln_X7_86 rfl rfl (Nat.le_of_ble_eq_true rfl) hl.1 ⟨Nat.le_of_ble_eq_true rfl, Nat.le_of_ble_eq_true rfl⟩ ⟨Nat.le_refl _, Nat.le_refl _⟩ dX7_adds_13 (fun x1980 H locs h1979 HX1981 => ?_)
    have h_in_13 := h1979
    refine lv_if_ne (tgt := 22) hx hb dX7_adds_16 (by decide) (fun c_16 => ?_) (fun c_16 => ?_)
    · refine lv_aload_n hx hb dX7_adds_22 rfl (lv_at hl 0 rfl) ?_
      refine fa_getr (k := 397) (j := 398) CX HX1981 fl_X7_7 (by omega) rfl rfl hM.1 dX7_adds_23 ?_
      refine lv_bipush (v := nI (14)) hx hb dX7_adds_26 (by decide) ?_
      refine fa_iald (k := 398) (j := 14) CX HX1981 (by omega) rfl (by omega) (by first | decide | assumption) dX7_adds_28 ?_
      rw [show v 398 14 = nI (n4) from g4]
      refine lv_bipush (v := nI (24)) hx hb dX7_adds_29 (by decide) ?_
      refine lv_icmp_eq (tgt := 63) hx hb dX7_adds_31 (by decide) (fun c_31 => ?_) (fun c_31 => ?_)
      · refine lv_bipush (v := (-4 : Int32)) hx hb dX7_adds_63 (by decide) ?_
        exact RET _ _ _ _ _ _ _ HX1981 dX7_adds_65 (⟨rfl, ⟨⟨hS, (show v 398 15 = v 398 15 from rfl), (show v 398 16 = v 398 16 from rfl), (fun A hok hc => by (rw [fb_addA_2 (fun z => z.elim (fun y => fa_in1 h_in_3 c_6 (Or.inl y)) (fun z => z.elim (fun y => fa_in1 h_in_3 c_6 (Or.inr y)) (fun z => z.elim (fun y => fa_in1 h_in_13 c_16 (Or.inl y)) (fun y => fa_in1 h_in_13 c_16 (Or.inr (Int32.not_le.mp y)))))) (Or.inl (by have z := fa_nIinj (by omega) (by omega) c_31; rw [← hc.n, ← en4]; omega))]; exact ⟨rfl, hc⟩))⟩, fa_fr.rf⟩⟩)
      · have hne : ¬ n4 = 24 := fun z => c_31 (by rw [z])
        refine lv_aload_n hx hb dX7_adds_34 rfl (lv_at hl 0 rfl) ?_
        refine fa_getr (k := 397) (j := 398) CX HX1981 fl_X7_7 (by omega) rfl rfl hM.1 dX7_adds_35 ?_
        refine lv_bipush (v := nI (8)) hx hb dX7_adds_38 (by decide) ?_
        refine fa_iald (k := 398) (j := 8) CX HX1981 (by omega) rfl (by omega) (by first | decide | assumption) dX7_adds_40 ?_
        refine lv_sipush (v := nI (200)) hx hb dX7_adds_41 (by decide) ?_
        refine lv_icmp_eq (tgt := 63) hx hb dX7_adds_44 (by decide) (fun c_44 => ?_) (fun c_44 => ?_)
        · refine lv_bipush (v := (-4 : Int32)) hx hb dX7_adds_63 (by decide) ?_
          exact RET _ _ _ _ _ _ _ HX1981 dX7_adds_65 (⟨rfl, ⟨⟨hS, (show v 398 15 = v 398 15 from rfl), (show v 398 16 = v 398 16 from rfl), (fun A hok hc => by (rw [fb_addA_2 (fun z => z.elim (fun y => fa_in1 h_in_3 c_6 (Or.inl y)) (fun z => z.elim (fun y => fa_in1 h_in_3 c_6 (Or.inr y)) (fun z => z.elim (fun y => fa_in1 h_in_13 c_16 (Or.inl y)) (fun y => fa_in1 h_in_13 c_16 (Or.inr (Int32.not_le.mp y)))))) (Or.inr (Or.inl (by rw [← hc.g (k := 8) (by decide), c_44]; exact Int32.le_refl _)))]; exact ⟨rfl, hc⟩))⟩, fa_fr.rf⟩⟩)
        · refine lv_aload_n hx hb dX7_adds_47 rfl (lv_at hl 0 rfl) ?_
          refine fa_callVip (As := []) (rest := []) CX HX1981 (r_pages l G n hn v r hM hS ) ln_X7_90 (by omega) rfl rfl rfl rfl (Nat.le_of_ble_eq_true rfl) hl.1 ⟨Nat.le_of_ble_eq_true rfl, Nat.le_of_ble_eq_true rfl⟩ ⟨Nat.le_refl _, Nat.le_refl _⟩ dX7_adds_48 (fun x1983 H locs h1982 HX1984 => ?_)
          have h_pages := h1982
          refine lv_iload_n hx hb dX7_adds_51 rfl (lv_at hl 2 rfl) ?_
          refine lv_iadd hx hb dX7_adds_52 ?_
          refine lv_aload_n hx hb dX7_adds_53 rfl (lv_at hl 0 rfl) ?_
          refine fa_getr (k := 397) (j := 398) CX HX1984 fl_X7_7 (by omega) rfl rfl hM.1 dX7_adds_54 ?_
          refine lv_bipush (v := nI (6)) hx hb dX7_adds_57 (by decide) ?_
          refine fa_iald (k := 398) (j := 6) CX HX1984 (by omega) rfl (by omega) (by first | decide | assumption) dX7_adds_59 ?_
          refine lv_icmp_le (tgt := 66) hx hb dX7_adds_60 (by decide) (fun c_60 => ?_) (fun c_60 => ?_)
          · refine lv_aload_n hx hb dX7_adds_66 rfl (lv_at hl 0 rfl) ?_
            refine fa_getr (k := 397) (j := 398) CX HX1984 fl_X7_7 (by omega) rfl rfl hM.1 dX7_adds_67 ?_
            refine lv_bipush (v := nI (14)) hx hb dX7_adds_70 (by decide) ?_
            refine fa_iald (k := 398) (j := 14) CX HX1984 (by omega) rfl (by omega) (by first | decide | assumption) dX7_adds_72 ?_
            rw [show v 398 14 = nI (n4) from g4]
            refine fa_callSip (As := [.int (nI (n4))]) (rest := []) CX HX1984 (r_f l G n v r (n4)) ln_X7_36 rfl rfl (Nat.le_of_ble_eq_true rfl) hl.1 ⟨Nat.le_of_ble_eq_true rfl, Nat.le_of_ble_eq_true rfl⟩ ⟨Nat.le_refl _, Nat.le_refl _⟩ dX7_adds_73 (fun x1986 H locs h1985 HX1987 => ?_)
            subst h1985
            refine lv_istore_n (lv' := [(3, .int (nI (17 + 15 * n4))), (0, .ref (fa_B G + (397))), (1, .int (a1)), (2, .int (a2))]) hx hb dX7_adds_76 rfl hl (by decide) rfl (fun ls hl => ?_)
            refine lv_iconst (v := nI (0)) hx hb dX7_adds_77 (by decide) ?_
            refine lv_istore (lv' := [(4, .int (nI (0))), (3, .int (nI (17 + 15 * n4))), (0, .ref (fa_B G + (397))), (1, .int (a1)), (2, .int (a2))]) hx hb dX7_adds_78 hl (by decide) rfl (fun ls hl => ?_)
            have LOOP_80 : ∀ (fu : Nat) (k : Nat) (v1988 : fa_V) (H : Heap) (locs : List Loc) (ls : Array Slot), 15 - k < fu → (k ≤ 15 ∧ fa_MS (v1988 398) ∧ v1988 398 14 = v 398 14 ∧ v1988 398 15 = v 398 15 ∧ v1988 398 16 = v 398 16 ∧ fa_fr 398 399 v v1988 ∧ ∀ i, v1988 398 i = if 17 + 15 * n4 ≤ i ∧ i < 17 + 15 * n4 + k then nI 0 else v 398 i) → lv_has ls 5 [(0, .ref (fa_B G + (397))), (1, .int (a1)), (2, .int (a2)), (3, .int (nI (17 + 15 * n4))), (4, .int (nI (k)))] → fa_HX G (n) v1988 r s H locs → W p l e (fa_rm 3) s m args below meth c H locs (0) (0) Q (F0 m 80 ls []) := by
              intro fu
              induction fu with
              | zero => intro k v1988 H locs ls hk; exact absurd hk (Nat.not_lt_zero _)
              | succ fu ih_80 =>
                intro k v1988 H locs ls hk_80 hi_80 hl HX1989
                refine lv_iload hx hb dX7_adds_80 (lv_at hl 4 rfl) ?_
                refine lv_bipush (v := nI (15)) hx hb dX7_adds_82 (by decide) ?_
                refine lv_icmp_ge (tgt := 103) hx hb dX7_adds_84 (by decide) (fun c_84 => ?_) (fun c_84 => ?_)
                · refine lv_aload_n hx hb dX7_adds_103 rfl (lv_at hl 0 rfl) ?_
                  refine fa_getr (k := 397) (j := 398) CX HX1989 fl_X7_7 (by omega) rfl rfl hM.1 dX7_adds_104 ?_
                  refine lv_iload_n hx hb dX7_adds_107 rfl (lv_at hl 3 rfl) ?_
                  refine lv_aload_n hx hb dX7_adds_108 rfl (lv_at hl 0 rfl) ?_
                  refine fa_getr (k := 397) (j := 398) CX HX1989 fl_X7_7 (by omega) rfl rfl hM.1 dX7_adds_109 ?_
                  refine lv_bipush (v := nI (8)) hx hb dX7_adds_112 (by decide) ?_
                  refine fa_iald (k := 398) (j := 8) CX HX1989 (by omega) rfl (by omega) (by first | decide | assumption) dX7_adds_114 ?_
                  refine fa_iast (k := 398) (j := 17 + 15 * n4) CX HX1989 (by omega) rfl (by omega) (by first | decide | assumption) dX7_adds_115 (fun H locs v1990 e1991 HX1992 => ?_)
                  refine lv_aload_n hx hb dX7_adds_116 rfl (lv_at hl 0 rfl) ?_
                  refine fa_getr (k := 397) (j := 398) CX HX1992 fl_X7_7 (by omega) rfl rfl hM.1 dX7_adds_117 ?_
                  refine lv_iload_n hx hb dX7_adds_120 rfl (lv_at hl 3 rfl) ?_
                  refine lv_iconst (v := nI (1)) hx hb dX7_adds_121 (by decide) ?_
                  refine fa_iaddN hx hb dX7_adds_122 ?_
                  refine lv_iload_n hx hb dX7_adds_123 rfl (lv_at hl 1 rfl) ?_
                  rw [show a1 = nI (ka) from eka]
                  refine fa_iast (k := 398) (j := 17 + 15 * n4 + 1) CX HX1992 (by omega) rfl (by omega) (by first | decide | assumption) dX7_adds_124 (fun H locs v1993 e1994 HX1995 => ?_)
                  refine lv_aload_n hx hb dX7_adds_125 rfl (lv_at hl 0 rfl) ?_
                  refine fa_getr (k := 397) (j := 398) CX HX1995 fl_X7_7 (by omega) rfl rfl hM.1 dX7_adds_126 ?_
                  refine lv_iload_n hx hb dX7_adds_129 rfl (lv_at hl 3 rfl) ?_
                  refine lv_iconst (v := nI (2)) hx hb dX7_adds_130 (by decide) ?_
                  refine fa_iaddN hx hb dX7_adds_131 ?_
                  refine lv_iload_n hx hb dX7_adds_132 rfl (lv_at hl 2 rfl) ?_
                  refine fa_iast (k := 398) (j := 17 + 15 * n4 + 2) CX HX1995 (by omega) rfl (by omega) (by first | decide | assumption) dX7_adds_133 (fun H locs v1996 e1997 HX1998 => ?_)
                  refine lv_aload_n hx hb dX7_adds_134 rfl (lv_at hl 0 rfl) ?_
                  refine fa_getr (k := 397) (j := 398) CX HX1998 fl_X7_7 (by omega) rfl rfl hM.1 dX7_adds_135 ?_
                  refine lv_iload_n hx hb dX7_adds_138 rfl (lv_at hl 3 rfl) ?_
                  refine lv_iconst (v := nI (3)) hx hb dX7_adds_139 (by decide) ?_
                  refine fa_iaddN hx hb dX7_adds_140 ?_
                  refine lv_aload_n hx hb dX7_adds_141 rfl (lv_at hl 0 rfl) ?_
                  refine fa_getr (k := 397) (j := 398) CX HX1998 fl_X7_7 (by omega) rfl rfl hM.1 dX7_adds_142 ?_
                  refine lv_bipush (v := nI (7)) hx hb dX7_adds_145 (by decide) ?_
                  refine fa_iald (k := 398) (j := 7) CX HX1998 (by omega) rfl (by omega) (by first | decide | assumption) dX7_adds_147 ?_
                  refine fa_iast (k := 398) (j := 17 + 15 * n4 + 3) CX HX1998 (by omega) rfl (by omega) (by first | decide | assumption) dX7_adds_148 (fun H locs v1999 e2000 HX2001 => ?_)
                  refine lv_aload_n hx hb dX7_adds_149 rfl (lv_at hl 0 rfl) ?_
                  refine fa_getr (k := 397) (j := 398) CX HX2001 fl_X7_7 (by omega) rfl rfl hM.1 dX7_adds_150 ?_
                  refine lv_iload_n hx hb dX7_adds_153 rfl (lv_at hl 3 rfl) ?_
                  refine lv_iconst (v := nI (4)) hx hb dX7_adds_154 (by decide) ?_
                  refine fa_iaddN hx hb dX7_adds_155 ?_
                  refine lv_iconst (v := (-1 : Int32)) hx hb dX7_adds_156 (by decide) ?_
                  refine fa_iast (k := 398) (j := 17 + 15 * n4 + 4) CX HX2001 (by omega) rfl (by omega) (by first | decide | assumption) dX7_adds_157 (fun H locs v2002 e2003 HX2004 => ?_)
                  refine lv_aload_n hx hb dX7_adds_158 rfl (lv_at hl 0 rfl) ?_
                  refine fa_getr (k := 397) (j := 398) CX HX2004 fl_X7_7 (by omega) rfl rfl hM.1 dX7_adds_159 ?_
                  refine lv_iload_n hx hb dX7_adds_162 rfl (lv_at hl 3 rfl) ?_
                  refine lv_bipush (v := nI (6)) hx hb dX7_adds_163 (by decide) ?_
                  refine fa_iaddN hx hb dX7_adds_165 ?_
                  refine lv_iconst (v := (-1 : Int32)) hx hb dX7_adds_166 (by decide) ?_
                  refine fa_iast (k := 398) (j := 17 + 15 * n4 + 6) CX HX2004 (by omega) rfl (by omega) (by first | decide | assumption) dX7_adds_167 (fun H locs v2005 e2006 HX2007 => ?_)
                  refine lv_aload_n hx hb dX7_adds_168 rfl (lv_at hl 0 rfl) ?_
                  refine fa_getr (k := 397) (j := 398) CX HX2007 fl_X7_7 (by omega) rfl rfl hM.1 dX7_adds_169 ?_
                  refine lv_bipush (v := nI (14)) hx hb dX7_adds_172 (by decide) ?_
                  refine lv_dup2_11 hx hb dX7_adds_174 rfl rfl ?_
                  refine fa_iald (k := 398) (j := 14) CX HX2007 (by omega) rfl (by omega) (by first | decide | assumption) dX7_adds_175 ?_
                  rw [show v2005 398 14 = nI (n4) from (by rw [e2006, fa_u_n _ _ (by omega)]; exact (by rw [e2003, fa_u_n _ _ (by omega)]; exact (by rw [e2000, fa_u_n _ _ (by omega)]; exact (by rw [e1997, fa_u_n _ _ (by omega)]; exact (by rw [e1994, fa_u_n _ _ (by omega)]; exact (by rw [e1991, fa_u_n _ _ (by omega)]; exact ((hi_80.2.2.1).trans g4)))))))]
                  refine lv_iconst (v := nI (1)) hx hb dX7_adds_176 (by decide) ?_
                  refine fa_iaddN hx hb dX7_adds_177 ?_
                  refine fa_iast (k := 398) (j := 14) CX HX2007 (by omega) rfl (by omega) (by first | decide | assumption) dX7_adds_178 (fun H locs v2008 e2009 HX2010 => ?_)
                  refine lv_aload_n hx hb dX7_adds_179 rfl (lv_at hl 0 rfl) ?_
                  refine fa_getr (k := 397) (j := 398) CX HX2010 fl_X7_7 (by omega) rfl rfl hM.1 dX7_adds_180 ?_
                  refine lv_bipush (v := nI (8)) hx hb dX7_adds_183 (by decide) ?_
                  refine lv_dup2_11 hx hb dX7_adds_185 rfl rfl ?_
                  refine fa_iald (k := 398) (j := 8) CX HX2010 (by omega) rfl (by omega) (by first | decide | assumption) dX7_adds_186 ?_
                  refine lv_iconst (v := nI (1)) hx hb dX7_adds_187 (by decide) ?_
                  refine lv_iadd hx hb dX7_adds_188 ?_
                  refine fa_iast (k := 398) (j := 8) CX HX2010 (by omega) rfl (by omega) (by first | decide | assumption) dX7_adds_189 (fun H locs v2011 e2012 HX2013 => ?_)
                  refine lv_aload_n hx hb dX7_adds_190 rfl (lv_at hl 0 rfl) ?_
                  refine fa_getr (k := 397) (j := 398) CX HX2013 fl_X7_7 (by omega) rfl rfl hM.1 dX7_adds_191 ?_
                  refine lv_bipush (v := nI (8)) hx hb dX7_adds_194 (by decide) ?_
                  refine fa_iald (k := 398) (j := 8) CX HX2013 (by omega) rfl (by omega) (by first | decide | assumption) dX7_adds_196 ?_
                  refine lv_iconst (v := nI (1)) hx hb dX7_adds_197 (by decide) ?_
                  refine lv_isub hx hb dX7_adds_198 ?_
                  exact RET _ _ _ _ _ _ _ HX2013 dX7_adds_199 (⟨rfl, ⟨⟨(show fa_MS (v2011 398) from by rw [e2012]; exact fa_MS.u (show fa_MS (v2008 398) from by rw [e2009]; exact fa_MS.u (show fa_MS (v2005 398) from by rw [e2006]; exact fa_MS.u (show fa_MS (v2002 398) from by rw [e2003]; exact fa_MS.u (show fa_MS (v1999 398) from by rw [e2000]; exact fa_MS.u (show fa_MS (v1996 398) from by rw [e1997]; exact fa_MS.u (show fa_MS (v1993 398) from by rw [e1994]; exact fa_MS.u (show fa_MS (v1990 398) from by rw [e1991]; exact fa_MS.u hi_80.2.1 (fa_ok.o (by omega) (by omega) (by omega) (fun p hp => by omega))) (fa_ok.k (by omega) (by omega))) (fa_ok.o (by omega) (by omega) (by omega) (fun p hp => by omega))) (fa_ok.o (by omega) (by omega) (by omega) (fun p hp => by omega))) (fa_ok.o (by omega) (by omega) (by omega) (fun p hp => by omega))) (fa_ok.o (by omega) (by omega) (by omega) (fun p hp => by omega))) (fa_ok.n14 (by omega))) (fa_ok.o (by omega) (by omega) (by omega) (fun p hp => by omega))), (show v2011 398 15 = v 398 15 from ((show v2011 398 15 = nI (n5) from (by rw [e2012, fa_u_n _ _ (by omega)]; exact (by rw [e2009, fa_u_n _ _ (by omega)]; exact (by rw [e2006, fa_u_n _ _ (by omega)]; exact (by rw [e2003, fa_u_n _ _ (by omega)]; exact (by rw [e2000, fa_u_n _ _ (by omega)]; exact (by rw [e1997, fa_u_n _ _ (by omega)]; exact (by rw [e1994, fa_u_n _ _ (by omega)]; exact (by rw [e1991, fa_u_n _ _ (by omega)]; exact ((hi_80.2.2.2.1).trans g5)))))))))).trans g5.symm)), (show v2011 398 16 = v 398 16 from ((show v2011 398 16 = nI (n6) from (by rw [e2012, fa_u_n _ _ (by omega)]; exact (by rw [e2009, fa_u_n _ _ (by omega)]; exact (by rw [e2006, fa_u_n _ _ (by omega)]; exact (by rw [e2003, fa_u_n _ _ (by omega)]; exact (by rw [e2000, fa_u_n _ _ (by omega)]; exact (by rw [e1997, fa_u_n _ _ (by omega)]; exact (by rw [e1994, fa_u_n _ _ (by omega)]; exact (by rw [e1991, fa_u_n _ _ (by omega)]; exact ((hi_80.2.2.2.2.1).trans g6)))))))))).trans g6.symm)), (fun A hok hc => by (rw [fb_addA_3 (fun z => z.elim (fun y => fa_in1 h_in_3 c_6 (Or.inl y)) (fun z => z.elim (fun y => fa_in1 h_in_3 c_6 (Or.inr y)) (fun z => z.elim (fun y => fa_in1 h_in_13 c_16 (Or.inl y)) (fun y => fa_in1 h_in_13 c_16 (Or.inr (Int32.not_le.mp y)))))) (fun z => z.elim (fun z => by have := hok.1.1; rw [← hc.n, ← en4] at z this; omega) (fun z => z.elim (fun z => by (obtain ⟨m8, hm8, em8⟩ := hok.1.2.2.1; rw [em8] at z; have z2 := fa_leN (by omega) (by omega) z; exact c_44 (by rw [hc.g (k := 8) (by decide), em8, show m8 = 200 by omega]))) (fun z => z (by rw [← hc.pgs, ← hc.g (k := 6) (by decide), ← h_pages]; exact c_60))))]; exact fb_m_new (v := v) (a1 := a1) hc (by have := hok.1.1; rw [← hc.n, ← en4] at this ⊢; omega) (by rw [← hc.n, ← en4]) eka (by have := fa_leN (by omega) (by omega) c_84; omega) hi_80.2.2.2.2.2.2 e1991 e1994 e1997 e2000 e2003 e2006 e2009 e2012))⟩, (by rw [e2012]; exact fa_fr.u (by rw [e2009]; exact fa_fr.u (by rw [e2006]; exact fa_fr.u (by rw [e2003]; exact fa_fr.u (by rw [e2000]; exact fa_fr.u (by rw [e1997]; exact fa_fr.u (by rw [e1994]; exact fa_fr.u (by rw [e1991]; exact fa_fr.u (fa_fr.tr fa_fr.rf (fa_fr.wide hi_80.2.2.2.2.2.1 (by omega) (by omega))) (by omega)) (by omega)) (by omega)) (by omega)) (by omega)) (by omega)) (by omega)) (by omega))⟩⟩)
                · have hk := fa_ltN (by omega) (by omega) c_84
                  refine lv_aload_n hx hb dX7_adds_87 rfl (lv_at hl 0 rfl) ?_
                  refine fa_getr (k := 397) (j := 398) CX HX1989 fl_X7_7 (by omega) rfl rfl hM.1 dX7_adds_88 ?_
                  refine lv_iload_n hx hb dX7_adds_91 rfl (lv_at hl 3 rfl) ?_
                  refine lv_iload hx hb dX7_adds_92 (lv_at hl 4 rfl) ?_
                  refine fa_iaddN hx hb dX7_adds_94 ?_
                  refine lv_iconst (v := nI (0)) hx hb dX7_adds_95 (by decide) ?_
                  refine fa_iast (k := 398) (j := 17 + 15 * n4 + k) CX HX1989 (by omega) rfl (by omega) (by first | decide | assumption) dX7_adds_96 (fun H locs v2014 e2015 HX2016 => ?_)
                  refine lv_iinc (v := nI (k + 1)) (lv' := [(4, .int (nI (k + 1))), (0, .ref (fa_B G + (397))), (1, .int (a1)), (2, .int (a2)), (3, .int (nI (17 + 15 * n4)))]) hx hb dX7_adds_97 hl (k := 4) rfl (nI_add (k) 1) (by decide) rfl (fun ls hl => ?_)
                  refine lv_goto (tgt := 80) hx hb dX7_adds_100 (by decide) ?_
                  exact ih_80 (k + 1) v2014 _ _ _ (by omega) (⟨by omega, (show fa_MS (v2014 398) from by rw [e2015]; exact fa_MS.u hi_80.2.1 (fa_ok.z (by omega) rfl)), ((show v2014 398 14 = nI (n4) from (by rw [e2015, fa_u_n _ _ (by omega)]; exact ((hi_80.2.2.1).trans g4))).trans g4.symm), ((show v2014 398 15 = nI (n5) from (by rw [e2015, fa_u_n _ _ (by omega)]; exact ((hi_80.2.2.2.1).trans g5))).trans g5.symm), ((show v2014 398 16 = nI (n6) from (by rw [e2015, fa_u_n _ _ (by omega)]; exact ((hi_80.2.2.2.2.1).trans g6))).trans g6.symm), (by rw [e2015]; exact fa_fr.u (fa_fr.tr fa_fr.rf (fa_fr.wide hi_80.2.2.2.2.2.1 (by omega) (by omega))) (by omega)), fb_m_zr hi_80.2.2.2.2.2.2 e2015⟩) (lv_sub hl [1, 2, 3, 4, 0] rfl) HX2016
            exact LOOP_80 (15 - 0 + 1) (0) v _ _ _ (Nat.lt_succ_self _) (⟨Nat.zero_le _, hS, rfl, rfl, rfl, fa_fr.rf, fun i => (if_neg (by omega)).symm⟩) (lv_sub hl [2, 3, 4, 1, 0] rfl) HX1987
          · refine lv_bipush (v := (-4 : Int32)) hx hb dX7_adds_63 (by decide) ?_
            exact RET _ _ _ _ _ _ _ HX1984 dX7_adds_65 (⟨rfl, ⟨⟨hS, (show v 398 15 = v 398 15 from rfl), (show v 398 16 = v 398 16 from rfl), (fun A hok hc => by (rw [fb_addA_2 (fun z => z.elim (fun y => fa_in1 h_in_3 c_6 (Or.inl y)) (fun z => z.elim (fun y => fa_in1 h_in_3 c_6 (Or.inr y)) (fun z => z.elim (fun y => fa_in1 h_in_13 c_16 (Or.inl y)) (fun y => fa_in1 h_in_13 c_16 (Or.inr (Int32.not_le.mp y)))))) (Or.inr (Or.inr (by rw [← hc.pgs, ← hc.g (k := 6) (by decide), ← h_pages]; exact c_60)))]; exact ⟨rfl, hc⟩))⟩, fa_fr.rf⟩⟩)
    · refine lv_bipush (v := (-2 : Int32)) hx hb dX7_adds_19 (by decide) ?_
      exact RET _ _ _ _ _ _ _ HX1981 dX7_adds_21 (⟨rfl, ⟨⟨hS, (show v 398 15 = v 398 15 from rfl), (show v 398 16 = v 398 16 from rfl), (fun A hok hc => by (rw [fb_addA_1 ((fa_in0 h_in_13 (by first | exact c_16 | exact Decidable.not_not.mp c_16)).elim (fun z => Or.inr (Or.inr (Or.inl z))) (fun z => Or.inr (Or.inr (Or.inr (Int32.not_le.mpr z)))))]; exact ⟨rfl, hc⟩))⟩, fa_fr.rf⟩⟩)
